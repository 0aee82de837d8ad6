def vf_X8_targetsOf (v3 : Int32) : Int32 := (if v3 = 102 then 1 else (if v3 = 110 then 1 else (if v3 = 112 then 8 else (if v3 = 113 then 8 else (if v3 = 115 then 4 else (if v3 = 120 then 4 else 0))))))
set_option maxHeartbeats 4000000 in
set_option maxRecDepth 100000 in
theorem c_X8_targetsOf (l : Launch) (dC : Nat → ClassId) (dI : Nat → Nat → Nat) (g : Nat × Nat × Nat) (v3 : Int32) (sz : Nat) : Met l yX8_targetsOf wsX8_targetsOf ({ frames := 0, cells := 0, slots := 0, locals := 0 } : Room) (va_Pc [.int v3] (wIn dC dI g [] [] sz)) (va_Qi (fun (r : Int32) (u : Unit) => r = vf_X8_targetsOf v3) (fun (u : Unit) (t : State) => wOut dC dI [] [] (va_A [] sz) t) (va_A [] sz)) 0 0 (va_A [] sz) := by
  refine Met.ofW (cc := cX8_targetsOf) (maxL := 1) (ret := (some .int)) (by decide) rfl ?_
  intro p e s m args below meth c s₁ B hml hv
  obtain ⟨rfl, hsz, hP, hK, hD0, hG⟩ := hv
  have hx := B.exec
  have hb := B.bytes
  have hr := B.returns
  have hts := atoms_spec (ws := wsX8_targetsOf) B.pre
  have hown : s.vm.findClass RX8 = some m.cls := findClass_of_methodNamed B.named
  have hlocks := B.notSynchronized
  subst hsz
  have hD := hD0.self (sz := s.heap.size)
  generalize hAe : va_A [] s.heap.size = A at hD hG ⊢
  have hN := hG.1
  have hA : ∀ q : Nat, s.heap.size ≤ q → A q := fun q h => by rw [← hAe]; exact Or.inr h
  have hS : va_S A s.heap s.heap [] := va_S.rf
  have hP : va_P (dC, dI) vwCl [] s.heap := hP
  have hl := lv_entry ([.int v3]) (n := 1) (Nat.le_of_ble_eq_true rfl)
  rw [lg_entry_eq]
  generalize (lg_sl ([.int v3]) ++ List.replicate (1 - (lg_sl ([.int v3])).length) Slot.unset).toArray = ls at hl ⊢
  have hl : lv_has ls 1 [(0, .int v3)] := hl
  refine lv_iload_n hx hb dX8_targetsOf_0 rfl (lv_at hl 0 rfl) ?_
  by_cases c_1_0 : v3 = 102
  · refine lv_tableIn (off := 91) (tgt := 92) hx hb dX8_targetsOf_1 (by rw [c_1_0]; decide) (by rw [c_1_0]; decide) (by rw [c_1_0]; decide) (by decide) ?_
    refine lv_iconst (v := 1) hx hb dX8_targetsOf_92 (by decide) ?_
    have hP9 := hP.sub (ws' := []) [] rfl
    have hD9 := hD.sub (ws' := []) [] (by decide) rfl
    have hK9 := hK.sub (tys' := []) [] rfl
    exact W.iret (v := 1) hx hb hr (fun t ht hW => ⟨⟨1, (), rfl, (by unfold vf_X8_targetsOf; rw [if_pos c_1_0]), wOut_at ht hW hP9 hK9 hD9⟩, hS.F ht⟩) hS.2.2 dX8_targetsOf_93
  · by_cases c_1_1 : v3 = 110
    · refine lv_tableIn (off := 91) (tgt := 92) hx hb dX8_targetsOf_1 (by rw [c_1_1]; decide) (by rw [c_1_1]; decide) (by rw [c_1_1]; decide) (by decide) ?_
      refine lv_iconst (v := 1) hx hb dX8_targetsOf_92 (by decide) ?_
      have hP9 := hP.sub (ws' := []) [] rfl
      have hD9 := hD.sub (ws' := []) [] (by decide) rfl
      have hK9 := hK.sub (tys' := []) [] rfl
      exact W.iret (v := 1) hx hb hr (fun t ht hW => ⟨⟨1, (), rfl, (by unfold vf_X8_targetsOf; rw [if_neg c_1_0, if_pos c_1_1]), wOut_at ht hW hP9 hK9 hD9⟩, hS.F ht⟩) hS.2.2 dX8_targetsOf_93
    · by_cases c_1_2 : v3 = 112
      · refine lv_tableIn (off := 93) (tgt := 94) hx hb dX8_targetsOf_1 (by rw [c_1_2]; decide) (by rw [c_1_2]; decide) (by rw [c_1_2]; decide) (by decide) ?_
        refine lv_bipush (v := 8) hx hb dX8_targetsOf_94 (by decide) ?_
        have hP9 := hP.sub (ws' := []) [] rfl
        have hD9 := hD.sub (ws' := []) [] (by decide) rfl
        have hK9 := hK.sub (tys' := []) [] rfl
        exact W.iret (v := 8) hx hb hr (fun t ht hW => ⟨⟨8, (), rfl, (by unfold vf_X8_targetsOf; rw [if_neg c_1_0, if_neg c_1_1, if_pos c_1_2]), wOut_at ht hW hP9 hK9 hD9⟩, hS.F ht⟩) hS.2.2 dX8_targetsOf_96
      · by_cases c_1_3 : v3 = 113
        · refine lv_tableIn (off := 98) (tgt := 99) hx hb dX8_targetsOf_1 (by rw [c_1_3]; decide) (by rw [c_1_3]; decide) (by rw [c_1_3]; decide) (by decide) ?_
          refine lv_bipush (v := 8) hx hb dX8_targetsOf_99 (by decide) ?_
          have hP9 := hP.sub (ws' := []) [] rfl
          have hD9 := hD.sub (ws' := []) [] (by decide) rfl
          have hK9 := hK.sub (tys' := []) [] rfl
          exact W.iret (v := 8) hx hb hr (fun t ht hW => ⟨⟨8, (), rfl, (by unfold vf_X8_targetsOf; rw [if_neg c_1_0, if_neg c_1_1, if_neg c_1_2, if_pos c_1_3]), wOut_at ht hW hP9 hK9 hD9⟩, hS.F ht⟩) hS.2.2 dX8_targetsOf_101
        · by_cases c_1_4 : v3 = 115
          · refine lv_tableIn (off := 96) (tgt := 97) hx hb dX8_targetsOf_1 (by rw [c_1_4]; decide) (by rw [c_1_4]; decide) (by rw [c_1_4]; decide) (by decide) ?_
            refine lv_iconst (v := 4) hx hb dX8_targetsOf_97 (by decide) ?_
            have hP9 := hP.sub (ws' := []) [] rfl
            have hD9 := hD.sub (ws' := []) [] (by decide) rfl
            have hK9 := hK.sub (tys' := []) [] rfl
            exact W.iret (v := 4) hx hb hr (fun t ht hW => ⟨⟨4, (), rfl, (by unfold vf_X8_targetsOf; rw [if_neg c_1_0, if_neg c_1_1, if_neg c_1_2, if_neg c_1_3, if_pos c_1_4]), wOut_at ht hW hP9 hK9 hD9⟩, hS.F ht⟩) hS.2.2 dX8_targetsOf_98
          · by_cases c_1_5 : v3 = 120
            · refine lv_tableIn (off := 96) (tgt := 97) hx hb dX8_targetsOf_1 (by rw [c_1_5]; decide) (by rw [c_1_5]; decide) (by rw [c_1_5]; decide) (by decide) ?_
              refine lv_iconst (v := 4) hx hb dX8_targetsOf_97 (by decide) ?_
              have hP9 := hP.sub (ws' := []) [] rfl
              have hD9 := hD.sub (ws' := []) [] (by decide) rfl
              have hK9 := hK.sub (tys' := []) [] rfl
              exact W.iret (v := 4) hx hb hr (fun t ht hW => ⟨⟨4, (), rfl, (by unfold vf_X8_targetsOf; rw [if_neg c_1_0, if_neg c_1_1, if_neg c_1_2, if_neg c_1_3, if_neg c_1_4, if_pos c_1_5]), wOut_at ht hW hP9 hK9 hD9⟩, hS.F ht⟩) hS.2.2 dX8_targetsOf_98
            · have n9_0 : ¬ v3.toInt = 102 := lv_neT c_1_0 rfl
              have n9_1 : ¬ v3.toInt = 110 := lv_neT c_1_1 rfl
              have n9_2 : ¬ v3.toInt = 112 := lv_neT c_1_2 rfl
              have n9_3 : ¬ v3.toInt = 113 := lv_neT c_1_3 rfl
              have n9_4 : ¬ v3.toInt = 115 := lv_neT c_1_4 rfl
              have n9_5 : ¬ v3.toInt = 120 := lv_neT c_1_5 rfl
              by_cases c9 : v3.toInt < 102 ∨ 120 < v3.toInt
              · refine lv_tableOut (tgt := 102) hx hb dX8_targetsOf_1 c9 (by decide) ?_
                refine lv_iconst (v := 0) hx hb dX8_targetsOf_102 (by decide) ?_
                have hP9 := hP.sub (ws' := []) [] rfl
                have hD9 := hD.sub (ws' := []) [] (by decide) rfl
                have hK9 := hK.sub (tys' := []) [] rfl
                exact W.iret (v := 0) hx hb hr (fun t ht hW => ⟨⟨0, (), rfl, (by unfold vf_X8_targetsOf; rw [if_neg c_1_0, if_neg c_1_1, if_neg c_1_2, if_neg c_1_3, if_neg c_1_4, if_neg c_1_5]), wOut_at ht hW hP9 hK9 hD9⟩, hS.F ht⟩) hS.2.2 dX8_targetsOf_103
              · refine lv_tableIn (off := 101) (tgt := 102) hx hb dX8_targetsOf_1 (by omega) (by omega) (by have h8 : (v3.toInt - 102).toNat = 1 ∨ (v3.toInt - 102).toNat = 2 ∨ (v3.toInt - 102).toNat = 3 ∨ (v3.toInt - 102).toNat = 4 ∨ (v3.toInt - 102).toNat = 5 ∨ (v3.toInt - 102).toNat = 6 ∨ (v3.toInt - 102).toNat = 7 ∨ (v3.toInt - 102).toNat = 9 ∨ (v3.toInt - 102).toNat = 12 ∨ (v3.toInt - 102).toNat = 14 ∨ (v3.toInt - 102).toNat = 15 ∨ (v3.toInt - 102).toNat = 16 ∨ (v3.toInt - 102).toNat = 17 := (by omega); rcases h8 with h8 | h8 | h8 | h8 | h8 | h8 | h8 | h8 | h8 | h8 | h8 | h8 | h8 <;> rw [h8] <;> rfl) (by decide) ?_
                refine lv_iconst (v := 0) hx hb dX8_targetsOf_102 (by decide) ?_
                have hP9 := hP.sub (ws' := []) [] rfl
                have hD9 := hD.sub (ws' := []) [] (by decide) rfl
                have hK9 := hK.sub (tys' := []) [] rfl
                exact W.iret (v := 0) hx hb hr (fun t ht hW => ⟨⟨0, (), rfl, (by unfold vf_X8_targetsOf; rw [if_neg c_1_0, if_neg c_1_1, if_neg c_1_2, if_neg c_1_3, if_neg c_1_4, if_neg c_1_5]), wOut_at ht hW hP9 hK9 hD9⟩, hS.F ht⟩) hS.2.2 dX8_targetsOf_103

def sp_X8_setHandler (v1 : Int32) (v2 : Int32) (v3 : Int32) (v4 : Int32) : Int32 := (if v1 < 0 then 1 else (if v1 < 8 then (if v2 < 1 then 2 else (if v2 ≤ 60 then (if v4 < 0 then 2 else (if v4 < vf_X8_targetsOf v3 then 0 else 2)) else 2)) else 1))
set_option maxHeartbeats 4000000 in
set_option maxRecDepth 100000 in
theorem c_X8_setHandler (l : Launch) (hl9 : l.stackTraces = false) (dC : Nat → ClassId) (dI : Nat → Nat → Nat) (g : Nat × Nat × Nat) (xt : Nat) (xe : Nat) (xf : Nat) (ah : Nat) (ac : Nat) (au : Nat) (ab : Nat) (an : Nat) (n1 : Nat) (n2 : Nat) (n3 : Nat) (n4 : Nat) (n5 : Nat) (ak : Nat) (ad : Nat) (cI : ClassId) (v1 : Int32) (v2 : Int32) (v3 : Int32) (v4 : Int32) (sz : Nat) : vx_Met l yX8_setHandler wsX8_setHandler ({ frames := 6, cells := 1, slots := 6, locals := 100 } : Room) (va_Pc [.ref xt, .int v1, .int v2, .int v3, .int v4] (wIn dC dI g [(xt, .inr (12, [.ref ah, .ref xe, .ref xf])), (ah, .inr (4, [.ref ac, .ref au, .ref ab, .ref an, .ref ak, .ref ad, .int 0, .int 0, .long 0])), (an, .inr (6, [.ref n1, .ref n2, .ref n3, .ref n4, .ref n5, .int 0, .int 0])), (n1, .inl (cI, 8, .inl (cn 7))), (n2, .inl (cI, 8, .inl (cn 1))), (n3, .inl (cI, 8, .inl (cn 110))), (n4, .inl (cI, 8, .inl (cn 0))), (n5, .inl (cI, 8, .inl (cn 0)))] [(cI, .int)] sz)) (va_Qi (fun (r : Int32) (u : Unit) => r = 1 ∧ sp_X8_setHandler v1 v2 v3 v4 = 0) (fun (u : Unit) (t : State) => wOut dC dI [] [(cI, .int)] (va_A [(xt, .inr (12, [.ref ah, .ref xe, .ref xf])), (ah, .inr (4, [.ref ac, .ref au, .ref ab, .ref an, .ref ak, .ref ad, .int 0, .int 0, .long 0])), (an, .inr (6, [.ref n1, .ref n2, .ref n3, .ref n4, .ref n5, .int 0, .int 0])), (n1, .inl (cI, 8, .inl (cn 7))), (n2, .inl (cI, 8, .inl (cn 1))), (n3, .inl (cI, 8, .inl (cn 110))), (n4, .inl (cI, 8, .inl (cn 0))), (n5, .inl (cI, 8, .inl (cn 0)))] sz) t) (va_A [(xt, .inr (12, [.ref ah, .ref xe, .ref xf])), (ah, .inr (4, [.ref ac, .ref au, .ref ab, .ref an, .ref ak, .ref ad, .int 0, .int 0, .long 0])), (an, .inr (6, [.ref n1, .ref n2, .ref n3, .ref n4, .ref n5, .int 0, .int 0])), (n1, .inl (cI, 8, .inl (cn 7))), (n2, .inl (cI, 8, .inl (cn 1))), (n3, .inl (cI, 8, .inl (cn 110))), (n4, .inl (cI, 8, .inl (cn 0))), (n5, .inl (cI, 8, .inl (cn 0)))] sz)) (vx_X (fun (_ : Unit) => True) (fun (E : String) (_ : Unit) (_ : State) => (E = "java/lang/IndexOutOfBoundsException" ∧ sp_X8_setHandler v1 v2 v3 v4 = 1) ∨ (E = "java/lang/IllegalArgumentException" ∧ sp_X8_setHandler v1 v2 v3 v4 = 2)) (va_A [(xt, .inr (12, [.ref ah, .ref xe, .ref xf])), (ah, .inr (4, [.ref ac, .ref au, .ref ab, .ref an, .ref ak, .ref ad, .int 0, .int 0, .long 0])), (an, .inr (6, [.ref n1, .ref n2, .ref n3, .ref n4, .ref n5, .int 0, .int 0])), (n1, .inl (cI, 8, .inl (cn 7))), (n2, .inl (cI, 8, .inl (cn 1))), (n3, .inl (cI, 8, .inl (cn 110))), (n4, .inl (cI, 8, .inl (cn 0))), (n5, .inl (cI, 8, .inl (cn 0)))] sz)) 1 6 (va_A [(xt, .inr (12, [.ref ah, .ref xe, .ref xf])), (ah, .inr (4, [.ref ac, .ref au, .ref ab, .ref an, .ref ak, .ref ad, .int 0, .int 0, .long 0])), (an, .inr (6, [.ref n1, .ref n2, .ref n3, .ref n4, .ref n5, .int 0, .int 0])), (n1, .inl (cI, 8, .inl (cn 7))), (n2, .inl (cI, 8, .inl (cn 1))), (n3, .inl (cI, 8, .inl (cn 110))), (n4, .inl (cI, 8, .inl (cn 0))), (n5, .inl (cI, 8, .inl (cn 0)))] sz) := by
  refine vx_ofW (cc := cX8_setHandler) (maxL := 7) (ret := (some .int)) (by decide) rfl ?_
  intro p e s m args below meth c s₁ B hml htab hv
  obtain ⟨rfl, hsz, hP, hK, hD0, hG⟩ := hv
  have hx := B.exec
  have hb := B.bytes
  have hr := B.returns
  have hts := atoms_spec (ws := wsX8_setHandler) B.pre
  have hown : s.vm.findClass RX8 = some m.cls := findClass_of_methodNamed B.named
  have hlocks := B.notSynchronized
  subst hsz
  have hD := hD0.self (sz := s.heap.size)
  generalize hAe : va_A [(xt, .inr (12, [.ref ah, .ref xe, .ref xf])), (ah, .inr (4, [.ref ac, .ref au, .ref ab, .ref an, .ref ak, .ref ad, .int 0, .int 0, .long 0])), (an, .inr (6, [.ref n1, .ref n2, .ref n3, .ref n4, .ref n5, .int 0, .int 0])), (n1, .inl (cI, 8, .inl (cn 7))), (n2, .inl (cI, 8, .inl (cn 1))), (n3, .inl (cI, 8, .inl (cn 110))), (n4, .inl (cI, 8, .inl (cn 0))), (n5, .inl (cI, 8, .inl (cn 0)))] s.heap.size = A at hD hG ⊢
  have hN := hG.1
  have hA : ∀ q : Nat, s.heap.size ≤ q → A q := fun q h => by rw [← hAe]; exact Or.inr h
  have hS : va_S A s.heap s.heap [] := va_S.rf
  have hP : va_P (dC, dI) vwCl [(xt, .inr (12, [.ref ah, .ref xe, .ref xf])), (ah, .inr (4, [.ref ac, .ref au, .ref ab, .ref an, .ref ak, .ref ad, .int 0, .int 0, .long 0])), (an, .inr (6, [.ref n1, .ref n2, .ref n3, .ref n4, .ref n5, .int 0, .int 0])), (n1, .inl (cI, 8, .inl (cn 7))), (n2, .inl (cI, 8, .inl (cn 1))), (n3, .inl (cI, 8, .inl (cn 110))), (n4, .inl (cI, 8, .inl (cn 0))), (n5, .inl (cI, 8, .inl (cn 0)))] s.heap := hP
  have hw0 : (Cond.classLink RX8 22 "java/lang/IndexOutOfBoundsException").before _ s = true := hts _ (List.mem_cons_of_mem _ (List.mem_append_left _ (List.mem_append_left _ (List.mem_append_left _ (List.mem_append_left _ (List.mem_append_left _ (List.mem_append_left _ (List.mem_of_getElem? (i := 0) rfl))))))))
  have hw1 : (Cond.initialized "java/lang/IndexOutOfBoundsException").before _ s = true := hts _ (List.mem_cons_of_mem _ (List.mem_append_left _ (List.mem_append_left _ (List.mem_append_left _ (List.mem_append_left _ (List.mem_append_left _ (List.mem_append_left _ (List.mem_of_getElem? (i := 1) rfl))))))))
  have hw2 : (Cond.classLink RX8 31 "java/lang/IllegalArgumentException").before _ s = true := hts _ (List.mem_cons_of_mem _ (List.mem_append_left _ (List.mem_append_left _ (List.mem_append_left _ (List.mem_append_left _ (List.mem_append_left _ (List.mem_append_left _ (List.mem_of_getElem? (i := 2) rfl))))))))
  have hw3 : (Cond.initialized "java/lang/IllegalArgumentException").before _ s = true := hts _ (List.mem_cons_of_mem _ (List.mem_append_left _ (List.mem_append_left _ (List.mem_append_left _ (List.mem_append_left _ (List.mem_append_left _ (List.mem_append_left _ (List.mem_of_getElem? (i := 3) rfl))))))))
  have hw4 : (Cond.fieldLink RX8 10 "Tickstation" "chip" "LTickstation$Chip;").before _ s = true := hts _ (List.mem_cons_of_mem _ (List.mem_append_left _ (List.mem_append_left _ (List.mem_append_left _ (List.mem_append_left _ (List.mem_append_left _ (List.mem_append_left _ (List.mem_of_getElem? (i := 4) rfl))))))))
  have hiX8 : ∀ w ∈ u_ws RX8 TX8 3, w ∈ wsX8_setHandler := fun _ h => List.mem_cons_of_mem _ (List.mem_append_left _ (List.mem_append_left _ (List.mem_append_left _ (List.mem_append_left _ (List.mem_append_left _ (List.mem_append_right _ (h)))))))
  have hw6 : (Cond.fieldLink RX8 109 "Tickstation$Chip" "lines" "LTickstation$Lines;").before _ s = true := hts _ (List.mem_cons_of_mem _ (List.mem_append_left _ (List.mem_append_left _ (List.mem_append_left _ (List.mem_append_left _ (List.mem_append_left _ (List.mem_append_left _ (List.mem_of_getElem? (i := 5) rfl))))))))
  have hiX0 : ∀ w ∈ u_ws RX0 TX0 9, w ∈ wsX8_setHandler := fun _ h => List.mem_cons_of_mem _ (List.mem_append_left _ (List.mem_append_left _ (List.mem_append_left _ (List.mem_append_left _ (List.mem_append_right _ (h))))))
  have hw8 : (Cond.fieldLink RX8 129 "Tickstation$Lines" "beats" "[I").before _ s = true := hts _ (List.mem_cons_of_mem _ (List.mem_append_left _ (List.mem_append_left _ (List.mem_append_left _ (List.mem_append_left _ (List.mem_append_left _ (List.mem_append_left _ (List.mem_of_getElem? (i := 6) rfl))))))))
  have hiX2 : ∀ w ∈ u_ws RX2 TX2 7, w ∈ wsX8_setHandler := fun _ h => List.mem_cons_of_mem _ (List.mem_append_left _ (List.mem_append_left _ (List.mem_append_left _ (List.mem_append_right _ (h)))))
  have hw10 : (Cond.fieldLink RX8 132 "Tickstation$Lines" "action" "[I").before _ s = true := hts _ (List.mem_cons_of_mem _ (List.mem_append_left _ (List.mem_append_left _ (List.mem_append_left _ (List.mem_append_left _ (List.mem_append_left _ (List.mem_append_left _ (List.mem_of_getElem? (i := 7) rfl))))))))
  have hw11 : (Cond.fieldLink RX8 133 "Tickstation$Lines" "target" "[I").before _ s = true := hts _ (List.mem_cons_of_mem _ (List.mem_append_left _ (List.mem_append_left _ (List.mem_append_left _ (List.mem_append_left _ (List.mem_append_left _ (List.mem_append_left _ (List.mem_of_getElem? (i := 8) rfl))))))))
  have hl := lv_entry ([.ref xt, .int v1, .int v2, .int v3, .int v4]) (n := 7) (Nat.le_of_ble_eq_true rfl)
  rw [lg_entry_eq]
  generalize (lg_sl ([.ref xt, .int v1, .int v2, .int v3, .int v4]) ++ List.replicate (7 - (lg_sl ([.ref xt, .int v1, .int v2, .int v3, .int v4])).length) Slot.unset).toArray = ls at hl ⊢
  have hl : lv_has ls 7 [(0, .ref xt), (1, .int v1), (2, .int v2), (3, .int v3), (4, .int v4)] := hl
  refine lv_iload_n hx hb dX8_setHandler_0 rfl (lv_at hl 1 rfl) ?_
  refine lv_if_lt (tgt := 10) hx hb dX8_setHandler_1 (by decide) (fun c_1 => ?_) (fun c_1 => ?_)
  · obtain ⟨sa9, hstr9⟩ := hG.2.2.2.1 _ (List.mem_of_getElem? (i := 0) rfl)
    exact vx_throwS (sa := sa9) hx hb hl9 hown (by decide +kernel) (by decide +kernel) hw0 hw1 hstr9 (vx_hat (fun w hw => hts w (List.mem_cons_of_mem _ (List.mem_append_left _ (List.mem_append_left _ (List.mem_append_right _ (hw)))))) xh_26 (nw_use hN)) xg_26 hG.2.2.2.2.1 hG.2.2.2.2.2.1 hS (hl.1.trans hml.symm) dX8_setHandler_10 dX8_setHandler_13 dX8_setHandler_14 dX8_setHandler_16 dX8_setHandler_19 (fun x9 hx9 => (htab x9 hx9).elim) (by decide) (by decide) (Nat.le_of_ble_eq_true rfl) (Nat.le_of_ble_eq_true rfl) hlocks (fun t hal hle hq => ⟨(), trivial, Or.inl ⟨rfl, (by unfold sp_X8_setHandler; rw [if_pos c_1])⟩, ⟨Nat.le_trans hS.1 hle, fun q h1 h2 => (hq q (Nat.lt_of_lt_of_le h1 hS.1)).trans (hS.2.1 q h1 h2)⟩⟩) hS.2.2 (Nat.le_of_ble_eq_true rfl) (Nat.le_of_ble_eq_true rfl)
  · refine lv_iload_n hx hb dX8_setHandler_4 rfl (lv_at hl 1 rfl) ?_
    refine lv_bipush (v := 8) hx hb dX8_setHandler_5 (by decide) ?_
    refine lv_icmp_lt (tgt := 20) hx hb dX8_setHandler_7 (by decide) (fun c_7 => ?_) (fun c_7 => ?_)
    · refine lv_iload_n hx hb dX8_setHandler_20 rfl (lv_at hl 2 rfl) ?_
      refine lv_iconst (v := 1) hx hb dX8_setHandler_21 (by decide) ?_
      refine lv_icmp_lt (tgt := 31) hx hb dX8_setHandler_22 (by decide) (fun c_22 => ?_) (fun c_22 => ?_)
      · obtain ⟨sa9, hstr9⟩ := hG.2.2.2.1 _ (List.mem_of_getElem? (i := 2) rfl)
        exact vx_throwS (sa := sa9) hx hb hl9 hown (by decide +kernel) (by decide +kernel) hw2 hw3 hstr9 (vx_hat (fun w hw => hts w (List.mem_cons_of_mem _ (List.mem_append_left _ (List.mem_append_right _ (hw))))) xh_35 (nw_use hN)) xg_35 hG.2.2.2.2.1 hG.2.2.2.2.2.1 hS (hl.1.trans hml.symm) dX8_setHandler_31 dX8_setHandler_34 dX8_setHandler_35 dX8_setHandler_37 dX8_setHandler_40 (fun x9 hx9 => (htab x9 hx9).elim) (by decide) (by decide) (Nat.le_of_ble_eq_true rfl) (Nat.le_of_ble_eq_true rfl) hlocks (fun t hal hle hq => ⟨(), trivial, Or.inr (⟨rfl, (by unfold sp_X8_setHandler; rw [if_neg c_1, if_pos c_7, if_pos c_22])⟩), ⟨Nat.le_trans hS.1 hle, fun q h1 h2 => (hq q (Nat.lt_of_lt_of_le h1 hS.1)).trans (hS.2.1 q h1 h2)⟩⟩) hS.2.2 (Nat.le_of_ble_eq_true rfl) (Nat.le_of_ble_eq_true rfl)
      · refine lv_iload_n hx hb dX8_setHandler_25 rfl (lv_at hl 2 rfl) ?_
        refine lv_bipush (v := 60) hx hb dX8_setHandler_26 (by decide) ?_
        refine lv_icmp_le (tgt := 41) hx hb dX8_setHandler_28 (by decide) (fun c_28 => ?_) (fun c_28 => ?_)
        · refine lv_iload hx hb dX8_setHandler_41 (lv_at hl 4 rfl) ?_
          refine lv_if_lt (tgt := 55) hx hb dX8_setHandler_43 (by decide) (fun c_43 => ?_) (fun c_43 => ?_)
          · obtain ⟨sa9, hstr9⟩ := hG.2.2.2.1 _ (List.mem_of_getElem? (i := 3) rfl)
            exact vx_throwS (sa := sa9) hx hb hl9 hown (by decide +kernel) (by decide +kernel) hw2 hw3 hstr9 (vx_hat (fun w hw => hts w (List.mem_cons_of_mem _ (List.mem_append_left _ (List.mem_append_right _ (hw))))) xh_35 (nw_use hN)) xg_35 hG.2.2.2.2.1 hG.2.2.2.2.2.1 hS (hl.1.trans hml.symm) dX8_setHandler_55 dX8_setHandler_58 dX8_setHandler_59 dX8_setHandler_61 dX8_setHandler_64 (fun x9 hx9 => (htab x9 hx9).elim) (by decide) (by decide) (Nat.le_of_ble_eq_true rfl) (Nat.le_of_ble_eq_true rfl) hlocks (fun t hal hle hq => ⟨(), trivial, Or.inr (⟨rfl, (by unfold sp_X8_setHandler; rw [if_neg c_1, if_pos c_7, if_neg c_22, if_pos c_28, if_pos c_43])⟩), ⟨Nat.le_trans hS.1 hle, fun q h1 h2 => (hq q (Nat.lt_of_lt_of_le h1 hS.1)).trans (hS.2.1 q h1 h2)⟩⟩) hS.2.2 (Nat.le_of_ble_eq_true rfl) (Nat.le_of_ble_eq_true rfl)
          · refine lv_iload hx hb dX8_setHandler_46 (lv_at hl 4 rfl) ?_
            refine lv_iload_n hx hb dX8_setHandler_48 rfl (lv_at hl 3 rfl) ?_
            have hPc := hP.sub (ws' := []) [] rfl
            have hDc := hD.sub (ws' := []) [] (by decide) rfl
            have hKc := hK.sub (tys' := []) [] rfl
            have hFc := va_free (wc := []) hD hS hA [] rfl
            refine va_calli (va_runS (As := [.int v3]) (rest := [.int v4]) ⟨hx, hb, hml, hown, hts⟩ (c_X8_targetsOf l dC dI g v3 s.heap.size) (va_cwS 1 hts gX8_setHandler_X8_targetsOf rfl rfl rfl (by decide +kernel) ⟨Nat.le_of_ble_eq_true rfl, Nat.le_of_ble_eq_true rfl⟩) ⟨wIn_blind, wIn_at hPc hKc hDc hG hS hFc⟩ rfl rfl hl.1 rfl (lv_room (Nat.le_of_ble_eq_true rfl)) dX8_setHandler_49 ⟨Nat.le_of_ble_eq_true rfl, Nat.le_of_ble_eq_true rfl⟩) hS (fun q _ h => hFc q h) hFc (fun r_1 u t H1 locs ht hvm hw hB hz1 hk1 hS => ?_)
            obtain ⟨hP1, hK1, hD1⟩ := hB
            rw [ht] at hP1
            obtain ⟨hP, hD⟩ := va_join (wr := [(xt, .inr (12, [.ref ah, .ref xe, .ref xf])), (ah, .inr (4, [.ref ac, .ref au, .ref ab, .ref an, .ref ak, .ref ad, .int 0, .int 0, .long 0])), (an, .inr (6, [.ref n1, .ref n2, .ref n3, .ref n4, .ref n5, .int 0, .int 0])), (n1, .inl (cI, 8, .inl (cn 7))), (n2, .inl (cI, 8, .inl (cn 1))), (n3, .inl (cI, 8, .inl (cn 110))), (n4, .inl (cI, 8, .inl (cn 0))), (n5, .inl (cI, 8, .inl (cn 0)))]) (w1 := []) hP hD [] [0, 1, 2, 3, 4, 5, 6, 7] rfl rfl (by decide) (by decide) hk1 hFc hP1 hD1
            generalize H1 = H at hP hS ⊢
            have hP : va_P (dC, dI) vwCl [(xt, .inr (12, [.ref ah, .ref xe, .ref xf])), (ah, .inr (4, [.ref ac, .ref au, .ref ab, .ref an, .ref ak, .ref ad, .int 0, .int 0, .long 0])), (an, .inr (6, [.ref n1, .ref n2, .ref n3, .ref n4, .ref n5, .int 0, .int 0])), (n1, .inl (cI, 8, .inl (cn 7))), (n2, .inl (cI, 8, .inl (cn 1))), (n3, .inl (cI, 8, .inl (cn 110))), (n4, .inl (cI, 8, .inl (cn 0))), (n5, .inl (cI, 8, .inl (cn 0)))] H := hP
            have hD : va_D A [(xt, .inr (12, [.ref ah, .ref xe, .ref xf])), (ah, .inr (4, [.ref ac, .ref au, .ref ab, .ref an, .ref ak, .ref ad, .int 0, .int 0, .long 0])), (an, .inr (6, [.ref n1, .ref n2, .ref n3, .ref n4, .ref n5, .int 0, .int 0])), (n1, .inl (cI, 8, .inl (cn 7))), (n2, .inl (cI, 8, .inl (cn 1))), (n3, .inl (cI, 8, .inl (cn 110))), (n4, .inl (cI, 8, .inl (cn 0))), (n5, .inl (cI, 8, .inl (cn 0)))] := hD
            refine lt_ci (y := vf_X8_targetsOf v3) hw ?_
            refine lv_icmp_lt (tgt := 65) hx hb dX8_setHandler_52 (by decide) (fun c_52 => ?_) (fun c_52 => ?_)
            · refine lv_aload_n hx hb dX8_setHandler_65 rfl (lv_at hl 0 rfl) ?_
              refine va_get (D := (dC, dI)) (ci := 12) (v := .ref ah) (C := RX8) (T := TX8) (N := 3) hx hb hts hiX8 hown hK hP 0 rfl rfl 0 (by decide) (hw4) (fun _ h9 => h9) rfl dX8_setHandler_66 ?_
              refine va_get (D := (dC, dI)) (ci := 4) (v := .ref an) (C := RX0) (T := TX0) (N := 9) hx hb hts hiX0 hown hK hP 1 rfl rfl 3 (by decide) (hw6) (fun _ h9 => h9) rfl dX8_setHandler_69 ?_
              refine lv_astore (lv' := [(5, .ref an), (0, .ref xt), (1, .int v1), (2, .int v2), (3, .int v3), (4, .int v4)]) hx hb dX8_setHandler_72 hl (by decide) rfl (fun ls hl => ?_)
              refine lv_aload hx hb dX8_setHandler_74 (lv_at hl 0 rfl) ?_
              refine va_get (D := (dC, dI)) (ci := 6) (v := .ref n2) (C := RX2) (T := TX2) (N := 7) hx hb hts hiX2 hown hK hP 2 rfl rfl 1 (by decide) (hw8) (fun _ h9 => h9) rfl dX8_setHandler_76 ?_
              refine lv_iload_n hx hb dX8_setHandler_79 rfl (lv_at hl 2 rfl) ?_
              refine va_iald (D := (dC, dI)) hx hb hK hP 4 0 rfl rfl (vp_in_iff.mpr ⟨i_l0 c_1, i_u8 c_7⟩) dX8_setHandler_80 ?_
              refine lt_ci (y := 1) rfl ?_
              refine lv_istore (lv' := [(6, .int 1), (5, .ref an), (0, .ref xt), (1, .int v1), (2, .int v2), (3, .int v3), (4, .int v4)]) hx hb dX8_setHandler_81 hl (by decide) rfl (fun ls hl => ?_)
              refine lv_aload hx hb dX8_setHandler_83 (lv_at hl 1 rfl) ?_
              refine va_get (D := (dC, dI)) (ci := 6) (v := .ref n2) (C := RX2) (T := TX2) (N := 7) hx hb hts hiX2 hown hK hP 2 rfl rfl 1 (by decide) (hw8) (fun _ h9 => h9) rfl dX8_setHandler_85 ?_
              refine lv_iload_n hx hb dX8_setHandler_88 rfl (lv_at hl 3 rfl) ?_
              refine lv_iload_n hx hb dX8_setHandler_89 rfl (lv_at hl 4 rfl) ?_
              refine va_iast (D := (dC, dI)) hx hb hK hP hD hS 4 0 rfl rfl (vp_in_iff.mpr ⟨i_l0 c_1, i_u8 c_7⟩) dX8_setHandler_90 (fun H locs hP hD hS => ?_)
              have hP : va_P (dC, dI) vwCl [(xt, .inr (12, [.ref ah, .ref xe, .ref xf])), (ah, .inr (4, [.ref ac, .ref au, .ref ab, .ref an, .ref ak, .ref ad, .int 0, .int 0, .long 0])), (an, .inr (6, [.ref n1, .ref n2, .ref n3, .ref n4, .ref n5, .int 0, .int 0])), (n1, .inl (cI, 8, .inl (cn 7))), (n2, .inl (cI, 8, .inl (upd (cn 1) (v1).toNatClampNeg v2))), (n3, .inl (cI, 8, .inl (cn 110))), (n4, .inl (cI, 8, .inl (cn 0))), (n5, .inl (cI, 8, .inl (cn 0)))] H := hP
              have hD : va_D A [(xt, .inr (12, [.ref ah, .ref xe, .ref xf])), (ah, .inr (4, [.ref ac, .ref au, .ref ab, .ref an, .ref ak, .ref ad, .int 0, .int 0, .long 0])), (an, .inr (6, [.ref n1, .ref n2, .ref n3, .ref n4, .ref n5, .int 0, .int 0])), (n1, .inl (cI, 8, .inl (cn 7))), (n2, .inl (cI, 8, .inl (upd (cn 1) (v1).toNatClampNeg v2))), (n3, .inl (cI, 8, .inl (cn 110))), (n4, .inl (cI, 8, .inl (cn 0))), (n5, .inl (cI, 8, .inl (cn 0)))] := hD
              refine lv_aload hx hb dX8_setHandler_91 (lv_at hl 1 rfl) ?_
              refine va_get (D := (dC, dI)) (ci := 6) (v := .ref n3) (C := RX2) (T := TX2) (N := 7) hx hb hts hiX2 hown hK hP 2 rfl rfl 2 (by decide) (hw10) (fun _ h9 => h9) rfl dX8_setHandler_93 ?_
              refine lv_iload_n hx hb dX8_setHandler_96 rfl (lv_at hl 3 rfl) ?_
              refine lv_iload_n hx hb dX8_setHandler_97 rfl (lv_at hl 5 rfl) ?_
              refine va_iast (D := (dC, dI)) hx hb hK hP hD hS 5 0 rfl rfl (vp_in_iff.mpr ⟨i_l0 c_1, i_u8 c_7⟩) dX8_setHandler_98 (fun H locs hP hD hS => ?_)
              have hP : va_P (dC, dI) vwCl [(xt, .inr (12, [.ref ah, .ref xe, .ref xf])), (ah, .inr (4, [.ref ac, .ref au, .ref ab, .ref an, .ref ak, .ref ad, .int 0, .int 0, .long 0])), (an, .inr (6, [.ref n1, .ref n2, .ref n3, .ref n4, .ref n5, .int 0, .int 0])), (n1, .inl (cI, 8, .inl (cn 7))), (n2, .inl (cI, 8, .inl (upd (cn 1) (v1).toNatClampNeg v2))), (n3, .inl (cI, 8, .inl (upd (cn 110) (v1).toNatClampNeg v3))), (n4, .inl (cI, 8, .inl (cn 0))), (n5, .inl (cI, 8, .inl (cn 0)))] H := hP
              have hD : va_D A [(xt, .inr (12, [.ref ah, .ref xe, .ref xf])), (ah, .inr (4, [.ref ac, .ref au, .ref ab, .ref an, .ref ak, .ref ad, .int 0, .int 0, .long 0])), (an, .inr (6, [.ref n1, .ref n2, .ref n3, .ref n4, .ref n5, .int 0, .int 0])), (n1, .inl (cI, 8, .inl (cn 7))), (n2, .inl (cI, 8, .inl (upd (cn 1) (v1).toNatClampNeg v2))), (n3, .inl (cI, 8, .inl (upd (cn 110) (v1).toNatClampNeg v3))), (n4, .inl (cI, 8, .inl (cn 0))), (n5, .inl (cI, 8, .inl (cn 0)))] := hD
              refine lv_aload hx hb dX8_setHandler_99 (lv_at hl 1 rfl) ?_
              refine va_get (D := (dC, dI)) (ci := 6) (v := .ref n4) (C := RX2) (T := TX2) (N := 7) hx hb hts hiX2 hown hK hP 2 rfl rfl 3 (by decide) (hw11) (fun _ h9 => h9) rfl dX8_setHandler_101 ?_
              refine lv_iload_n hx hb dX8_setHandler_104 rfl (lv_at hl 3 rfl) ?_
              refine lv_iload hx hb dX8_setHandler_105 (lv_at hl 6 rfl) ?_
              refine va_iast (D := (dC, dI)) hx hb hK hP hD hS 6 0 rfl rfl (vp_in_iff.mpr ⟨i_l0 c_1, i_u8 c_7⟩) dX8_setHandler_107 (fun H locs hP hD hS => ?_)
              have hP : va_P (dC, dI) vwCl [(xt, .inr (12, [.ref ah, .ref xe, .ref xf])), (ah, .inr (4, [.ref ac, .ref au, .ref ab, .ref an, .ref ak, .ref ad, .int 0, .int 0, .long 0])), (an, .inr (6, [.ref n1, .ref n2, .ref n3, .ref n4, .ref n5, .int 0, .int 0])), (n1, .inl (cI, 8, .inl (cn 7))), (n2, .inl (cI, 8, .inl (upd (cn 1) (v1).toNatClampNeg v2))), (n3, .inl (cI, 8, .inl (upd (cn 110) (v1).toNatClampNeg v3))), (n4, .inl (cI, 8, .inl (upd (cn 0) (v1).toNatClampNeg v4))), (n5, .inl (cI, 8, .inl (cn 0)))] H := hP
              have hD : va_D A [(xt, .inr (12, [.ref ah, .ref xe, .ref xf])), (ah, .inr (4, [.ref ac, .ref au, .ref ab, .ref an, .ref ak, .ref ad, .int 0, .int 0, .long 0])), (an, .inr (6, [.ref n1, .ref n2, .ref n3, .ref n4, .ref n5, .int 0, .int 0])), (n1, .inl (cI, 8, .inl (cn 7))), (n2, .inl (cI, 8, .inl (upd (cn 1) (v1).toNatClampNeg v2))), (n3, .inl (cI, 8, .inl (upd (cn 110) (v1).toNatClampNeg v3))), (n4, .inl (cI, 8, .inl (upd (cn 0) (v1).toNatClampNeg v4))), (n5, .inl (cI, 8, .inl (cn 0)))] := hD
              refine lv_iload hx hb dX8_setHandler_108 (lv_at hl 0 rfl) ?_
              have hP9 := hP.sub (ws' := []) [] rfl
              have hD9 := hD.sub (ws' := []) [] (by decide) rfl
              have hK9 := hK.sub (tys' := [(cI, .int)]) [0] rfl
              refine W.widen (k := 1) (n := 6) (Nat.le_of_ble_eq_true rfl) (Nat.le_of_ble_eq_true rfl) ?_
              refine vx_ret ?_
              exact W.iret (v := 1) hx hb hr (fun t ht hW => ⟨⟨1, (), rfl, ⟨rfl, (by unfold sp_X8_setHandler; rw [if_neg c_1, if_pos c_7, if_neg c_22, if_pos c_28, if_neg c_43, if_pos c_52])⟩, wOut_at ht hW hP9 hK9 hD9⟩, hS.F ht⟩) hS.2.2 dX8_setHandler_110
            · obtain ⟨sa9, hstr9⟩ := hG.2.2.2.1 _ (List.mem_of_getElem? (i := 3) rfl)
              exact vx_throwS (sa := sa9) hx hb hl9 hown (by decide +kernel) (by decide +kernel) hw2 hw3 hstr9 (vx_hat (fun w hw => hts w (List.mem_cons_of_mem _ (List.mem_append_left _ (List.mem_append_right _ (hw))))) xh_35 (nw_use hN)) xg_35 hG.2.2.2.2.1 hG.2.2.2.2.2.1 hS (hl.1.trans hml.symm) dX8_setHandler_55 dX8_setHandler_58 dX8_setHandler_59 dX8_setHandler_61 dX8_setHandler_64 (fun x9 hx9 => (htab x9 hx9).elim) (by decide) (by decide) (Nat.le_of_ble_eq_true rfl) (Nat.le_of_ble_eq_true rfl) hlocks (fun t hal hle hq => ⟨(), trivial, Or.inr (⟨rfl, (by unfold sp_X8_setHandler; rw [if_neg c_1, if_pos c_7, if_neg c_22, if_pos c_28, if_neg c_43, if_neg c_52])⟩), ⟨Nat.le_trans hS.1 hle, fun q h1 h2 => (hq q (Nat.lt_of_lt_of_le h1 hS.1)).trans (hS.2.1 q h1 h2)⟩⟩) hS.2.2 (Nat.le_of_ble_eq_true rfl) (Nat.le_of_ble_eq_true rfl)
        · obtain ⟨sa9, hstr9⟩ := hG.2.2.2.1 _ (List.mem_of_getElem? (i := 2) rfl)
          exact vx_throwS (sa := sa9) hx hb hl9 hown (by decide +kernel) (by decide +kernel) hw2 hw3 hstr9 (vx_hat (fun w hw => hts w (List.mem_cons_of_mem _ (List.mem_append_left _ (List.mem_append_right _ (hw))))) xh_35 (nw_use hN)) xg_35 hG.2.2.2.2.1 hG.2.2.2.2.2.1 hS (hl.1.trans hml.symm) dX8_setHandler_31 dX8_setHandler_34 dX8_setHandler_35 dX8_setHandler_37 dX8_setHandler_40 (fun x9 hx9 => (htab x9 hx9).elim) (by decide) (by decide) (Nat.le_of_ble_eq_true rfl) (Nat.le_of_ble_eq_true rfl) hlocks (fun t hal hle hq => ⟨(), trivial, Or.inr (⟨rfl, (by unfold sp_X8_setHandler; rw [if_neg c_1, if_pos c_7, if_neg c_22, if_neg c_28])⟩), ⟨Nat.le_trans hS.1 hle, fun q h1 h2 => (hq q (Nat.lt_of_lt_of_le h1 hS.1)).trans (hS.2.1 q h1 h2)⟩⟩) hS.2.2 (Nat.le_of_ble_eq_true rfl) (Nat.le_of_ble_eq_true rfl)
    · obtain ⟨sa9, hstr9⟩ := hG.2.2.2.1 _ (List.mem_of_getElem? (i := 0) rfl)
      exact vx_throwS (sa := sa9) hx hb hl9 hown (by decide +kernel) (by decide +kernel) hw0 hw1 hstr9 (vx_hat (fun w hw => hts w (List.mem_cons_of_mem _ (List.mem_append_left _ (List.mem_append_left _ (List.mem_append_right _ (hw)))))) xh_26 (nw_use hN)) xg_26 hG.2.2.2.2.1 hG.2.2.2.2.2.1 hS (hl.1.trans hml.symm) dX8_setHandler_10 dX8_setHandler_13 dX8_setHandler_14 dX8_setHandler_16 dX8_setHandler_19 (fun x9 hx9 => (htab x9 hx9).elim) (by decide) (by decide) (Nat.le_of_ble_eq_true rfl) (Nat.le_of_ble_eq_true rfl) hlocks (fun t hal hle hq => ⟨(), trivial, Or.inl ⟨rfl, (by unfold sp_X8_setHandler; rw [if_neg c_1, if_neg c_7])⟩, ⟨Nat.le_trans hS.1 hle, fun q h1 h2 => (hq q (Nat.lt_of_lt_of_le h1 hS.1)).trans (hS.2.1 q h1 h2)⟩⟩) hS.2.2 (Nat.le_of_ble_eq_true rfl) (Nat.le_of_ble_eq_true rfl)

def sp_X8_setPin (v1 : Int32) (v2 : Int32) (v3 : Int32) : Int32 := (if v1 < 0 then 1 else (if 4 ≤ v1 then 1 else (if v2 < 0 then 1 else (if v2 < 8 then (if v3 = 115 then 0 else (if v3 = 99 then 0 else (if v3 = 116 then 0 else (if v3 = 110 then 0 else 2)))) else 1))))
set_option maxHeartbeats 4000000 in
set_option maxRecDepth 100000 in
theorem c_X8_setPin (l : Launch) (hl9 : l.stackTraces = false) (dC : Nat → ClassId) (dI : Nat → Nat → Nat) (g : Nat × Nat × Nat) (xt : Nat) (xe : Nat) (xf : Nat) (ah : Nat) (ac : Nat) (au : Nat) (t1 : Nat) (t2 : Nat) (t3 : Nat) (t4 : Nat) (t5 : Nat) (t6 : Nat) (t7 : Nat) (ab : Nat) (an : Nat) (ak : Nat) (ad : Nat) (cI : ClassId) (v1 : Int32) (v2 : Int32) (v3 : Int32) (sz : Nat) : vx_Met l yX8_setPin wsX8_setPin ({ frames := 6, cells := 1, slots := 6, locals := 100 } : Room) (va_Pc [.ref xt, .int v1, .int v2, .int v3] (wIn dC dI g [(xt, .inr (12, [.ref ah, .ref xe, .ref xf])), (ah, .inr (4, [.ref ac, .ref au, .ref ab, .ref an, .ref ak, .ref ad, .int 0, .int 0, .long 0])), (au, .inr (10, [.ref t1, .ref t2, .ref t3, .ref t4, .ref t5, .ref t6, .ref t7, .int 0, .int 0])), (t1, .inl (cI, 4, .inl (cn 0))), (t2, .inl (cI, 4, .inl (cn 10))), (t3, .inl (cI, 4, .inl (cn 10))), (t4, .inl (cI, 4, .inl (cn (-1)))), (t5, .inl (cI, 4, .inl (cn 0))), (t6, .inl (cI, 4, .inl (cn 0))), (t7, .inl (cI, 4, .inl (cn 110)))] [(cI, .int)] sz)) (va_Qi (fun (r : Int32) (u : Unit) => r = 110 ∧ sp_X8_setPin v1 v2 v3 = 0) (fun (u : Unit) (t : State) => wOut dC dI [] [(cI, .int)] (va_A [(xt, .inr (12, [.ref ah, .ref xe, .ref xf])), (ah, .inr (4, [.ref ac, .ref au, .ref ab, .ref an, .ref ak, .ref ad, .int 0, .int 0, .long 0])), (au, .inr (10, [.ref t1, .ref t2, .ref t3, .ref t4, .ref t5, .ref t6, .ref t7, .int 0, .int 0])), (t1, .inl (cI, 4, .inl (cn 0))), (t2, .inl (cI, 4, .inl (cn 10))), (t3, .inl (cI, 4, .inl (cn 10))), (t4, .inl (cI, 4, .inl (cn (-1)))), (t5, .inl (cI, 4, .inl (cn 0))), (t6, .inl (cI, 4, .inl (cn 0))), (t7, .inl (cI, 4, .inl (cn 110)))] sz) t) (va_A [(xt, .inr (12, [.ref ah, .ref xe, .ref xf])), (ah, .inr (4, [.ref ac, .ref au, .ref ab, .ref an, .ref ak, .ref ad, .int 0, .int 0, .long 0])), (au, .inr (10, [.ref t1, .ref t2, .ref t3, .ref t4, .ref t5, .ref t6, .ref t7, .int 0, .int 0])), (t1, .inl (cI, 4, .inl (cn 0))), (t2, .inl (cI, 4, .inl (cn 10))), (t3, .inl (cI, 4, .inl (cn 10))), (t4, .inl (cI, 4, .inl (cn (-1)))), (t5, .inl (cI, 4, .inl (cn 0))), (t6, .inl (cI, 4, .inl (cn 0))), (t7, .inl (cI, 4, .inl (cn 110)))] sz)) (vx_X (fun (_ : Unit) => True) (fun (E : String) (_ : Unit) (_ : State) => (E = "java/lang/IndexOutOfBoundsException" ∧ sp_X8_setPin v1 v2 v3 = 1) ∨ (E = "java/lang/IllegalArgumentException" ∧ sp_X8_setPin v1 v2 v3 = 2)) (va_A [(xt, .inr (12, [.ref ah, .ref xe, .ref xf])), (ah, .inr (4, [.ref ac, .ref au, .ref ab, .ref an, .ref ak, .ref ad, .int 0, .int 0, .long 0])), (au, .inr (10, [.ref t1, .ref t2, .ref t3, .ref t4, .ref t5, .ref t6, .ref t7, .int 0, .int 0])), (t1, .inl (cI, 4, .inl (cn 0))), (t2, .inl (cI, 4, .inl (cn 10))), (t3, .inl (cI, 4, .inl (cn 10))), (t4, .inl (cI, 4, .inl (cn (-1)))), (t5, .inl (cI, 4, .inl (cn 0))), (t6, .inl (cI, 4, .inl (cn 0))), (t7, .inl (cI, 4, .inl (cn 110)))] sz)) 1 6 (va_A [(xt, .inr (12, [.ref ah, .ref xe, .ref xf])), (ah, .inr (4, [.ref ac, .ref au, .ref ab, .ref an, .ref ak, .ref ad, .int 0, .int 0, .long 0])), (au, .inr (10, [.ref t1, .ref t2, .ref t3, .ref t4, .ref t5, .ref t6, .ref t7, .int 0, .int 0])), (t1, .inl (cI, 4, .inl (cn 0))), (t2, .inl (cI, 4, .inl (cn 10))), (t3, .inl (cI, 4, .inl (cn 10))), (t4, .inl (cI, 4, .inl (cn (-1)))), (t5, .inl (cI, 4, .inl (cn 0))), (t6, .inl (cI, 4, .inl (cn 0))), (t7, .inl (cI, 4, .inl (cn 110)))] sz) := by
  refine vx_ofW (cc := cX8_setPin) (maxL := 5) (ret := (some .char)) (by decide) rfl ?_
  intro p e s m args below meth c s₁ B hml htab hv
  obtain ⟨rfl, hsz, hP, hK, hD0, hG⟩ := hv
  have hx := B.exec
  have hb := B.bytes
  have hr := B.returns
  have hts := atoms_spec (ws := wsX8_setPin) B.pre
  have hown : s.vm.findClass RX8 = some m.cls := findClass_of_methodNamed B.named
  have hlocks := B.notSynchronized
  subst hsz
  have hD := hD0.self (sz := s.heap.size)
  generalize hAe : va_A [(xt, .inr (12, [.ref ah, .ref xe, .ref xf])), (ah, .inr (4, [.ref ac, .ref au, .ref ab, .ref an, .ref ak, .ref ad, .int 0, .int 0, .long 0])), (au, .inr (10, [.ref t1, .ref t2, .ref t3, .ref t4, .ref t5, .ref t6, .ref t7, .int 0, .int 0])), (t1, .inl (cI, 4, .inl (cn 0))), (t2, .inl (cI, 4, .inl (cn 10))), (t3, .inl (cI, 4, .inl (cn 10))), (t4, .inl (cI, 4, .inl (cn (-1)))), (t5, .inl (cI, 4, .inl (cn 0))), (t6, .inl (cI, 4, .inl (cn 0))), (t7, .inl (cI, 4, .inl (cn 110)))] s.heap.size = A at hD hG ⊢
  have hN := hG.1
  have hA : ∀ q : Nat, s.heap.size ≤ q → A q := fun q h => by rw [← hAe]; exact Or.inr h
  have hS : va_S A s.heap s.heap [] := va_S.rf
  have hP : va_P (dC, dI) vwCl [(xt, .inr (12, [.ref ah, .ref xe, .ref xf])), (ah, .inr (4, [.ref ac, .ref au, .ref ab, .ref an, .ref ak, .ref ad, .int 0, .int 0, .long 0])), (au, .inr (10, [.ref t1, .ref t2, .ref t3, .ref t4, .ref t5, .ref t6, .ref t7, .int 0, .int 0])), (t1, .inl (cI, 4, .inl (cn 0))), (t2, .inl (cI, 4, .inl (cn 10))), (t3, .inl (cI, 4, .inl (cn 10))), (t4, .inl (cI, 4, .inl (cn (-1)))), (t5, .inl (cI, 4, .inl (cn 0))), (t6, .inl (cI, 4, .inl (cn 0))), (t7, .inl (cI, 4, .inl (cn 110)))] s.heap := hP
  have hw0 : (Cond.classLink RX8 22 "java/lang/IndexOutOfBoundsException").before _ s = true := hts _ (List.mem_cons_of_mem _ (List.mem_append_left _ (List.mem_append_left _ (List.mem_append_left _ (List.mem_append_left _ (List.mem_append_left _ (List.mem_append_left _ (List.mem_of_getElem? (i := 0) rfl))))))))
  have hw1 : (Cond.initialized "java/lang/IndexOutOfBoundsException").before _ s = true := hts _ (List.mem_cons_of_mem _ (List.mem_append_left _ (List.mem_append_left _ (List.mem_append_left _ (List.mem_append_left _ (List.mem_append_left _ (List.mem_append_left _ (List.mem_of_getElem? (i := 1) rfl))))))))
  have hw2 : (Cond.fieldLink RX8 10 "Tickstation" "chip" "LTickstation$Chip;").before _ s = true := hts _ (List.mem_cons_of_mem _ (List.mem_append_left _ (List.mem_append_left _ (List.mem_append_left _ (List.mem_append_left _ (List.mem_append_left _ (List.mem_append_left _ (List.mem_of_getElem? (i := 4) rfl))))))))
  have hiX8 : ∀ w ∈ u_ws RX8 TX8 3, w ∈ wsX8_setPin := fun _ h => List.mem_cons_of_mem _ (List.mem_append_left _ (List.mem_append_left _ (List.mem_append_left _ (List.mem_append_left _ (List.mem_append_left _ (List.mem_append_right _ (h)))))))
  have hw4 : (Cond.fieldLink RX8 63 "Tickstation$Chip" "timers" "LTickstation$Timers;").before _ s = true := hts _ (List.mem_cons_of_mem _ (List.mem_append_left _ (List.mem_append_left _ (List.mem_append_left _ (List.mem_append_left _ (List.mem_append_left _ (List.mem_append_left _ (List.mem_of_getElem? (i := 5) rfl))))))))
  have hiX0 : ∀ w ∈ u_ws RX0 TX0 9, w ∈ wsX8_setPin := fun _ h => List.mem_cons_of_mem _ (List.mem_append_left _ (List.mem_append_left _ (List.mem_append_left _ (List.mem_append_left _ (List.mem_append_right _ (h))))))
  have hw6 : (Cond.fieldLink RX8 92 "Tickstation$Timers" "action" "[I").before _ s = true := hts _ (List.mem_cons_of_mem _ (List.mem_append_left _ (List.mem_append_left _ (List.mem_append_left _ (List.mem_append_left _ (List.mem_append_left _ (List.mem_append_left _ (List.mem_of_getElem? (i := 6) rfl))))))))
  have hiX6 : ∀ w ∈ u_ws RX6 TX6 9, w ∈ wsX8_setPin := fun _ h => List.mem_cons_of_mem _ (List.mem_append_left _ (List.mem_append_left _ (List.mem_append_left _ (List.mem_append_right _ (h)))))
  have hw8 : (Cond.fieldLink RX8 95 "Tickstation$Timers" "pin" "[I").before _ s = true := hts _ (List.mem_cons_of_mem _ (List.mem_append_left _ (List.mem_append_left _ (List.mem_append_left _ (List.mem_append_left _ (List.mem_append_left _ (List.mem_append_left _ (List.mem_of_getElem? (i := 7) rfl))))))))
  have hw9 : (Cond.classLink RX8 31 "java/lang/IllegalArgumentException").before _ s = true := hts _ (List.mem_cons_of_mem _ (List.mem_append_left _ (List.mem_append_left _ (List.mem_append_left _ (List.mem_append_left _ (List.mem_append_left _ (List.mem_append_left _ (List.mem_of_getElem? (i := 2) rfl))))))))
  have hw10 : (Cond.initialized "java/lang/IllegalArgumentException").before _ s = true := hts _ (List.mem_cons_of_mem _ (List.mem_append_left _ (List.mem_append_left _ (List.mem_append_left _ (List.mem_append_left _ (List.mem_append_left _ (List.mem_append_left _ (List.mem_of_getElem? (i := 3) rfl))))))))
  have hl := lv_entry ([.ref xt, .int v1, .int v2, .int v3]) (n := 5) (Nat.le_of_ble_eq_true rfl)
  rw [lg_entry_eq]
  generalize (lg_sl ([.ref xt, .int v1, .int v2, .int v3]) ++ List.replicate (5 - (lg_sl ([.ref xt, .int v1, .int v2, .int v3])).length) Slot.unset).toArray = ls at hl ⊢
  have hl : lv_has ls 5 [(0, .ref xt), (1, .int v1), (2, .int v2), (3, .int v3)] := hl
  refine lv_iload_n hx hb dX8_setPin_0 rfl (lv_at hl 1 rfl) ?_
  refine lv_if_lt (tgt := 19) hx hb dX8_setPin_1 (by decide) (fun c_1 => ?_) (fun c_1 => ?_)
  · obtain ⟨sa9, hstr9⟩ := hG.2.2.2.1 _ (List.mem_of_getElem? (i := 18) rfl)
    exact vx_throwS (sa := sa9) hx hb hl9 hown (by decide +kernel) (by decide +kernel) hw0 hw1 hstr9 (vx_hat (fun w hw => hts w (List.mem_cons_of_mem _ (List.mem_append_left _ (List.mem_append_left _ (List.mem_append_right _ (hw)))))) xh_26 (nw_use hN)) xg_26 hG.2.2.2.2.1 hG.2.2.2.2.2.1 hS (hl.1.trans hml.symm) dX8_setPin_19 dX8_setPin_22 dX8_setPin_23 dX8_setPin_25 dX8_setPin_28 (fun x9 hx9 => (htab x9 hx9).elim) (by decide) (by decide) (Nat.le_of_ble_eq_true rfl) (Nat.le_of_ble_eq_true rfl) hlocks (fun t hal hle hq => ⟨(), trivial, Or.inl ⟨rfl, (by unfold sp_X8_setPin; rw [if_pos c_1])⟩, ⟨Nat.le_trans hS.1 hle, fun q h1 h2 => (hq q (Nat.lt_of_lt_of_le h1 hS.1)).trans (hS.2.1 q h1 h2)⟩⟩) hS.2.2 (Nat.le_of_ble_eq_true rfl) (Nat.le_of_ble_eq_true rfl)
  · refine lv_iload_n hx hb dX8_setPin_4 rfl (lv_at hl 1 rfl) ?_
    refine lv_iconst (v := 4) hx hb dX8_setPin_5 (by decide) ?_
    refine lv_icmp_ge (tgt := 19) hx hb dX8_setPin_6 (by decide) (fun c_6 => ?_) (fun c_6 => ?_)
    · obtain ⟨sa9, hstr9⟩ := hG.2.2.2.1 _ (List.mem_of_getElem? (i := 18) rfl)
      exact vx_throwS (sa := sa9) hx hb hl9 hown (by decide +kernel) (by decide +kernel) hw0 hw1 hstr9 (vx_hat (fun w hw => hts w (List.mem_cons_of_mem _ (List.mem_append_left _ (List.mem_append_left _ (List.mem_append_right _ (hw)))))) xh_26 (nw_use hN)) xg_26 hG.2.2.2.2.1 hG.2.2.2.2.2.1 hS (hl.1.trans hml.symm) dX8_setPin_19 dX8_setPin_22 dX8_setPin_23 dX8_setPin_25 dX8_setPin_28 (fun x9 hx9 => (htab x9 hx9).elim) (by decide) (by decide) (Nat.le_of_ble_eq_true rfl) (Nat.le_of_ble_eq_true rfl) hlocks (fun t hal hle hq => ⟨(), trivial, Or.inl ⟨rfl, (by unfold sp_X8_setPin; rw [if_neg c_1, if_pos c_6])⟩, ⟨Nat.le_trans hS.1 hle, fun q h1 h2 => (hq q (Nat.lt_of_lt_of_le h1 hS.1)).trans (hS.2.1 q h1 h2)⟩⟩) hS.2.2 (Nat.le_of_ble_eq_true rfl) (Nat.le_of_ble_eq_true rfl)
    · refine lv_iload_n hx hb dX8_setPin_9 rfl (lv_at hl 2 rfl) ?_
      refine lv_if_lt (tgt := 19) hx hb dX8_setPin_10 (by decide) (fun c_10 => ?_) (fun c_10 => ?_)
      · obtain ⟨sa9, hstr9⟩ := hG.2.2.2.1 _ (List.mem_of_getElem? (i := 18) rfl)
        exact vx_throwS (sa := sa9) hx hb hl9 hown (by decide +kernel) (by decide +kernel) hw0 hw1 hstr9 (vx_hat (fun w hw => hts w (List.mem_cons_of_mem _ (List.mem_append_left _ (List.mem_append_left _ (List.mem_append_right _ (hw)))))) xh_26 (nw_use hN)) xg_26 hG.2.2.2.2.1 hG.2.2.2.2.2.1 hS (hl.1.trans hml.symm) dX8_setPin_19 dX8_setPin_22 dX8_setPin_23 dX8_setPin_25 dX8_setPin_28 (fun x9 hx9 => (htab x9 hx9).elim) (by decide) (by decide) (Nat.le_of_ble_eq_true rfl) (Nat.le_of_ble_eq_true rfl) hlocks (fun t hal hle hq => ⟨(), trivial, Or.inl ⟨rfl, (by unfold sp_X8_setPin; rw [if_neg c_1, if_neg c_6, if_pos c_10])⟩, ⟨Nat.le_trans hS.1 hle, fun q h1 h2 => (hq q (Nat.lt_of_lt_of_le h1 hS.1)).trans (hS.2.1 q h1 h2)⟩⟩) hS.2.2 (Nat.le_of_ble_eq_true rfl) (Nat.le_of_ble_eq_true rfl)
      · refine lv_iload_n hx hb dX8_setPin_13 rfl (lv_at hl 2 rfl) ?_
        refine lv_bipush (v := 8) hx hb dX8_setPin_14 (by decide) ?_
        refine lv_icmp_lt (tgt := 29) hx hb dX8_setPin_16 (by decide) (fun c_16 => ?_) (fun c_16 => ?_)
        · refine lv_iload_n hx hb dX8_setPin_29 rfl (lv_at hl 3 rfl) ?_
          refine lv_bipush (v := 115) hx hb dX8_setPin_30 (by decide) ?_
          refine lv_icmp_eq (tgt := 63) hx hb dX8_setPin_32 (by decide) (fun c_32 => ?_) (fun c_32 => ?_)
          · refine lv_aload_n hx hb dX8_setPin_63 rfl (lv_at hl 0 rfl) ?_
            refine va_get (D := (dC, dI)) (ci := 12) (v := .ref ah) (C := RX8) (T := TX8) (N := 3) hx hb hts hiX8 hown hK hP 0 rfl rfl 0 (by decide) (hw2) (fun _ h9 => h9) rfl dX8_setPin_64 ?_
            refine va_get (D := (dC, dI)) (ci := 4) (v := .ref au) (C := RX0) (T := TX0) (N := 9) hx hb hts hiX0 hown hK hP 1 rfl rfl 1 (by decide) (hw4) (fun _ h9 => h9) rfl dX8_setPin_67 ?_
            refine va_get (D := (dC, dI)) (ci := 10) (v := .ref t7) (C := RX6) (T := TX6) (N := 9) hx hb hts hiX6 hown hK hP 2 rfl rfl 6 (by decide) (hw6) (fun _ h9 => h9) rfl dX8_setPin_70 ?_
            refine lv_iload_n hx hb dX8_setPin_73 rfl (lv_at hl 1 rfl) ?_
            refine va_iald (D := (dC, dI)) hx hb hK hP 9 0 rfl rfl (vp_in_iff.mpr ⟨i_l0 c_1, i_v4 c_6⟩) dX8_setPin_74 ?_
            refine lt_ci (y := 110) rfl ?_
            refine lv_i2c (v := 110) hx hb dX8_setPin_75 (by first | rfl | decide) ?_
            refine lv_istore (lv' := [(4, .int 110), (0, .ref xt), (1, .int v1), (2, .int v2), (3, .int v3)]) hx hb dX8_setPin_76 hl (by decide) rfl (fun ls hl => ?_)
            refine lv_aload_n hx hb dX8_setPin_78 rfl (lv_at hl 1 rfl) ?_
            refine va_get (D := (dC, dI)) (ci := 12) (v := .ref ah) (C := RX8) (T := TX8) (N := 3) hx hb hts hiX8 hown hK hP 0 rfl rfl 0 (by decide) (hw2) (fun _ h9 => h9) rfl dX8_setPin_79 ?_
            refine va_get (D := (dC, dI)) (ci := 4) (v := .ref au) (C := RX0) (T := TX0) (N := 9) hx hb hts hiX0 hown hK hP 1 rfl rfl 1 (by decide) (hw4) (fun _ h9 => h9) rfl dX8_setPin_82 ?_
            refine va_get (D := (dC, dI)) (ci := 10) (v := .ref t6) (C := RX6) (T := TX6) (N := 9) hx hb hts hiX6 hown hK hP 2 rfl rfl 5 (by decide) (hw8) (fun _ h9 => h9) rfl dX8_setPin_85 ?_
            refine lv_iload_n hx hb dX8_setPin_88 rfl (lv_at hl 2 rfl) ?_
            refine lv_iload_n hx hb dX8_setPin_89 rfl (lv_at hl 3 rfl) ?_
            refine va_iast (D := (dC, dI)) hx hb hK hP hD hS 8 0 rfl rfl (vp_in_iff.mpr ⟨i_l0 c_1, i_v4 c_6⟩) dX8_setPin_90 (fun H locs hP hD hS => ?_)
            have hP : va_P (dC, dI) vwCl [(xt, .inr (12, [.ref ah, .ref xe, .ref xf])), (ah, .inr (4, [.ref ac, .ref au, .ref ab, .ref an, .ref ak, .ref ad, .int 0, .int 0, .long 0])), (au, .inr (10, [.ref t1, .ref t2, .ref t3, .ref t4, .ref t5, .ref t6, .ref t7, .int 0, .int 0])), (t1, .inl (cI, 4, .inl (cn 0))), (t2, .inl (cI, 4, .inl (cn 10))), (t3, .inl (cI, 4, .inl (cn 10))), (t4, .inl (cI, 4, .inl (cn (-1)))), (t5, .inl (cI, 4, .inl (cn 0))), (t6, .inl (cI, 4, .inl (upd (cn 0) (v1).toNatClampNeg v2))), (t7, .inl (cI, 4, .inl (cn 110)))] H := hP
            have hD : va_D A [(xt, .inr (12, [.ref ah, .ref xe, .ref xf])), (ah, .inr (4, [.ref ac, .ref au, .ref ab, .ref an, .ref ak, .ref ad, .int 0, .int 0, .long 0])), (au, .inr (10, [.ref t1, .ref t2, .ref t3, .ref t4, .ref t5, .ref t6, .ref t7, .int 0, .int 0])), (t1, .inl (cI, 4, .inl (cn 0))), (t2, .inl (cI, 4, .inl (cn 10))), (t3, .inl (cI, 4, .inl (cn 10))), (t4, .inl (cI, 4, .inl (cn (-1)))), (t5, .inl (cI, 4, .inl (cn 0))), (t6, .inl (cI, 4, .inl (upd (cn 0) (v1).toNatClampNeg v2))), (t7, .inl (cI, 4, .inl (cn 110)))] := hD
            refine lv_aload_n hx hb dX8_setPin_91 rfl (lv_at hl 1 rfl) ?_
            refine va_get (D := (dC, dI)) (ci := 12) (v := .ref ah) (C := RX8) (T := TX8) (N := 3) hx hb hts hiX8 hown hK hP 0 rfl rfl 0 (by decide) (hw2) (fun _ h9 => h9) rfl dX8_setPin_92 ?_
            refine va_get (D := (dC, dI)) (ci := 4) (v := .ref au) (C := RX0) (T := TX0) (N := 9) hx hb hts hiX0 hown hK hP 1 rfl rfl 1 (by decide) (hw4) (fun _ h9 => h9) rfl dX8_setPin_95 ?_
            refine va_get (D := (dC, dI)) (ci := 10) (v := .ref t7) (C := RX6) (T := TX6) (N := 9) hx hb hts hiX6 hown hK hP 2 rfl rfl 6 (by decide) (hw6) (fun _ h9 => h9) rfl dX8_setPin_98 ?_
            refine lv_iload_n hx hb dX8_setPin_101 rfl (lv_at hl 2 rfl) ?_
            refine lv_iload_n hx hb dX8_setPin_102 rfl (lv_at hl 4 rfl) ?_
            refine va_iast (D := (dC, dI)) hx hb hK hP hD hS 9 0 rfl rfl (vp_in_iff.mpr ⟨i_l0 c_1, i_v4 c_6⟩) dX8_setPin_103 (fun H locs hP hD hS => ?_)
            have hP : va_P (dC, dI) vwCl [(xt, .inr (12, [.ref ah, .ref xe, .ref xf])), (ah, .inr (4, [.ref ac, .ref au, .ref ab, .ref an, .ref ak, .ref ad, .int 0, .int 0, .long 0])), (au, .inr (10, [.ref t1, .ref t2, .ref t3, .ref t4, .ref t5, .ref t6, .ref t7, .int 0, .int 0])), (t1, .inl (cI, 4, .inl (cn 0))), (t2, .inl (cI, 4, .inl (cn 10))), (t3, .inl (cI, 4, .inl (cn 10))), (t4, .inl (cI, 4, .inl (cn (-1)))), (t5, .inl (cI, 4, .inl (cn 0))), (t6, .inl (cI, 4, .inl (upd (cn 0) (v1).toNatClampNeg v2))), (t7, .inl (cI, 4, .inl (upd (cn 110) (v1).toNatClampNeg v3)))] H := hP
            have hD : va_D A [(xt, .inr (12, [.ref ah, .ref xe, .ref xf])), (ah, .inr (4, [.ref ac, .ref au, .ref ab, .ref an, .ref ak, .ref ad, .int 0, .int 0, .long 0])), (au, .inr (10, [.ref t1, .ref t2, .ref t3, .ref t4, .ref t5, .ref t6, .ref t7, .int 0, .int 0])), (t1, .inl (cI, 4, .inl (cn 0))), (t2, .inl (cI, 4, .inl (cn 10))), (t3, .inl (cI, 4, .inl (cn 10))), (t4, .inl (cI, 4, .inl (cn (-1)))), (t5, .inl (cI, 4, .inl (cn 0))), (t6, .inl (cI, 4, .inl (upd (cn 0) (v1).toNatClampNeg v2))), (t7, .inl (cI, 4, .inl (upd (cn 110) (v1).toNatClampNeg v3)))] := hD
            refine lv_iload hx hb dX8_setPin_104 (lv_at hl 0 rfl) ?_
            have hP9 := hP.sub (ws' := []) [] rfl
            have hD9 := hD.sub (ws' := []) [] (by decide) rfl
            have hK9 := hK.sub (tys' := [(cI, .int)]) [0] rfl
            refine W.widen (k := 1) (n := 6) (Nat.le_of_ble_eq_true rfl) (Nat.le_of_ble_eq_true rfl) ?_
            refine vx_ret ?_
            exact W.zret (v := 110) hx hb hr (by first | rfl | decide) (fun t ht hW => ⟨⟨110, (), rfl, ⟨rfl, (by unfold sp_X8_setPin; rw [if_neg c_1, if_neg c_6, if_neg c_10, if_pos c_16, if_pos c_32])⟩, wOut_at ht hW hP9 hK9 hD9⟩, hS.F ht⟩) hS.2.2 dX8_setPin_106
          · refine lv_iload_n hx hb dX8_setPin_35 rfl (lv_at hl 3 rfl) ?_
            refine lv_bipush (v := 99) hx hb dX8_setPin_36 (by decide) ?_
            refine lv_icmp_eq (tgt := 63) hx hb dX8_setPin_38 (by decide) (fun c_38 => ?_) (fun c_38 => ?_)
            · refine lv_aload_n hx hb dX8_setPin_63 rfl (lv_at hl 0 rfl) ?_
              refine va_get (D := (dC, dI)) (ci := 12) (v := .ref ah) (C := RX8) (T := TX8) (N := 3) hx hb hts hiX8 hown hK hP 0 rfl rfl 0 (by decide) (hw2) (fun _ h9 => h9) rfl dX8_setPin_64 ?_
              refine va_get (D := (dC, dI)) (ci := 4) (v := .ref au) (C := RX0) (T := TX0) (N := 9) hx hb hts hiX0 hown hK hP 1 rfl rfl 1 (by decide) (hw4) (fun _ h9 => h9) rfl dX8_setPin_67 ?_
              refine va_get (D := (dC, dI)) (ci := 10) (v := .ref t7) (C := RX6) (T := TX6) (N := 9) hx hb hts hiX6 hown hK hP 2 rfl rfl 6 (by decide) (hw6) (fun _ h9 => h9) rfl dX8_setPin_70 ?_
              refine lv_iload_n hx hb dX8_setPin_73 rfl (lv_at hl 1 rfl) ?_
              refine va_iald (D := (dC, dI)) hx hb hK hP 9 0 rfl rfl (vp_in_iff.mpr ⟨i_l0 c_1, i_v4 c_6⟩) dX8_setPin_74 ?_
              refine lt_ci (y := 110) rfl ?_
              refine lv_i2c (v := 110) hx hb dX8_setPin_75 (by first | rfl | decide) ?_
              refine lv_istore (lv' := [(4, .int 110), (0, .ref xt), (1, .int v1), (2, .int v2), (3, .int v3)]) hx hb dX8_setPin_76 hl (by decide) rfl (fun ls hl => ?_)
              refine lv_aload_n hx hb dX8_setPin_78 rfl (lv_at hl 1 rfl) ?_
              refine va_get (D := (dC, dI)) (ci := 12) (v := .ref ah) (C := RX8) (T := TX8) (N := 3) hx hb hts hiX8 hown hK hP 0 rfl rfl 0 (by decide) (hw2) (fun _ h9 => h9) rfl dX8_setPin_79 ?_
              refine va_get (D := (dC, dI)) (ci := 4) (v := .ref au) (C := RX0) (T := TX0) (N := 9) hx hb hts hiX0 hown hK hP 1 rfl rfl 1 (by decide) (hw4) (fun _ h9 => h9) rfl dX8_setPin_82 ?_
              refine va_get (D := (dC, dI)) (ci := 10) (v := .ref t6) (C := RX6) (T := TX6) (N := 9) hx hb hts hiX6 hown hK hP 2 rfl rfl 5 (by decide) (hw8) (fun _ h9 => h9) rfl dX8_setPin_85 ?_
              refine lv_iload_n hx hb dX8_setPin_88 rfl (lv_at hl 2 rfl) ?_
              refine lv_iload_n hx hb dX8_setPin_89 rfl (lv_at hl 3 rfl) ?_
              refine va_iast (D := (dC, dI)) hx hb hK hP hD hS 8 0 rfl rfl (vp_in_iff.mpr ⟨i_l0 c_1, i_v4 c_6⟩) dX8_setPin_90 (fun H locs hP hD hS => ?_)
              have hP : va_P (dC, dI) vwCl [(xt, .inr (12, [.ref ah, .ref xe, .ref xf])), (ah, .inr (4, [.ref ac, .ref au, .ref ab, .ref an, .ref ak, .ref ad, .int 0, .int 0, .long 0])), (au, .inr (10, [.ref t1, .ref t2, .ref t3, .ref t4, .ref t5, .ref t6, .ref t7, .int 0, .int 0])), (t1, .inl (cI, 4, .inl (cn 0))), (t2, .inl (cI, 4, .inl (cn 10))), (t3, .inl (cI, 4, .inl (cn 10))), (t4, .inl (cI, 4, .inl (cn (-1)))), (t5, .inl (cI, 4, .inl (cn 0))), (t6, .inl (cI, 4, .inl (upd (cn 0) (v1).toNatClampNeg v2))), (t7, .inl (cI, 4, .inl (cn 110)))] H := hP
              have hD : va_D A [(xt, .inr (12, [.ref ah, .ref xe, .ref xf])), (ah, .inr (4, [.ref ac, .ref au, .ref ab, .ref an, .ref ak, .ref ad, .int 0, .int 0, .long 0])), (au, .inr (10, [.ref t1, .ref t2, .ref t3, .ref t4, .ref t5, .ref t6, .ref t7, .int 0, .int 0])), (t1, .inl (cI, 4, .inl (cn 0))), (t2, .inl (cI, 4, .inl (cn 10))), (t3, .inl (cI, 4, .inl (cn 10))), (t4, .inl (cI, 4, .inl (cn (-1)))), (t5, .inl (cI, 4, .inl (cn 0))), (t6, .inl (cI, 4, .inl (upd (cn 0) (v1).toNatClampNeg v2))), (t7, .inl (cI, 4, .inl (cn 110)))] := hD
              refine lv_aload_n hx hb dX8_setPin_91 rfl (lv_at hl 1 rfl) ?_
              refine va_get (D := (dC, dI)) (ci := 12) (v := .ref ah) (C := RX8) (T := TX8) (N := 3) hx hb hts hiX8 hown hK hP 0 rfl rfl 0 (by decide) (hw2) (fun _ h9 => h9) rfl dX8_setPin_92 ?_
              refine va_get (D := (dC, dI)) (ci := 4) (v := .ref au) (C := RX0) (T := TX0) (N := 9) hx hb hts hiX0 hown hK hP 1 rfl rfl 1 (by decide) (hw4) (fun _ h9 => h9) rfl dX8_setPin_95 ?_
              refine va_get (D := (dC, dI)) (ci := 10) (v := .ref t7) (C := RX6) (T := TX6) (N := 9) hx hb hts hiX6 hown hK hP 2 rfl rfl 6 (by decide) (hw6) (fun _ h9 => h9) rfl dX8_setPin_98 ?_
              refine lv_iload_n hx hb dX8_setPin_101 rfl (lv_at hl 2 rfl) ?_
              refine lv_iload_n hx hb dX8_setPin_102 rfl (lv_at hl 4 rfl) ?_
              refine va_iast (D := (dC, dI)) hx hb hK hP hD hS 9 0 rfl rfl (vp_in_iff.mpr ⟨i_l0 c_1, i_v4 c_6⟩) dX8_setPin_103 (fun H locs hP hD hS => ?_)
              have hP : va_P (dC, dI) vwCl [(xt, .inr (12, [.ref ah, .ref xe, .ref xf])), (ah, .inr (4, [.ref ac, .ref au, .ref ab, .ref an, .ref ak, .ref ad, .int 0, .int 0, .long 0])), (au, .inr (10, [.ref t1, .ref t2, .ref t3, .ref t4, .ref t5, .ref t6, .ref t7, .int 0, .int 0])), (t1, .inl (cI, 4, .inl (cn 0))), (t2, .inl (cI, 4, .inl (cn 10))), (t3, .inl (cI, 4, .inl (cn 10))), (t4, .inl (cI, 4, .inl (cn (-1)))), (t5, .inl (cI, 4, .inl (cn 0))), (t6, .inl (cI, 4, .inl (upd (cn 0) (v1).toNatClampNeg v2))), (t7, .inl (cI, 4, .inl (upd (cn 110) (v1).toNatClampNeg v3)))] H := hP
              have hD : va_D A [(xt, .inr (12, [.ref ah, .ref xe, .ref xf])), (ah, .inr (4, [.ref ac, .ref au, .ref ab, .ref an, .ref ak, .ref ad, .int 0, .int 0, .long 0])), (au, .inr (10, [.ref t1, .ref t2, .ref t3, .ref t4, .ref t5, .ref t6, .ref t7, .int 0, .int 0])), (t1, .inl (cI, 4, .inl (cn 0))), (t2, .inl (cI, 4, .inl (cn 10))), (t3, .inl (cI, 4, .inl (cn 10))), (t4, .inl (cI, 4, .inl (cn (-1)))), (t5, .inl (cI, 4, .inl (cn 0))), (t6, .inl (cI, 4, .inl (upd (cn 0) (v1).toNatClampNeg v2))), (t7, .inl (cI, 4, .inl (upd (cn 110) (v1).toNatClampNeg v3)))] := hD
              refine lv_iload hx hb dX8_setPin_104 (lv_at hl 0 rfl) ?_
              have hP9 := hP.sub (ws' := []) [] rfl
              have hD9 := hD.sub (ws' := []) [] (by decide) rfl
              have hK9 := hK.sub (tys' := [(cI, .int)]) [0] rfl
              refine W.widen (k := 1) (n := 6) (Nat.le_of_ble_eq_true rfl) (Nat.le_of_ble_eq_true rfl) ?_
              refine vx_ret ?_
              exact W.zret (v := 110) hx hb hr (by first | rfl | decide) (fun t ht hW => ⟨⟨110, (), rfl, ⟨rfl, (by unfold sp_X8_setPin; rw [if_neg c_1, if_neg c_6, if_neg c_10, if_pos c_16, if_neg c_32, if_pos c_38])⟩, wOut_at ht hW hP9 hK9 hD9⟩, hS.F ht⟩) hS.2.2 dX8_setPin_106
            · refine lv_iload_n hx hb dX8_setPin_41 rfl (lv_at hl 3 rfl) ?_
              refine lv_bipush (v := 116) hx hb dX8_setPin_42 (by decide) ?_
              refine lv_icmp_eq (tgt := 63) hx hb dX8_setPin_44 (by decide) (fun c_44 => ?_) (fun c_44 => ?_)
              · refine lv_aload_n hx hb dX8_setPin_63 rfl (lv_at hl 0 rfl) ?_
                refine va_get (D := (dC, dI)) (ci := 12) (v := .ref ah) (C := RX8) (T := TX8) (N := 3) hx hb hts hiX8 hown hK hP 0 rfl rfl 0 (by decide) (hw2) (fun _ h9 => h9) rfl dX8_setPin_64 ?_
                refine va_get (D := (dC, dI)) (ci := 4) (v := .ref au) (C := RX0) (T := TX0) (N := 9) hx hb hts hiX0 hown hK hP 1 rfl rfl 1 (by decide) (hw4) (fun _ h9 => h9) rfl dX8_setPin_67 ?_
                refine va_get (D := (dC, dI)) (ci := 10) (v := .ref t7) (C := RX6) (T := TX6) (N := 9) hx hb hts hiX6 hown hK hP 2 rfl rfl 6 (by decide) (hw6) (fun _ h9 => h9) rfl dX8_setPin_70 ?_
                refine lv_iload_n hx hb dX8_setPin_73 rfl (lv_at hl 1 rfl) ?_
                refine va_iald (D := (dC, dI)) hx hb hK hP 9 0 rfl rfl (vp_in_iff.mpr ⟨i_l0 c_1, i_v4 c_6⟩) dX8_setPin_74 ?_
                refine lt_ci (y := 110) rfl ?_
                refine lv_i2c (v := 110) hx hb dX8_setPin_75 (by first | rfl | decide) ?_
                refine lv_istore (lv' := [(4, .int 110), (0, .ref xt), (1, .int v1), (2, .int v2), (3, .int v3)]) hx hb dX8_setPin_76 hl (by decide) rfl (fun ls hl => ?_)
                refine lv_aload_n hx hb dX8_setPin_78 rfl (lv_at hl 1 rfl) ?_
                refine va_get (D := (dC, dI)) (ci := 12) (v := .ref ah) (C := RX8) (T := TX8) (N := 3) hx hb hts hiX8 hown hK hP 0 rfl rfl 0 (by decide) (hw2) (fun _ h9 => h9) rfl dX8_setPin_79 ?_
                refine va_get (D := (dC, dI)) (ci := 4) (v := .ref au) (C := RX0) (T := TX0) (N := 9) hx hb hts hiX0 hown hK hP 1 rfl rfl 1 (by decide) (hw4) (fun _ h9 => h9) rfl dX8_setPin_82 ?_
                refine va_get (D := (dC, dI)) (ci := 10) (v := .ref t6) (C := RX6) (T := TX6) (N := 9) hx hb hts hiX6 hown hK hP 2 rfl rfl 5 (by decide) (hw8) (fun _ h9 => h9) rfl dX8_setPin_85 ?_
                refine lv_iload_n hx hb dX8_setPin_88 rfl (lv_at hl 2 rfl) ?_
                refine lv_iload_n hx hb dX8_setPin_89 rfl (lv_at hl 3 rfl) ?_
                refine va_iast (D := (dC, dI)) hx hb hK hP hD hS 8 0 rfl rfl (vp_in_iff.mpr ⟨i_l0 c_1, i_v4 c_6⟩) dX8_setPin_90 (fun H locs hP hD hS => ?_)
                have hP : va_P (dC, dI) vwCl [(xt, .inr (12, [.ref ah, .ref xe, .ref xf])), (ah, .inr (4, [.ref ac, .ref au, .ref ab, .ref an, .ref ak, .ref ad, .int 0, .int 0, .long 0])), (au, .inr (10, [.ref t1, .ref t2, .ref t3, .ref t4, .ref t5, .ref t6, .ref t7, .int 0, .int 0])), (t1, .inl (cI, 4, .inl (cn 0))), (t2, .inl (cI, 4, .inl (cn 10))), (t3, .inl (cI, 4, .inl (cn 10))), (t4, .inl (cI, 4, .inl (cn (-1)))), (t5, .inl (cI, 4, .inl (cn 0))), (t6, .inl (cI, 4, .inl (upd (cn 0) (v1).toNatClampNeg v2))), (t7, .inl (cI, 4, .inl (cn 110)))] H := hP
                have hD : va_D A [(xt, .inr (12, [.ref ah, .ref xe, .ref xf])), (ah, .inr (4, [.ref ac, .ref au, .ref ab, .ref an, .ref ak, .ref ad, .int 0, .int 0, .long 0])), (au, .inr (10, [.ref t1, .ref t2, .ref t3, .ref t4, .ref t5, .ref t6, .ref t7, .int 0, .int 0])), (t1, .inl (cI, 4, .inl (cn 0))), (t2, .inl (cI, 4, .inl (cn 10))), (t3, .inl (cI, 4, .inl (cn 10))), (t4, .inl (cI, 4, .inl (cn (-1)))), (t5, .inl (cI, 4, .inl (cn 0))), (t6, .inl (cI, 4, .inl (upd (cn 0) (v1).toNatClampNeg v2))), (t7, .inl (cI, 4, .inl (cn 110)))] := hD
                refine lv_aload_n hx hb dX8_setPin_91 rfl (lv_at hl 1 rfl) ?_
                refine va_get (D := (dC, dI)) (ci := 12) (v := .ref ah) (C := RX8) (T := TX8) (N := 3) hx hb hts hiX8 hown hK hP 0 rfl rfl 0 (by decide) (hw2) (fun _ h9 => h9) rfl dX8_setPin_92 ?_
                refine va_get (D := (dC, dI)) (ci := 4) (v := .ref au) (C := RX0) (T := TX0) (N := 9) hx hb hts hiX0 hown hK hP 1 rfl rfl 1 (by decide) (hw4) (fun _ h9 => h9) rfl dX8_setPin_95 ?_
                refine va_get (D := (dC, dI)) (ci := 10) (v := .ref t7) (C := RX6) (T := TX6) (N := 9) hx hb hts hiX6 hown hK hP 2 rfl rfl 6 (by decide) (hw6) (fun _ h9 => h9) rfl dX8_setPin_98 ?_
                refine lv_iload_n hx hb dX8_setPin_101 rfl (lv_at hl 2 rfl) ?_
                refine lv_iload_n hx hb dX8_setPin_102 rfl (lv_at hl 4 rfl) ?_
                refine va_iast (D := (dC, dI)) hx hb hK hP hD hS 9 0 rfl rfl (vp_in_iff.mpr ⟨i_l0 c_1, i_v4 c_6⟩) dX8_setPin_103 (fun H locs hP hD hS => ?_)
                have hP : va_P (dC, dI) vwCl [(xt, .inr (12, [.ref ah, .ref xe, .ref xf])), (ah, .inr (4, [.ref ac, .ref au, .ref ab, .ref an, .ref ak, .ref ad, .int 0, .int 0, .long 0])), (au, .inr (10, [.ref t1, .ref t2, .ref t3, .ref t4, .ref t5, .ref t6, .ref t7, .int 0, .int 0])), (t1, .inl (cI, 4, .inl (cn 0))), (t2, .inl (cI, 4, .inl (cn 10))), (t3, .inl (cI, 4, .inl (cn 10))), (t4, .inl (cI, 4, .inl (cn (-1)))), (t5, .inl (cI, 4, .inl (cn 0))), (t6, .inl (cI, 4, .inl (upd (cn 0) (v1).toNatClampNeg v2))), (t7, .inl (cI, 4, .inl (upd (cn 110) (v1).toNatClampNeg v3)))] H := hP
                have hD : va_D A [(xt, .inr (12, [.ref ah, .ref xe, .ref xf])), (ah, .inr (4, [.ref ac, .ref au, .ref ab, .ref an, .ref ak, .ref ad, .int 0, .int 0, .long 0])), (au, .inr (10, [.ref t1, .ref t2, .ref t3, .ref t4, .ref t5, .ref t6, .ref t7, .int 0, .int 0])), (t1, .inl (cI, 4, .inl (cn 0))), (t2, .inl (cI, 4, .inl (cn 10))), (t3, .inl (cI, 4, .inl (cn 10))), (t4, .inl (cI, 4, .inl (cn (-1)))), (t5, .inl (cI, 4, .inl (cn 0))), (t6, .inl (cI, 4, .inl (upd (cn 0) (v1).toNatClampNeg v2))), (t7, .inl (cI, 4, .inl (upd (cn 110) (v1).toNatClampNeg v3)))] := hD
                refine lv_iload hx hb dX8_setPin_104 (lv_at hl 0 rfl) ?_
                have hP9 := hP.sub (ws' := []) [] rfl
                have hD9 := hD.sub (ws' := []) [] (by decide) rfl
                have hK9 := hK.sub (tys' := [(cI, .int)]) [0] rfl
                refine W.widen (k := 1) (n := 6) (Nat.le_of_ble_eq_true rfl) (Nat.le_of_ble_eq_true rfl) ?_
                refine vx_ret ?_
                exact W.zret (v := 110) hx hb hr (by first | rfl | decide) (fun t ht hW => ⟨⟨110, (), rfl, ⟨rfl, (by unfold sp_X8_setPin; rw [if_neg c_1, if_neg c_6, if_neg c_10, if_pos c_16, if_neg c_32, if_neg c_38, if_pos c_44])⟩, wOut_at ht hW hP9 hK9 hD9⟩, hS.F ht⟩) hS.2.2 dX8_setPin_106
              · refine lv_iload_n hx hb dX8_setPin_47 rfl (lv_at hl 3 rfl) ?_
                refine lv_bipush (v := 110) hx hb dX8_setPin_48 (by decide) ?_
                refine lv_icmp_eq (tgt := 63) hx hb dX8_setPin_50 (by decide) (fun c_50 => ?_) (fun c_50 => ?_)
                · refine lv_aload_n hx hb dX8_setPin_63 rfl (lv_at hl 0 rfl) ?_
                  refine va_get (D := (dC, dI)) (ci := 12) (v := .ref ah) (C := RX8) (T := TX8) (N := 3) hx hb hts hiX8 hown hK hP 0 rfl rfl 0 (by decide) (hw2) (fun _ h9 => h9) rfl dX8_setPin_64 ?_
                  refine va_get (D := (dC, dI)) (ci := 4) (v := .ref au) (C := RX0) (T := TX0) (N := 9) hx hb hts hiX0 hown hK hP 1 rfl rfl 1 (by decide) (hw4) (fun _ h9 => h9) rfl dX8_setPin_67 ?_
                  refine va_get (D := (dC, dI)) (ci := 10) (v := .ref t7) (C := RX6) (T := TX6) (N := 9) hx hb hts hiX6 hown hK hP 2 rfl rfl 6 (by decide) (hw6) (fun _ h9 => h9) rfl dX8_setPin_70 ?_
                  refine lv_iload_n hx hb dX8_setPin_73 rfl (lv_at hl 1 rfl) ?_
                  refine va_iald (D := (dC, dI)) hx hb hK hP 9 0 rfl rfl (vp_in_iff.mpr ⟨i_l0 c_1, i_v4 c_6⟩) dX8_setPin_74 ?_
                  refine lt_ci (y := 110) rfl ?_
                  refine lv_i2c (v := 110) hx hb dX8_setPin_75 (by first | rfl | decide) ?_
                  refine lv_istore (lv' := [(4, .int 110), (0, .ref xt), (1, .int v1), (2, .int v2), (3, .int v3)]) hx hb dX8_setPin_76 hl (by decide) rfl (fun ls hl => ?_)
                  refine lv_aload_n hx hb dX8_setPin_78 rfl (lv_at hl 1 rfl) ?_
                  refine va_get (D := (dC, dI)) (ci := 12) (v := .ref ah) (C := RX8) (T := TX8) (N := 3) hx hb hts hiX8 hown hK hP 0 rfl rfl 0 (by decide) (hw2) (fun _ h9 => h9) rfl dX8_setPin_79 ?_
                  refine va_get (D := (dC, dI)) (ci := 4) (v := .ref au) (C := RX0) (T := TX0) (N := 9) hx hb hts hiX0 hown hK hP 1 rfl rfl 1 (by decide) (hw4) (fun _ h9 => h9) rfl dX8_setPin_82 ?_
                  refine va_get (D := (dC, dI)) (ci := 10) (v := .ref t6) (C := RX6) (T := TX6) (N := 9) hx hb hts hiX6 hown hK hP 2 rfl rfl 5 (by decide) (hw8) (fun _ h9 => h9) rfl dX8_setPin_85 ?_
                  refine lv_iload_n hx hb dX8_setPin_88 rfl (lv_at hl 2 rfl) ?_
                  refine lv_iload_n hx hb dX8_setPin_89 rfl (lv_at hl 3 rfl) ?_
                  refine va_iast (D := (dC, dI)) hx hb hK hP hD hS 8 0 rfl rfl (vp_in_iff.mpr ⟨i_l0 c_1, i_v4 c_6⟩) dX8_setPin_90 (fun H locs hP hD hS => ?_)
                  have hP : va_P (dC, dI) vwCl [(xt, .inr (12, [.ref ah, .ref xe, .ref xf])), (ah, .inr (4, [.ref ac, .ref au, .ref ab, .ref an, .ref ak, .ref ad, .int 0, .int 0, .long 0])), (au, .inr (10, [.ref t1, .ref t2, .ref t3, .ref t4, .ref t5, .ref t6, .ref t7, .int 0, .int 0])), (t1, .inl (cI, 4, .inl (cn 0))), (t2, .inl (cI, 4, .inl (cn 10))), (t3, .inl (cI, 4, .inl (cn 10))), (t4, .inl (cI, 4, .inl (cn (-1)))), (t5, .inl (cI, 4, .inl (cn 0))), (t6, .inl (cI, 4, .inl (upd (cn 0) (v1).toNatClampNeg v2))), (t7, .inl (cI, 4, .inl (cn 110)))] H := hP
                  have hD : va_D A [(xt, .inr (12, [.ref ah, .ref xe, .ref xf])), (ah, .inr (4, [.ref ac, .ref au, .ref ab, .ref an, .ref ak, .ref ad, .int 0, .int 0, .long 0])), (au, .inr (10, [.ref t1, .ref t2, .ref t3, .ref t4, .ref t5, .ref t6, .ref t7, .int 0, .int 0])), (t1, .inl (cI, 4, .inl (cn 0))), (t2, .inl (cI, 4, .inl (cn 10))), (t3, .inl (cI, 4, .inl (cn 10))), (t4, .inl (cI, 4, .inl (cn (-1)))), (t5, .inl (cI, 4, .inl (cn 0))), (t6, .inl (cI, 4, .inl (upd (cn 0) (v1).toNatClampNeg v2))), (t7, .inl (cI, 4, .inl (cn 110)))] := hD
                  refine lv_aload_n hx hb dX8_setPin_91 rfl (lv_at hl 1 rfl) ?_
                  refine va_get (D := (dC, dI)) (ci := 12) (v := .ref ah) (C := RX8) (T := TX8) (N := 3) hx hb hts hiX8 hown hK hP 0 rfl rfl 0 (by decide) (hw2) (fun _ h9 => h9) rfl dX8_setPin_92 ?_
                  refine va_get (D := (dC, dI)) (ci := 4) (v := .ref au) (C := RX0) (T := TX0) (N := 9) hx hb hts hiX0 hown hK hP 1 rfl rfl 1 (by decide) (hw4) (fun _ h9 => h9) rfl dX8_setPin_95 ?_
                  refine va_get (D := (dC, dI)) (ci := 10) (v := .ref t7) (C := RX6) (T := TX6) (N := 9) hx hb hts hiX6 hown hK hP 2 rfl rfl 6 (by decide) (hw6) (fun _ h9 => h9) rfl dX8_setPin_98 ?_
                  refine lv_iload_n hx hb dX8_setPin_101 rfl (lv_at hl 2 rfl) ?_
                  refine lv_iload_n hx hb dX8_setPin_102 rfl (lv_at hl 4 rfl) ?_
                  refine va_iast (D := (dC, dI)) hx hb hK hP hD hS 9 0 rfl rfl (vp_in_iff.mpr ⟨i_l0 c_1, i_v4 c_6⟩) dX8_setPin_103 (fun H locs hP hD hS => ?_)
                  have hP : va_P (dC, dI) vwCl [(xt, .inr (12, [.ref ah, .ref xe, .ref xf])), (ah, .inr (4, [.ref ac, .ref au, .ref ab, .ref an, .ref ak, .ref ad, .int 0, .int 0, .long 0])), (au, .inr (10, [.ref t1, .ref t2, .ref t3, .ref t4, .ref t5, .ref t6, .ref t7, .int 0, .int 0])), (t1, .inl (cI, 4, .inl (cn 0))), (t2, .inl (cI, 4, .inl (cn 10))), (t3, .inl (cI, 4, .inl (cn 10))), (t4, .inl (cI, 4, .inl (cn (-1)))), (t5, .inl (cI, 4, .inl (cn 0))), (t6, .inl (cI, 4, .inl (upd (cn 0) (v1).toNatClampNeg v2))), (t7, .inl (cI, 4, .inl (upd (cn 110) (v1).toNatClampNeg v3)))] H := hP
                  have hD : va_D A [(xt, .inr (12, [.ref ah, .ref xe, .ref xf])), (ah, .inr (4, [.ref ac, .ref au, .ref ab, .ref an, .ref ak, .ref ad, .int 0, .int 0, .long 0])), (au, .inr (10, [.ref t1, .ref t2, .ref t3, .ref t4, .ref t5, .ref t6, .ref t7, .int 0, .int 0])), (t1, .inl (cI, 4, .inl (cn 0))), (t2, .inl (cI, 4, .inl (cn 10))), (t3, .inl (cI, 4, .inl (cn 10))), (t4, .inl (cI, 4, .inl (cn (-1)))), (t5, .inl (cI, 4, .inl (cn 0))), (t6, .inl (cI, 4, .inl (upd (cn 0) (v1).toNatClampNeg v2))), (t7, .inl (cI, 4, .inl (upd (cn 110) (v1).toNatClampNeg v3)))] := hD
                  refine lv_iload hx hb dX8_setPin_104 (lv_at hl 0 rfl) ?_
                  have hP9 := hP.sub (ws' := []) [] rfl
                  have hD9 := hD.sub (ws' := []) [] (by decide) rfl
                  have hK9 := hK.sub (tys' := [(cI, .int)]) [0] rfl
                  refine W.widen (k := 1) (n := 6) (Nat.le_of_ble_eq_true rfl) (Nat.le_of_ble_eq_true rfl) ?_
                  refine vx_ret ?_
                  exact W.zret (v := 110) hx hb hr (by first | rfl | decide) (fun t ht hW => ⟨⟨110, (), rfl, ⟨rfl, (by unfold sp_X8_setPin; rw [if_neg c_1, if_neg c_6, if_neg c_10, if_pos c_16, if_neg c_32, if_neg c_38, if_neg c_44, if_pos c_50])⟩, wOut_at ht hW hP9 hK9 hD9⟩, hS.F ht⟩) hS.2.2 dX8_setPin_106
                · obtain ⟨sa9, hstr9⟩ := hG.2.2.2.1 _ (List.mem_of_getElem? (i := 19) rfl)
                  exact vx_throwS (sa := sa9) hx hb hl9 hown (by decide +kernel) (by decide +kernel) hw9 hw10 hstr9 (vx_hat (fun w hw => hts w (List.mem_cons_of_mem _ (List.mem_append_left _ (List.mem_append_right _ (hw))))) xh_35 (nw_use hN)) xg_35 hG.2.2.2.2.1 hG.2.2.2.2.2.1 hS (hl.1.trans hml.symm) dX8_setPin_53 dX8_setPin_56 dX8_setPin_57 dX8_setPin_59 dX8_setPin_62 (fun x9 hx9 => (htab x9 hx9).elim) (by decide) (by decide) (Nat.le_of_ble_eq_true rfl) (Nat.le_of_ble_eq_true rfl) hlocks (fun t hal hle hq => ⟨(), trivial, Or.inr (⟨rfl, (by unfold sp_X8_setPin; rw [if_neg c_1, if_neg c_6, if_neg c_10, if_pos c_16, if_neg c_32, if_neg c_38, if_neg c_44, if_neg c_50])⟩), ⟨Nat.le_trans hS.1 hle, fun q h1 h2 => (hq q (Nat.lt_of_lt_of_le h1 hS.1)).trans (hS.2.1 q h1 h2)⟩⟩) hS.2.2 (Nat.le_of_ble_eq_true rfl) (Nat.le_of_ble_eq_true rfl)
        · obtain ⟨sa9, hstr9⟩ := hG.2.2.2.1 _ (List.mem_of_getElem? (i := 18) rfl)
          exact vx_throwS (sa := sa9) hx hb hl9 hown (by decide +kernel) (by decide +kernel) hw0 hw1 hstr9 (vx_hat (fun w hw => hts w (List.mem_cons_of_mem _ (List.mem_append_left _ (List.mem_append_left _ (List.mem_append_right _ (hw)))))) xh_26 (nw_use hN)) xg_26 hG.2.2.2.2.1 hG.2.2.2.2.2.1 hS (hl.1.trans hml.symm) dX8_setPin_19 dX8_setPin_22 dX8_setPin_23 dX8_setPin_25 dX8_setPin_28 (fun x9 hx9 => (htab x9 hx9).elim) (by decide) (by decide) (Nat.le_of_ble_eq_true rfl) (Nat.le_of_ble_eq_true rfl) hlocks (fun t hal hle hq => ⟨(), trivial, Or.inl ⟨rfl, (by unfold sp_X8_setPin; rw [if_neg c_1, if_neg c_6, if_neg c_10, if_neg c_16])⟩, ⟨Nat.le_trans hS.1 hle, fun q h1 h2 => (hq q (Nat.lt_of_lt_of_le h1 hS.1)).trans (hS.2.1 q h1 h2)⟩⟩) hS.2.2 (Nat.le_of_ble_eq_true rfl) (Nat.le_of_ble_eq_true rfl)

set_option maxHeartbeats 4000000 in
set_option maxRecDepth 100000 in
theorem c_X7_bitesWhenFed (l : Launch) (dC : Nat → ClassId) (dI : Nat → Nat → Nat) (g : Nat × Nat × Nat) (ad : Nat) (cI : ClassId) (sz : Nat) : Met l yX7_bitesWhenFed wsX7_bitesWhenFed ({ frames := 0, cells := 0, slots := 0, locals := 0 } : Room) (va_Pc [.ref ad] (wIn dC dI g [(ad, .inr (11, [.int (-1), .int 0, .int 0, .int 0, .int 0, .int 0]))] [(cI, .int)] sz)) (va_Qi (fun (r : Int32) (u : Unit) => r = 0) (fun (u : Unit) (t : State) => wOut dC dI [(ad, .inr (11, [.int (-1), .int 0, .int 0, .int 0, .int 0, .int 0]))] [(cI, .int)] (va_A [(ad, .inr (11, [.int (-1), .int 0, .int 0, .int 0, .int 0, .int 0]))] sz) t) (va_A [(ad, .inr (11, [.int (-1), .int 0, .int 0, .int 0, .int 0, .int 0]))] sz)) 0 0 (va_A [(ad, .inr (11, [.int (-1), .int 0, .int 0, .int 0, .int 0, .int 0]))] sz) := by
  refine Met.ofW (cc := cX7_bitesWhenFed) (maxL := 1) (ret := (some .boolean)) (by decide) rfl ?_
  intro p e s m args below meth c s₁ B hml hv
  obtain ⟨rfl, hsz, hP, hK, hD0, hG⟩ := hv
  have hx := B.exec
  have hb := B.bytes
  have hr := B.returns
  have hts := atoms_spec (ws := wsX7_bitesWhenFed) B.pre
  have hown : s.vm.findClass RX7 = some m.cls := findClass_of_methodNamed B.named
  have hlocks := B.notSynchronized
  subst hsz
  have hD := hD0.self (sz := s.heap.size)
  generalize hAe : va_A [(ad, .inr (11, [.int (-1), .int 0, .int 0, .int 0, .int 0, .int 0]))] s.heap.size = A at hD hG ⊢
  have hN := hG.1
  have hA : ∀ q : Nat, s.heap.size ≤ q → A q := fun q h => by rw [← hAe]; exact Or.inr h
  have hS : va_S A s.heap s.heap [] := va_S.rf
  have hP : va_P (dC, dI) vwCl [(ad, .inr (11, [.int (-1), .int 0, .int 0, .int 0, .int 0, .int 0]))] s.heap := hP
  have hw0 : (Cond.fieldLink RX7 9 "Tickstation$Watchdog" "clock" "I").before _ s = true := hts _ (List.mem_cons_of_mem _ (List.mem_append_left _ (List.mem_of_getElem? (i := 0) rfl)))
  have hiX7 : ∀ w ∈ u_ws RX7 TX7 6, w ∈ wsX7_bitesWhenFed := fun _ h => List.mem_cons_of_mem _ (List.mem_append_right _ (h))
  have hl := lv_entry ([.ref ad]) (n := 1) (Nat.le_of_ble_eq_true rfl)
  rw [lg_entry_eq]
  generalize (lg_sl ([.ref ad]) ++ List.replicate (1 - (lg_sl ([.ref ad])).length) Slot.unset).toArray = ls at hl ⊢
  have hl : lv_has ls 1 [(0, .ref ad)] := hl
  refine lv_aload_n hx hb dX7_bitesWhenFed_0 rfl (lv_at hl 0 rfl) ?_
  refine va_get (D := (dC, dI)) (ci := 11) (v := .int (-1)) (C := RX7) (T := TX7) (N := 6) hx hb hts hiX7 hown hK hP 0 rfl rfl 0 (by decide) (hw0) (fun _ h9 => h9) rfl dX7_bitesWhenFed_1 ?_
  refine lv_iconst (v := (-1)) hx hb dX7_bitesWhenFed_4 (by decide) ?_
  refine lv_icmp_ne (tgt := 10) hx hb dX7_bitesWhenFed_5 (by decide) (fun c => (c (by decide)).elim) (fun _ => ?_)
  refine lv_iconst (v := 0) hx hb dX7_bitesWhenFed_8 (by decide) ?_
  have hP9 := hP.sub (ws' := [(ad, .inr (11, [.int (-1), .int 0, .int 0, .int 0, .int 0, .int 0]))]) [0] rfl
  have hD9 := hD.sub (ws' := [(ad, .inr (11, [.int (-1), .int 0, .int 0, .int 0, .int 0, .int 0]))]) [0] (by decide) rfl
  have hK9 := hK.sub (tys' := [(cI, .int)]) [0] rfl
  exact W.zret (v := 0) hx hb hr (by first | rfl | decide) (fun t ht hW => ⟨⟨0, (), rfl, rfl, wOut_at ht hW hP9 hK9 hD9⟩, hS.F ht⟩) hS.2.2 dX7_bitesWhenFed_9

set_option maxHeartbeats 4000000 in
set_option maxRecDepth 100000 in
theorem c_X8_feed (l : Launch) (dC : Nat → ClassId) (dI : Nat → Nat → Nat) (g : Nat × Nat × Nat) (xt : Nat) (xe : Nat) (xf : Nat) (ah : Nat) (ac : Nat) (au : Nat) (ab : Nat) (an : Nat) (ak : Nat) (ad : Nat) (cI : ClassId) (sz : Nat) : Met l yX8_feed wsX8_feed ({ frames := 1, cells := 0, slots := 0, locals := 20 } : Room) (va_Pc [.ref xt] (wIn dC dI g [(xt, .inr (12, [.ref ah, .ref xe, .ref xf])), (ah, .inr (4, [.ref ac, .ref au, .ref ab, .ref an, .ref ak, .ref ad, .int 0, .int 0, .long 0])), (ad, .inr (11, [.int (-1), .int 0, .int 0, .int 0, .int 0, .int 0]))] [(cI, .int)] sz)) (va_Qi (fun (r : Int32) (u : Unit) => r = 0) (fun (u : Unit) (t : State) => wOut dC dI [] [(cI, .int)] (va_A [(xt, .inr (12, [.ref ah, .ref xe, .ref xf])), (ah, .inr (4, [.ref ac, .ref au, .ref ab, .ref an, .ref ak, .ref ad, .int 0, .int 0, .long 0])), (ad, .inr (11, [.int (-1), .int 0, .int 0, .int 0, .int 0, .int 0]))] sz) t) (va_A [(xt, .inr (12, [.ref ah, .ref xe, .ref xf])), (ah, .inr (4, [.ref ac, .ref au, .ref ab, .ref an, .ref ak, .ref ad, .int 0, .int 0, .long 0])), (ad, .inr (11, [.int (-1), .int 0, .int 0, .int 0, .int 0, .int 0]))] sz)) 0 0 (va_A [(xt, .inr (12, [.ref ah, .ref xe, .ref xf])), (ah, .inr (4, [.ref ac, .ref au, .ref ab, .ref an, .ref ak, .ref ad, .int 0, .int 0, .long 0])), (ad, .inr (11, [.int (-1), .int 0, .int 0, .int 0, .int 0, .int 0]))] sz) := by
  refine Met.ofW (cc := cX8_feed) (maxL := 2) (ret := (some .boolean)) (by decide) rfl ?_
  intro p e s m args below meth c s₁ B hml hv
  obtain ⟨rfl, hsz, hP, hK, hD0, hG⟩ := hv
  have hx := B.exec
  have hb := B.bytes
  have hr := B.returns
  have hts := atoms_spec (ws := wsX8_feed) B.pre
  have hown : s.vm.findClass RX8 = some m.cls := findClass_of_methodNamed B.named
  have hlocks := B.notSynchronized
  subst hsz
  have hD := hD0.self (sz := s.heap.size)
  generalize hAe : va_A [(xt, .inr (12, [.ref ah, .ref xe, .ref xf])), (ah, .inr (4, [.ref ac, .ref au, .ref ab, .ref an, .ref ak, .ref ad, .int 0, .int 0, .long 0])), (ad, .inr (11, [.int (-1), .int 0, .int 0, .int 0, .int 0, .int 0]))] s.heap.size = A at hD hG ⊢
  have hN := hG.1
  have hA : ∀ q : Nat, s.heap.size ≤ q → A q := fun q h => by rw [← hAe]; exact Or.inr h
  have hS : va_S A s.heap s.heap [] := va_S.rf
  have hP : va_P (dC, dI) vwCl [(xt, .inr (12, [.ref ah, .ref xe, .ref xf])), (ah, .inr (4, [.ref ac, .ref au, .ref ab, .ref an, .ref ak, .ref ad, .int 0, .int 0, .long 0])), (ad, .inr (11, [.int (-1), .int 0, .int 0, .int 0, .int 0, .int 0]))] s.heap := hP
  have hw0 : (Cond.fieldLink RX8 10 "Tickstation" "chip" "LTickstation$Chip;").before _ s = true := hts _ (List.mem_cons_of_mem _ (List.mem_append_left _ (List.mem_append_left _ (List.mem_append_left _ (List.mem_append_left _ (List.mem_append_left _ (List.mem_append_left _ (List.mem_append_left _ (List.mem_append_left _ (List.mem_append_left _ (List.mem_append_left _ (List.mem_of_getElem? (i := 0) rfl))))))))))))
  have hiX8 : ∀ w ∈ u_ws RX8 TX8 3, w ∈ wsX8_feed := fun _ h => List.mem_cons_of_mem _ (List.mem_append_left _ (List.mem_append_left _ (List.mem_append_left _ (List.mem_append_left _ (List.mem_append_left _ (List.mem_append_left _ (List.mem_append_left _ (List.mem_append_left _ (List.mem_append_right _ (h))))))))))
  have hw2 : (Cond.fieldLink RX8 151 "Tickstation$Chip" "watchdog" "LTickstation$Watchdog;").before _ s = true := hts _ (List.mem_cons_of_mem _ (List.mem_append_left _ (List.mem_append_left _ (List.mem_append_left _ (List.mem_append_left _ (List.mem_append_left _ (List.mem_append_left _ (List.mem_append_left _ (List.mem_append_left _ (List.mem_append_left _ (List.mem_append_left _ (List.mem_of_getElem? (i := 1) rfl))))))))))))
  have hiX0 : ∀ w ∈ u_ws RX0 TX0 9, w ∈ wsX8_feed := fun _ h => List.mem_cons_of_mem _ (List.mem_append_left _ (List.mem_append_left _ (List.mem_append_left _ (List.mem_append_left _ (List.mem_append_left _ (List.mem_append_left _ (List.mem_append_left _ (List.mem_append_right _ (h)))))))))
  have hl := lv_entry ([.ref xt]) (n := 2) (Nat.le_of_ble_eq_true rfl)
  rw [lg_entry_eq]
  generalize (lg_sl ([.ref xt]) ++ List.replicate (2 - (lg_sl ([.ref xt])).length) Slot.unset).toArray = ls at hl ⊢
  have hl : lv_has ls 2 [(0, .ref xt)] := hl
  refine lv_aload_n hx hb dX8_feed_0 rfl (lv_at hl 0 rfl) ?_
  refine va_get (D := (dC, dI)) (ci := 12) (v := .ref ah) (C := RX8) (T := TX8) (N := 3) hx hb hts hiX8 hown hK hP 0 rfl rfl 0 (by decide) (hw0) (fun _ h9 => h9) rfl dX8_feed_1 ?_
  refine va_get (D := (dC, dI)) (ci := 4) (v := .ref ad) (C := RX0) (T := TX0) (N := 9) hx hb hts hiX0 hown hK hP 1 rfl rfl 5 (by decide) (hw2) (fun _ h9 => h9) rfl dX8_feed_4 ?_
  have hPc := hP.sub (ws' := [(ad, .inr (11, [.int (-1), .int 0, .int 0, .int 0, .int 0, .int 0]))]) [2] rfl
  have hDc := hD.sub (ws' := [(ad, .inr (11, [.int (-1), .int 0, .int 0, .int 0, .int 0, .int 0]))]) [2] (by decide) rfl
  have hKc := hK.sub (tys' := [(cI, .int)]) [0] rfl
  have hFc := va_free (wc := [(ad, .inr (11, [.int (-1), .int 0, .int 0, .int 0, .int 0, .int 0]))]) hD hS hA [2] rfl
  refine va_calli (va_runV (As := []) (rest := []) ⟨hx, hb, hml, hown, hts⟩ (c_X7_bitesWhenFed l dC dI g ad cI s.heap.size) (cwV 0 hts gX8_feed_X7_bitesWhenFed rfl rfl rfl (by decide +kernel) ⟨Nat.le_of_ble_eq_true rfl, Nat.le_of_ble_eq_true rfl⟩) ⟨wIn_blind, va_recv hK hP (ci := 11) (q0 := 2) rfl rfl, wIn_at hPc hKc hDc hG hS hFc⟩ rfl rfl hl.1 rfl (lv_room (Nat.le_of_ble_eq_true rfl)) dX8_feed_7 ⟨Nat.le_of_ble_eq_true rfl, Nat.le_of_ble_eq_true rfl⟩) hS (fun q _ h => hFc q h) hFc (fun r_1 u t H1 locs ht hvm hw hB hz1 hk1 hS => ?_)
  obtain ⟨hP1, hK1, hD1⟩ := hB
  rw [ht] at hP1
  obtain ⟨hP, hD⟩ := va_join (wr := [(xt, .inr (12, [.ref ah, .ref xe, .ref xf])), (ah, .inr (4, [.ref ac, .ref au, .ref ab, .ref an, .ref ak, .ref ad, .int 0, .int 0, .long 0]))]) (w1 := [(ad, .inr (11, [.int (-1), .int 0, .int 0, .int 0, .int 0, .int 0]))]) hP hD [2] [0, 1] rfl rfl (by decide) (by decide) hk1 hFc hP1 hD1
  generalize H1 = H at hP hS ⊢
  have hP : va_P (dC, dI) vwCl [(xt, .inr (12, [.ref ah, .ref xe, .ref xf])), (ah, .inr (4, [.ref ac, .ref au, .ref ab, .ref an, .ref ak, .ref ad, .int 0, .int 0, .long 0])), (ad, .inr (11, [.int (-1), .int 0, .int 0, .int 0, .int 0, .int 0]))] H := hP
  have hD : va_D A [(xt, .inr (12, [.ref ah, .ref xe, .ref xf])), (ah, .inr (4, [.ref ac, .ref au, .ref ab, .ref an, .ref ak, .ref ad, .int 0, .int 0, .long 0])), (ad, .inr (11, [.int (-1), .int 0, .int 0, .int 0, .int 0, .int 0]))] := hD
  refine lt_ci (y := 0) hw ?_
  refine lv_istore_n (lv' := [(1, .int 0), (0, .ref xt)]) hx hb dX8_feed_10 rfl hl (by decide) rfl (fun ls hl => ?_)
  refine lv_iload_n hx hb dX8_feed_11 rfl (lv_at hl 0 rfl) ?_
  refine lv_if_eq (tgt := 22) hx hb dX8_feed_12 (by decide) (fun _ => ?_) (fun c => absurd (by decide) c)
  refine lv_iload_n hx hb dX8_feed_22 rfl (lv_at hl 0 rfl) ?_
  have hP9 := hP.sub (ws' := []) [] rfl
  have hD9 := hD.sub (ws' := []) [] (by decide) rfl
  have hK9 := hK.sub (tys' := [(cI, .int)]) [0] rfl
  exact W.zret (v := 0) hx hb hr (by first | rfl | decide) (fun t ht hW => ⟨⟨0, (), rfl, rfl, wOut_at ht hW hP9 hK9 hD9⟩, hS.F ht⟩) hS.2.2 dX8_feed_23

def sp_X8_toEvent : Int32 := 1
set_option maxHeartbeats 4000000 in
set_option maxRecDepth 100000 in
theorem c_X8_toEvent (l : Launch) (hl9 : l.stackTraces = false) (dC : Nat → ClassId) (dI : Nat → Nat → Nat) (g : Nat × Nat × Nat) (xt : Nat) (xe : Nat) (xf : Nat) (ah : Nat) (ac : Nat) (au : Nat) (t1 : Nat) (t2 : Nat) (t3 : Nat) (t4 : Nat) (t5 : Nat) (t6 : Nat) (t7 : Nat) (ab : Nat) (an : Nat) (n1 : Nat) (n2 : Nat) (n3 : Nat) (n4 : Nat) (n5 : Nat) (ar : Nat) (ak : Nat) (ad : Nat) (cI : ClassId) (sz : Nat) : vx_Met l yX8_toEvent wsX8_toEvent ({ frames := 6, cells := 1, slots := 6, locals := 100 } : Room) (va_Pc [.ref xt] (wIn dC dI g [(xt, .inr (12, [.ref ah, .ref xe, .ref xf])), (ah, .inr (4, [.ref ac, .ref au, .ref ab, .ref an, .ref ak, .ref ad, .int 0, .int 0, .long 0])), (au, .inr (10, [.ref t1, .ref t2, .ref t3, .ref t4, .ref t5, .ref t6, .ref t7, .int 0, .int 0])), (an, .inr (6, [.ref n1, .ref n2, .ref n3, .ref n4, .ref n5, .int 0, .int 0])), (ak, .inr (8, [.ref ar, .int 105, .int 0, .int (-1), .int 0, .int 0, .int 0])), (ad, .inr (11, [.int (-1), .int 0, .int 0, .int 0, .int 0, .int 0]))] [(cI, .int)] sz)) (va_Qi (fun (r : Int32) (u : Unit) => False) (fun (u : Unit) (t : State) => wOut dC dI [] [(cI, .int)] (va_A [(xt, .inr (12, [.ref ah, .ref xe, .ref xf])), (ah, .inr (4, [.ref ac, .ref au, .ref ab, .ref an, .ref ak, .ref ad, .int 0, .int 0, .long 0])), (au, .inr (10, [.ref t1, .ref t2, .ref t3, .ref t4, .ref t5, .ref t6, .ref t7, .int 0, .int 0])), (an, .inr (6, [.ref n1, .ref n2, .ref n3, .ref n4, .ref n5, .int 0, .int 0])), (ak, .inr (8, [.ref ar, .int 105, .int 0, .int (-1), .int 0, .int 0, .int 0])), (ad, .inr (11, [.int (-1), .int 0, .int 0, .int 0, .int 0, .int 0]))] sz) t) (va_A [(xt, .inr (12, [.ref ah, .ref xe, .ref xf])), (ah, .inr (4, [.ref ac, .ref au, .ref ab, .ref an, .ref ak, .ref ad, .int 0, .int 0, .long 0])), (au, .inr (10, [.ref t1, .ref t2, .ref t3, .ref t4, .ref t5, .ref t6, .ref t7, .int 0, .int 0])), (an, .inr (6, [.ref n1, .ref n2, .ref n3, .ref n4, .ref n5, .int 0, .int 0])), (ak, .inr (8, [.ref ar, .int 105, .int 0, .int (-1), .int 0, .int 0, .int 0])), (ad, .inr (11, [.int (-1), .int 0, .int 0, .int 0, .int 0, .int 0]))] sz)) (vx_X (fun (_ : Unit) => True) (fun (E : String) (_ : Unit) (_ : State) => (E = "java/util/NoSuchElementException" ∧ sp_X8_toEvent = 1)) (va_A [(xt, .inr (12, [.ref ah, .ref xe, .ref xf])), (ah, .inr (4, [.ref ac, .ref au, .ref ab, .ref an, .ref ak, .ref ad, .int 0, .int 0, .long 0])), (au, .inr (10, [.ref t1, .ref t2, .ref t3, .ref t4, .ref t5, .ref t6, .ref t7, .int 0, .int 0])), (an, .inr (6, [.ref n1, .ref n2, .ref n3, .ref n4, .ref n5, .int 0, .int 0])), (ak, .inr (8, [.ref ar, .int 105, .int 0, .int (-1), .int 0, .int 0, .int 0])), (ad, .inr (11, [.int (-1), .int 0, .int 0, .int 0, .int 0, .int 0]))] sz)) 1 6 (va_A [(xt, .inr (12, [.ref ah, .ref xe, .ref xf])), (ah, .inr (4, [.ref ac, .ref au, .ref ab, .ref an, .ref ak, .ref ad, .int 0, .int 0, .long 0])), (au, .inr (10, [.ref t1, .ref t2, .ref t3, .ref t4, .ref t5, .ref t6, .ref t7, .int 0, .int 0])), (an, .inr (6, [.ref n1, .ref n2, .ref n3, .ref n4, .ref n5, .int 0, .int 0])), (ak, .inr (8, [.ref ar, .int 105, .int 0, .int (-1), .int 0, .int 0, .int 0])), (ad, .inr (11, [.int (-1), .int 0, .int 0, .int 0, .int 0, .int 0]))] sz) := by
  refine vx_ofW (cc := cX8_toEvent) (maxL := 2) (ret := (some .int)) (by decide) rfl ?_
  intro p e s m args below meth c s₁ B hml htab hv
  obtain ⟨rfl, hsz, hP, hK, hD0, hG⟩ := hv
  have hx := B.exec
  have hb := B.bytes
  have hr := B.returns
  have hts := atoms_spec (ws := wsX8_toEvent) B.pre
  have hown : s.vm.findClass RX8 = some m.cls := findClass_of_methodNamed B.named
  have hlocks := B.notSynchronized
  subst hsz
  have hD := hD0.self (sz := s.heap.size)
  generalize hAe : va_A [(xt, .inr (12, [.ref ah, .ref xe, .ref xf])), (ah, .inr (4, [.ref ac, .ref au, .ref ab, .ref an, .ref ak, .ref ad, .int 0, .int 0, .long 0])), (au, .inr (10, [.ref t1, .ref t2, .ref t3, .ref t4, .ref t5, .ref t6, .ref t7, .int 0, .int 0])), (an, .inr (6, [.ref n1, .ref n2, .ref n3, .ref n4, .ref n5, .int 0, .int 0])), (ak, .inr (8, [.ref ar, .int 105, .int 0, .int (-1), .int 0, .int 0, .int 0])), (ad, .inr (11, [.int (-1), .int 0, .int 0, .int 0, .int 0, .int 0]))] s.heap.size = A at hD hG ⊢
  have hN := hG.1
  have hA : ∀ q : Nat, s.heap.size ≤ q → A q := fun q h => by rw [← hAe]; exact Or.inr h
  have hS : va_S A s.heap s.heap [] := va_S.rf
  have hP : va_P (dC, dI) vwCl [(xt, .inr (12, [.ref ah, .ref xe, .ref xf])), (ah, .inr (4, [.ref ac, .ref au, .ref ab, .ref an, .ref ak, .ref ad, .int 0, .int 0, .long 0])), (au, .inr (10, [.ref t1, .ref t2, .ref t3, .ref t4, .ref t5, .ref t6, .ref t7, .int 0, .int 0])), (an, .inr (6, [.ref n1, .ref n2, .ref n3, .ref n4, .ref n5, .int 0, .int 0])), (ak, .inr (8, [.ref ar, .int 105, .int 0, .int (-1), .int 0, .int 0, .int 0])), (ad, .inr (11, [.int (-1), .int 0, .int 0, .int 0, .int 0, .int 0]))] s.heap := hP
  have hw0 : (Cond.fieldLink RX8 10 "Tickstation" "chip" "LTickstation$Chip;").before _ s = true := hts _ (List.mem_cons_of_mem _ (List.mem_append_left _ (List.mem_append_left _ (List.mem_append_left _ (List.mem_append_left _ (List.mem_append_left _ (List.mem_append_left _ (List.mem_append_left _ (List.mem_append_left _ (List.mem_append_left _ (List.mem_append_left _ (List.mem_append_left _ (List.mem_of_getElem? (i := 2) rfl)))))))))))))
  have hiX8 : ∀ w ∈ u_ws RX8 TX8 3, w ∈ wsX8_toEvent := fun _ h => List.mem_cons_of_mem _ (List.mem_append_left _ (List.mem_append_left _ (List.mem_append_left _ (List.mem_append_left _ (List.mem_append_left _ (List.mem_append_left _ (List.mem_append_left _ (List.mem_append_left _ (List.mem_append_left _ (List.mem_append_right _ (h)))))))))))
  have hw2 : (Cond.constant RX8 189 (1000000000)).before _ s = true := hts _ (List.mem_cons_of_mem _ (List.mem_append_left _ (List.mem_append_left _ (List.mem_append_left _ (List.mem_append_left _ (List.mem_append_left _ (List.mem_append_left _ (List.mem_append_left _ (List.mem_append_left _ (List.mem_append_left _ (List.mem_append_left _ (List.mem_append_left _ (List.mem_of_getElem? (i := 3) rfl)))))))))))))
  have hw3 : (Cond.classLink RX8 190 "java/util/NoSuchElementException").before _ s = true := hts _ (List.mem_cons_of_mem _ (List.mem_append_left _ (List.mem_append_left _ (List.mem_append_left _ (List.mem_append_left _ (List.mem_append_left _ (List.mem_append_left _ (List.mem_append_left _ (List.mem_append_left _ (List.mem_append_left _ (List.mem_append_left _ (List.mem_append_left _ (List.mem_of_getElem? (i := 0) rfl)))))))))))))
  have hw4 : (Cond.initialized "java/util/NoSuchElementException").before _ s = true := hts _ (List.mem_cons_of_mem _ (List.mem_append_left _ (List.mem_append_left _ (List.mem_append_left _ (List.mem_append_left _ (List.mem_append_left _ (List.mem_append_left _ (List.mem_append_left _ (List.mem_append_left _ (List.mem_append_left _ (List.mem_append_left _ (List.mem_append_left _ (List.mem_of_getElem? (i := 1) rfl)))))))))))))
  have hl := lv_entry ([.ref xt]) (n := 2) (Nat.le_of_ble_eq_true rfl)
  rw [lg_entry_eq]
  generalize (lg_sl ([.ref xt]) ++ List.replicate (2 - (lg_sl ([.ref xt])).length) Slot.unset).toArray = ls at hl ⊢
  have hl : lv_has ls 2 [(0, .ref xt)] := hl
  refine lv_aload_n hx hb dX8_toEvent_0 rfl (lv_at hl 0 rfl) ?_
  refine va_get (D := (dC, dI)) (ci := 12) (v := .ref ah) (C := RX8) (T := TX8) (N := 3) hx hb hts hiX8 hown hK hP 0 rfl rfl 0 (by decide) (hw0) (fun _ h9 => h9) rfl dX8_toEvent_1 ?_
  have hPc := hP.sub (ws' := [(ah, .inr (4, [.ref ac, .ref au, .ref ab, .ref an, .ref ak, .ref ad, .int 0, .int 0, .long 0])), (au, .inr (10, [.ref t1, .ref t2, .ref t3, .ref t4, .ref t5, .ref t6, .ref t7, .int 0, .int 0])), (an, .inr (6, [.ref n1, .ref n2, .ref n3, .ref n4, .ref n5, .int 0, .int 0])), (ak, .inr (8, [.ref ar, .int 105, .int 0, .int (-1), .int 0, .int 0, .int 0])), (ad, .inr (11, [.int (-1), .int 0, .int 0, .int 0, .int 0, .int 0]))]) [1, 2, 3, 4, 5] rfl
  have hDc := hD.sub (ws' := [(ah, .inr (4, [.ref ac, .ref au, .ref ab, .ref an, .ref ak, .ref ad, .int 0, .int 0, .long 0])), (au, .inr (10, [.ref t1, .ref t2, .ref t3, .ref t4, .ref t5, .ref t6, .ref t7, .int 0, .int 0])), (an, .inr (6, [.ref n1, .ref n2, .ref n3, .ref n4, .ref n5, .int 0, .int 0])), (ak, .inr (8, [.ref ar, .int 105, .int 0, .int (-1), .int 0, .int 0, .int 0])), (ad, .inr (11, [.int (-1), .int 0, .int 0, .int 0, .int 0, .int 0]))]) [1, 2, 3, 4, 5] (by decide) rfl
  have hKc := hK.sub (tys' := [(cI, .int)]) [0] rfl
  have hFc := va_free (wc := [(ah, .inr (4, [.ref ac, .ref au, .ref ab, .ref an, .ref ak, .ref ad, .int 0, .int 0, .long 0])), (au, .inr (10, [.ref t1, .ref t2, .ref t3, .ref t4, .ref t5, .ref t6, .ref t7, .int 0, .int 0])), (an, .inr (6, [.ref n1, .ref n2, .ref n3, .ref n4, .ref n5, .int 0, .int 0])), (ak, .inr (8, [.ref ar, .int 105, .int 0, .int (-1), .int 0, .int 0, .int 0])), (ad, .inr (11, [.int (-1), .int 0, .int 0, .int 0, .int 0, .int 0]))]) hD hS hA [1, 2, 3, 4, 5] rfl
  refine va_calli (va_runV (As := []) (rest := []) ⟨hx, hb, hml, hown, hts⟩ (c_X0_beatsToEvent l dC dI g ah ac ab au t1 t2 t3 t4 t5 t6 t7 an n1 n2 n3 n4 n5 ak ar ad cI 0 0 0 s.heap.size) (cwV 0 hts gX8_toEvent_X0_beatsToEvent rfl rfl rfl (by decide +kernel) ⟨Nat.le_of_ble_eq_true rfl, Nat.le_of_ble_eq_true rfl⟩) ⟨wIn_blind, va_recv hK hP (ci := 4) (q0 := 1) rfl rfl, wIn_at hPc hKc hDc hG hS hFc⟩ rfl rfl hl.1 rfl (lv_room (Nat.le_of_ble_eq_true rfl)) dX8_toEvent_4 ⟨Nat.le_of_ble_eq_true rfl, Nat.le_of_ble_eq_true rfl⟩) hS (fun q _ h => hFc q h) hFc (fun r_1 u t H1 locs ht hvm hw hB hz1 hk1 hS => ?_)
  obtain ⟨hP1, hK1, hD1⟩ := hB
  rw [ht] at hP1
  obtain ⟨hP, hD⟩ := va_join (wr := [(xt, .inr (12, [.ref ah, .ref xe, .ref xf]))]) (w1 := [(ah, .inr (4, [.ref ac, .ref au, .ref ab, .ref an, .ref ak, .ref ad, .int 0, .int 0, .long 0])), (au, .inr (10, [.ref t1, .ref t2, .ref t3, .ref t4, .ref t5, .ref t6, .ref t7, .int 0, .int 0])), (an, .inr (6, [.ref n1, .ref n2, .ref n3, .ref n4, .ref n5, .int 0, .int 0])), (ak, .inr (8, [.ref ar, .int 105, .int 0, .int (-1), .int 0, .int 0, .int 0])), (ad, .inr (11, [.int (-1), .int 0, .int 0, .int 0, .int 0, .int 0]))]) hP hD [1, 2, 3, 4, 5] [0] rfl rfl (by decide) (by decide) hk1 hFc hP1 hD1
  generalize H1 = H at hP hS ⊢
  have hP : va_P (dC, dI) vwCl [(xt, .inr (12, [.ref ah, .ref xe, .ref xf])), (ah, .inr (4, [.ref ac, .ref au, .ref ab, .ref an, .ref ak, .ref ad, .int 0, .int 0, .long 0])), (au, .inr (10, [.ref t1, .ref t2, .ref t3, .ref t4, .ref t5, .ref t6, .ref t7, .int 0, .int 0])), (an, .inr (6, [.ref n1, .ref n2, .ref n3, .ref n4, .ref n5, .int 0, .int 0])), (ak, .inr (8, [.ref ar, .int 105, .int 0, .int (-1), .int 0, .int 0, .int 0])), (ad, .inr (11, [.int (-1), .int 0, .int 0, .int 0, .int 0, .int 0]))] H := hP
  have hD : va_D A [(xt, .inr (12, [.ref ah, .ref xe, .ref xf])), (ah, .inr (4, [.ref ac, .ref au, .ref ab, .ref an, .ref ak, .ref ad, .int 0, .int 0, .long 0])), (au, .inr (10, [.ref t1, .ref t2, .ref t3, .ref t4, .ref t5, .ref t6, .ref t7, .int 0, .int 0])), (an, .inr (6, [.ref n1, .ref n2, .ref n3, .ref n4, .ref n5, .int 0, .int 0])), (ak, .inr (8, [.ref ar, .int 105, .int 0, .int (-1), .int 0, .int 0, .int 0])), (ad, .inr (11, [.int (-1), .int 0, .int 0, .int 0, .int 0, .int 0]))] := hD
  refine lt_ci (y := 1000000000) hw ?_
  refine lv_istore_n (lv' := [(1, .int 1000000000), (0, .ref xt)]) hx hb dX8_toEvent_7 rfl hl (by decide) rfl (fun ls hl => ?_)
  refine lv_iload_n hx hb dX8_toEvent_8 rfl (lv_at hl 0 rfl) ?_
  refine lv_ldc (v := 1000000000) hx hb hown hw2 dX8_toEvent_9 ?_
  refine lv_icmp_lt (tgt := 24) hx hb dX8_toEvent_11 (by decide) (fun c => absurd c (by decide)) (fun _ => ?_)
  obtain ⟨sa9, hstr9⟩ := hG.2.2.2.1 _ (List.mem_of_getElem? (i := 5) rfl)
  exact ns_throw (sa := sa9) hx hb hl9 ns_x0 ns_x1 ns_x2 ns_x5 hown (by decide +kernel) (by decide +kernel) hw3 hw4 hstr9 (vx_hat (fun w hw => hts w (List.mem_cons_of_mem _ (List.mem_append_left _ (List.mem_append_right _ (hw))))) xh_194 (nw_use hN)) xg_194 hG.2.2.2.2.1 hG.2.2.2.2.2.1 hS (hl.1.trans hml.symm) dX8_toEvent_14 dX8_toEvent_17 dX8_toEvent_18 dX8_toEvent_20 dX8_toEvent_23 (fun x9 hx9 => (htab x9 hx9).elim) (by decide) (by decide) (Nat.le_of_ble_eq_true rfl) (Nat.le_of_ble_eq_true rfl) hlocks (fun t hal hle hq => ⟨(), trivial, ⟨rfl, rfl⟩, ⟨Nat.le_trans hS.1 hle, fun q h1 h2 => (hq q (Nat.lt_of_lt_of_le h1 hS.1)).trans (hS.2.1 q h1 h2)⟩⟩) hS.2.2 (Nat.le_of_ble_eq_true rfl) (Nat.le_of_ble_eq_true rfl)

set_option maxHeartbeats 4000000 in
set_option maxRecDepth 100000 in
theorem c_X5_topLine (l : Launch) (dC : Nat → ClassId) (dI : Nat → Nat → Nat) (g : Nat × Nat × Nat) (ar : Nat) (r1 : Nat) (r2 : Nat) (cI : ClassId) (sz : Nat) : Met l yX5_topLine wsX5_topLine ({ frames := 0, cells := 0, slots := 0, locals := 0 } : Room) (va_Pc [.ref ar] (wIn dC dI g [(ar, .inr (9, [.ref r1, .ref r2, .int 0]))] [(cI, .int)] sz)) (va_Qi (fun (r : Int32) (u : Unit) => r = (-1)) (fun (u : Unit) (t : State) => wOut dC dI [(ar, .inr (9, [.ref r1, .ref r2, .int 0]))] [(cI, .int)] (va_A [(ar, .inr (9, [.ref r1, .ref r2, .int 0]))] sz) t) (va_A [(ar, .inr (9, [.ref r1, .ref r2, .int 0]))] sz)) 0 0 (va_A [(ar, .inr (9, [.ref r1, .ref r2, .int 0]))] sz) := by
  refine Met.ofW (cc := cX5_topLine) (maxL := 1) (ret := (some .int)) (by decide) rfl ?_
  intro p e s m args below meth c s₁ B hml hv
  obtain ⟨rfl, hsz, hP, hK, hD0, hG⟩ := hv
  have hx := B.exec
  have hb := B.bytes
  have hr := B.returns
  have hts := atoms_spec (ws := wsX5_topLine) B.pre
  have hown : s.vm.findClass RX5 = some m.cls := findClass_of_methodNamed B.named
  have hlocks := B.notSynchronized
  subst hsz
  have hD := hD0.self (sz := s.heap.size)
  generalize hAe : va_A [(ar, .inr (9, [.ref r1, .ref r2, .int 0]))] s.heap.size = A at hD hG ⊢
  have hN := hG.1
  have hA : ∀ q : Nat, s.heap.size ≤ q → A q := fun q h => by rw [← hAe]; exact Or.inr h
  have hS : va_S A s.heap s.heap [] := va_S.rf
  have hP : va_P (dC, dI) vwCl [(ar, .inr (9, [.ref r1, .ref r2, .int 0]))] s.heap := hP
  have hw0 : (Cond.fieldLink RX5 18 "Tickstation$Row" "size" "I").before _ s = true := hts _ (List.mem_cons_of_mem _ (List.mem_append_left _ (List.mem_append_left _ (List.mem_of_getElem? (i := 0) rfl))))
  have hiX5 : ∀ w ∈ u_ws RX5 TX5 3, w ∈ wsX5_topLine := fun _ h => List.mem_cons_of_mem _ (List.mem_append_left _ (List.mem_append_right _ (h)))
  have hl := lv_entry ([.ref ar]) (n := 1) (Nat.le_of_ble_eq_true rfl)
  rw [lg_entry_eq]
  generalize (lg_sl ([.ref ar]) ++ List.replicate (1 - (lg_sl ([.ref ar])).length) Slot.unset).toArray = ls at hl ⊢
  have hl : lv_has ls 1 [(0, .ref ar)] := hl
  refine lv_aload_n hx hb dX5_topLine_0 rfl (lv_at hl 0 rfl) ?_
  refine va_get (D := (dC, dI)) (ci := 9) (v := .int 0) (C := RX5) (T := TX5) (N := 3) hx hb hts hiX5 hown hK hP 0 rfl rfl 2 (by decide) (hw0) (fun _ h9 => h9) rfl dX5_topLine_1 ?_
  refine lv_iconst (v := 1) hx hb dX5_topLine_4 (by decide) ?_
  refine lv_icmp_lt (tgt := 20) hx hb dX5_topLine_5 (by decide) (fun _ => ?_) (fun c => absurd (by decide) c)
  refine lv_iconst (v := (-1)) hx hb dX5_topLine_20 (by decide) ?_
  refine lv_goto (tgt := 35) hx hb dX5_topLine_21 (by decide) ?_
  have hP9 := hP.sub (ws' := [(ar, .inr (9, [.ref r1, .ref r2, .int 0]))]) [0] rfl
  have hD9 := hD.sub (ws' := [(ar, .inr (9, [.ref r1, .ref r2, .int 0]))]) [0] (by decide) rfl
  have hK9 := hK.sub (tys' := [(cI, .int)]) [0] rfl
  exact W.iret (v := (-1)) hx hb hr (fun t ht hW => ⟨⟨(-1), (), rfl, rfl, wOut_at ht hW hP9 hK9 hD9⟩, hS.F ht⟩) hS.2.2 dX5_topLine_35

def sp_X8_onTop : Int32 := 1
set_option maxHeartbeats 4000000 in
set_option maxRecDepth 100000 in
theorem c_X8_onTop (l : Launch) (hl9 : l.stackTraces = false) (dC : Nat → ClassId) (dI : Nat → Nat → Nat) (g : Nat × Nat × Nat) (xt : Nat) (xe : Nat) (xf : Nat) (ah : Nat) (ac : Nat) (au : Nat) (ab : Nat) (an : Nat) (ar : Nat) (r1 : Nat) (r2 : Nat) (ak : Nat) (ad : Nat) (cI : ClassId) (sz : Nat) : vx_Met l yX8_onTop wsX8_onTop ({ frames := 6, cells := 1, slots := 6, locals := 100 } : Room) (va_Pc [.ref xt] (wIn dC dI g [(xt, .inr (12, [.ref ah, .ref xe, .ref xf])), (ah, .inr (4, [.ref ac, .ref au, .ref ab, .ref an, .ref ak, .ref ad, .int 0, .int 0, .long 0])), (ak, .inr (8, [.ref ar, .int 105, .int 0, .int (-1), .int 0, .int 0, .int 0])), (ar, .inr (9, [.ref r1, .ref r2, .int 0]))] [(cI, .int)] sz)) (va_Qi (fun (r : Int32) (u : Unit) => False) (fun (u : Unit) (t : State) => wOut dC dI [] [(cI, .int)] (va_A [(xt, .inr (12, [.ref ah, .ref xe, .ref xf])), (ah, .inr (4, [.ref ac, .ref au, .ref ab, .ref an, .ref ak, .ref ad, .int 0, .int 0, .long 0])), (ak, .inr (8, [.ref ar, .int 105, .int 0, .int (-1), .int 0, .int 0, .int 0])), (ar, .inr (9, [.ref r1, .ref r2, .int 0]))] sz) t) (va_A [(xt, .inr (12, [.ref ah, .ref xe, .ref xf])), (ah, .inr (4, [.ref ac, .ref au, .ref ab, .ref an, .ref ak, .ref ad, .int 0, .int 0, .long 0])), (ak, .inr (8, [.ref ar, .int 105, .int 0, .int (-1), .int 0, .int 0, .int 0])), (ar, .inr (9, [.ref r1, .ref r2, .int 0]))] sz)) (vx_X (fun (_ : Unit) => True) (fun (E : String) (_ : Unit) (_ : State) => (E = "java/util/NoSuchElementException" ∧ sp_X8_onTop = 1)) (va_A [(xt, .inr (12, [.ref ah, .ref xe, .ref xf])), (ah, .inr (4, [.ref ac, .ref au, .ref ab, .ref an, .ref ak, .ref ad, .int 0, .int 0, .long 0])), (ak, .inr (8, [.ref ar, .int 105, .int 0, .int (-1), .int 0, .int 0, .int 0])), (ar, .inr (9, [.ref r1, .ref r2, .int 0]))] sz)) 1 6 (va_A [(xt, .inr (12, [.ref ah, .ref xe, .ref xf])), (ah, .inr (4, [.ref ac, .ref au, .ref ab, .ref an, .ref ak, .ref ad, .int 0, .int 0, .long 0])), (ak, .inr (8, [.ref ar, .int 105, .int 0, .int (-1), .int 0, .int 0, .int 0])), (ar, .inr (9, [.ref r1, .ref r2, .int 0]))] sz) := by
  refine vx_ofW (cc := cX8_onTop) (maxL := 2) (ret := (some .int)) (by decide) rfl ?_
  intro p e s m args below meth c s₁ B hml htab hv
  obtain ⟨rfl, hsz, hP, hK, hD0, hG⟩ := hv
  have hx := B.exec
  have hb := B.bytes
  have hr := B.returns
  have hts := atoms_spec (ws := wsX8_onTop) B.pre
  have hown : s.vm.findClass RX8 = some m.cls := findClass_of_methodNamed B.named
  have hlocks := B.notSynchronized
  subst hsz
  have hD := hD0.self (sz := s.heap.size)
  generalize hAe : va_A [(xt, .inr (12, [.ref ah, .ref xe, .ref xf])), (ah, .inr (4, [.ref ac, .ref au, .ref ab, .ref an, .ref ak, .ref ad, .int 0, .int 0, .long 0])), (ak, .inr (8, [.ref ar, .int 105, .int 0, .int (-1), .int 0, .int 0, .int 0])), (ar, .inr (9, [.ref r1, .ref r2, .int 0]))] s.heap.size = A at hD hG ⊢
  have hN := hG.1
  have hA : ∀ q : Nat, s.heap.size ≤ q → A q := fun q h => by rw [← hAe]; exact Or.inr h
  have hS : va_S A s.heap s.heap [] := va_S.rf
  have hP : va_P (dC, dI) vwCl [(xt, .inr (12, [.ref ah, .ref xe, .ref xf])), (ah, .inr (4, [.ref ac, .ref au, .ref ab, .ref an, .ref ak, .ref ad, .int 0, .int 0, .long 0])), (ak, .inr (8, [.ref ar, .int 105, .int 0, .int (-1), .int 0, .int 0, .int 0])), (ar, .inr (9, [.ref r1, .ref r2, .int 0]))] s.heap := hP
  have hw0 : (Cond.fieldLink RX8 10 "Tickstation" "chip" "LTickstation$Chip;").before _ s = true := hts _ (List.mem_cons_of_mem _ (List.mem_append_left _ (List.mem_append_left _ (List.mem_append_left _ (List.mem_append_left _ (List.mem_append_left _ (List.mem_append_left _ (List.mem_of_getElem? (i := 2) rfl))))))))
  have hiX8 : ∀ w ∈ u_ws RX8 TX8 3, w ∈ wsX8_onTop := fun _ h => List.mem_cons_of_mem _ (List.mem_append_left _ (List.mem_append_left _ (List.mem_append_left _ (List.mem_append_left _ (List.mem_append_left _ (List.mem_append_right _ (h)))))))
  have hw2 : (Cond.fieldLink RX8 138 "Tickstation$Chip" "processor" "LTickstation$Processor;").before _ s = true := hts _ (List.mem_cons_of_mem _ (List.mem_append_left _ (List.mem_append_left _ (List.mem_append_left _ (List.mem_append_left _ (List.mem_append_left _ (List.mem_append_left _ (List.mem_of_getElem? (i := 3) rfl))))))))
  have hiX0 : ∀ w ∈ u_ws RX0 TX0 9, w ∈ wsX8_onTop := fun _ h => List.mem_cons_of_mem _ (List.mem_append_left _ (List.mem_append_left _ (List.mem_append_left _ (List.mem_append_left _ (List.mem_append_right _ (h))))))
  have hw4 : (Cond.fieldLink RX8 223 "Tickstation$Processor" "begun" "LTickstation$Row;").before _ s = true := hts _ (List.mem_cons_of_mem _ (List.mem_append_left _ (List.mem_append_left _ (List.mem_append_left _ (List.mem_append_left _ (List.mem_append_left _ (List.mem_append_left _ (List.mem_of_getElem? (i := 4) rfl))))))))
  have hiX4 : ∀ w ∈ u_ws RX4 TX4 7, w ∈ wsX8_onTop := fun _ h => List.mem_cons_of_mem _ (List.mem_append_left _ (List.mem_append_left _ (List.mem_append_left _ (List.mem_append_right _ (h)))))
  have hw6 : (Cond.classLink RX8 190 "java/util/NoSuchElementException").before _ s = true := hts _ (List.mem_cons_of_mem _ (List.mem_append_left _ (List.mem_append_left _ (List.mem_append_left _ (List.mem_append_left _ (List.mem_append_left _ (List.mem_append_left _ (List.mem_of_getElem? (i := 0) rfl))))))))
  have hw7 : (Cond.initialized "java/util/NoSuchElementException").before _ s = true := hts _ (List.mem_cons_of_mem _ (List.mem_append_left _ (List.mem_append_left _ (List.mem_append_left _ (List.mem_append_left _ (List.mem_append_left _ (List.mem_append_left _ (List.mem_of_getElem? (i := 1) rfl))))))))
  have hl := lv_entry ([.ref xt]) (n := 2) (Nat.le_of_ble_eq_true rfl)
  rw [lg_entry_eq]
  generalize (lg_sl ([.ref xt]) ++ List.replicate (2 - (lg_sl ([.ref xt])).length) Slot.unset).toArray = ls at hl ⊢
  have hl : lv_has ls 2 [(0, .ref xt)] := hl
  refine lv_aload_n hx hb dX8_onTop_0 rfl (lv_at hl 0 rfl) ?_
  refine va_get (D := (dC, dI)) (ci := 12) (v := .ref ah) (C := RX8) (T := TX8) (N := 3) hx hb hts hiX8 hown hK hP 0 rfl rfl 0 (by decide) (hw0) (fun _ h9 => h9) rfl dX8_onTop_1 ?_
  refine va_get (D := (dC, dI)) (ci := 4) (v := .ref ak) (C := RX0) (T := TX0) (N := 9) hx hb hts hiX0 hown hK hP 1 rfl rfl 4 (by decide) (hw2) (fun _ h9 => h9) rfl dX8_onTop_4 ?_
  refine va_get (D := (dC, dI)) (ci := 8) (v := .ref ar) (C := RX4) (T := TX4) (N := 7) hx hb hts hiX4 hown hK hP 2 rfl rfl 0 (by decide) (hw4) (fun _ h9 => h9) rfl dX8_onTop_7 ?_
  have hPc := hP.sub (ws' := [(ar, .inr (9, [.ref r1, .ref r2, .int 0]))]) [3] rfl
  have hDc := hD.sub (ws' := [(ar, .inr (9, [.ref r1, .ref r2, .int 0]))]) [3] (by decide) rfl
  have hKc := hK.sub (tys' := [(cI, .int)]) [0] rfl
  have hFc := va_free (wc := [(ar, .inr (9, [.ref r1, .ref r2, .int 0]))]) hD hS hA [3] rfl
  refine va_calli (va_runV (As := []) (rest := []) ⟨hx, hb, hml, hown, hts⟩ (c_X5_topLine l dC dI g ar r1 r2 cI s.heap.size) (cwV 0 hts gX8_onTop_X5_topLine rfl rfl rfl (by decide +kernel) ⟨Nat.le_of_ble_eq_true rfl, Nat.le_of_ble_eq_true rfl⟩) ⟨wIn_blind, va_recv hK hP (ci := 9) (q0 := 3) rfl rfl, wIn_at hPc hKc hDc hG hS hFc⟩ rfl rfl hl.1 rfl (lv_room (Nat.le_of_ble_eq_true rfl)) dX8_onTop_10 ⟨Nat.le_of_ble_eq_true rfl, Nat.le_of_ble_eq_true rfl⟩) hS (fun q _ h => hFc q h) hFc (fun r_1 u t H1 locs ht hvm hw hB hz1 hk1 hS => ?_)
  obtain ⟨hP1, hK1, hD1⟩ := hB
  rw [ht] at hP1
  obtain ⟨hP, hD⟩ := va_join (wr := [(xt, .inr (12, [.ref ah, .ref xe, .ref xf])), (ah, .inr (4, [.ref ac, .ref au, .ref ab, .ref an, .ref ak, .ref ad, .int 0, .int 0, .long 0])), (ak, .inr (8, [.ref ar, .int 105, .int 0, .int (-1), .int 0, .int 0, .int 0]))]) (w1 := [(ar, .inr (9, [.ref r1, .ref r2, .int 0]))]) hP hD [3] [0, 1, 2] rfl rfl (by decide) (by decide) hk1 hFc hP1 hD1
  generalize H1 = H at hP hS ⊢
  have hP : va_P (dC, dI) vwCl [(xt, .inr (12, [.ref ah, .ref xe, .ref xf])), (ah, .inr (4, [.ref ac, .ref au, .ref ab, .ref an, .ref ak, .ref ad, .int 0, .int 0, .long 0])), (ak, .inr (8, [.ref ar, .int 105, .int 0, .int (-1), .int 0, .int 0, .int 0])), (ar, .inr (9, [.ref r1, .ref r2, .int 0]))] H := hP
  have hD : va_D A [(xt, .inr (12, [.ref ah, .ref xe, .ref xf])), (ah, .inr (4, [.ref ac, .ref au, .ref ab, .ref an, .ref ak, .ref ad, .int 0, .int 0, .long 0])), (ak, .inr (8, [.ref ar, .int 105, .int 0, .int (-1), .int 0, .int 0, .int 0])), (ar, .inr (9, [.ref r1, .ref r2, .int 0]))] := hD
  refine lt_ci (y := (-1)) hw ?_
  refine lv_istore_n (lv' := [(1, .int (-1)), (0, .ref xt)]) hx hb dX8_onTop_13 rfl hl (by decide) rfl (fun ls hl => ?_)
  refine lv_iload_n hx hb dX8_onTop_14 rfl (lv_at hl 0 rfl) ?_
  refine lv_iconst (v := (-1)) hx hb dX8_onTop_15 (by decide) ?_
  refine lv_icmp_ne (tgt := 29) hx hb dX8_onTop_16 (by decide) (fun c => (c (by decide)).elim) (fun _ => ?_)
  obtain ⟨sa9, hstr9⟩ := hG.2.2.2.1 _ (List.mem_of_getElem? (i := 7) rfl)
  exact ns_throw (sa := sa9) hx hb hl9 ns_x0 ns_x1 ns_x2 ns_x5 hown (by decide +kernel) (by decide +kernel) hw6 hw7 hstr9 (vx_hat (fun w hw => hts w (List.mem_cons_of_mem _ (List.mem_append_left _ (List.mem_append_right _ (hw))))) xh_194 (nw_use hN)) xg_194 hG.2.2.2.2.1 hG.2.2.2.2.2.1 hS (hl.1.trans hml.symm) dX8_onTop_19 dX8_onTop_22 dX8_onTop_23 dX8_onTop_25 dX8_onTop_28 (fun x9 hx9 => (htab x9 hx9).elim) (by decide) (by decide) (Nat.le_of_ble_eq_true rfl) (Nat.le_of_ble_eq_true rfl) hlocks (fun t hal hle hq => ⟨(), trivial, ⟨rfl, rfl⟩, ⟨Nat.le_trans hS.1 hle, fun q h1 h2 => (hq q (Nat.lt_of_lt_of_le h1 hS.1)).trans (hS.2.1 q h1 h2)⟩⟩) hS.2.2 (Nat.le_of_ble_eq_true rfl) (Nat.le_of_ble_eq_true rfl)

def sp_X8_lastReset : Int32 := 1
set_option maxHeartbeats 4000000 in
set_option maxRecDepth 100000 in
theorem c_X8_lastReset (l : Launch) (hl9 : l.stackTraces = false) (dC : Nat → ClassId) (dI : Nat → Nat → Nat) (g : Nat × Nat × Nat) (xt : Nat) (xe : Nat) (xf : Nat) (ah : Nat) (ac : Nat) (au : Nat) (ab : Nat) (an : Nat) (ak : Nat) (ad : Nat) (cI : ClassId) (sz : Nat) : vx_Met l yX8_lastReset wsX8_lastReset ({ frames := 6, cells := 1, slots := 6, locals := 100 } : Room) (va_Pc [.ref xt] (wIn dC dI g [(xt, .inr (12, [.ref ah, .ref xe, .ref xf])), (ah, .inr (4, [.ref ac, .ref au, .ref ab, .ref an, .ref ak, .ref ad, .int 0, .int 0, .long 0])), (ad, .inr (11, [.int (-1), .int 0, .int 0, .int 0, .int 0, .int 0]))] [(cI, .int)] sz)) (va_Qi (fun (r : Int32) (u : Unit) => False) (fun (u : Unit) (t : State) => wOut dC dI [] [(cI, .int)] (va_A [(xt, .inr (12, [.ref ah, .ref xe, .ref xf])), (ah, .inr (4, [.ref ac, .ref au, .ref ab, .ref an, .ref ak, .ref ad, .int 0, .int 0, .long 0])), (ad, .inr (11, [.int (-1), .int 0, .int 0, .int 0, .int 0, .int 0]))] sz) t) (va_A [(xt, .inr (12, [.ref ah, .ref xe, .ref xf])), (ah, .inr (4, [.ref ac, .ref au, .ref ab, .ref an, .ref ak, .ref ad, .int 0, .int 0, .long 0])), (ad, .inr (11, [.int (-1), .int 0, .int 0, .int 0, .int 0, .int 0]))] sz)) (vx_X (fun (_ : Unit) => True) (fun (E : String) (_ : Unit) (_ : State) => (E = "java/util/NoSuchElementException" ∧ sp_X8_lastReset = 1)) (va_A [(xt, .inr (12, [.ref ah, .ref xe, .ref xf])), (ah, .inr (4, [.ref ac, .ref au, .ref ab, .ref an, .ref ak, .ref ad, .int 0, .int 0, .long 0])), (ad, .inr (11, [.int (-1), .int 0, .int 0, .int 0, .int 0, .int 0]))] sz)) 1 6 (va_A [(xt, .inr (12, [.ref ah, .ref xe, .ref xf])), (ah, .inr (4, [.ref ac, .ref au, .ref ab, .ref an, .ref ak, .ref ad, .int 0, .int 0, .long 0])), (ad, .inr (11, [.int (-1), .int 0, .int 0, .int 0, .int 0, .int 0]))] sz) := by
  refine vx_ofW (cc := cX8_lastReset) (maxL := 1) (ret := (some .int)) (by decide) rfl ?_
  intro p e s m args below meth c s₁ B hml htab hv
  obtain ⟨rfl, hsz, hP, hK, hD0, hG⟩ := hv
  have hx := B.exec
  have hb := B.bytes
  have hr := B.returns
  have hts := atoms_spec (ws := wsX8_lastReset) B.pre
  have hown : s.vm.findClass RX8 = some m.cls := findClass_of_methodNamed B.named
  have hlocks := B.notSynchronized
  subst hsz
  have hD := hD0.self (sz := s.heap.size)
  generalize hAe : va_A [(xt, .inr (12, [.ref ah, .ref xe, .ref xf])), (ah, .inr (4, [.ref ac, .ref au, .ref ab, .ref an, .ref ak, .ref ad, .int 0, .int 0, .long 0])), (ad, .inr (11, [.int (-1), .int 0, .int 0, .int 0, .int 0, .int 0]))] s.heap.size = A at hD hG ⊢
  have hN := hG.1
  have hA : ∀ q : Nat, s.heap.size ≤ q → A q := fun q h => by rw [← hAe]; exact Or.inr h
  have hS : va_S A s.heap s.heap [] := va_S.rf
  have hP : va_P (dC, dI) vwCl [(xt, .inr (12, [.ref ah, .ref xe, .ref xf])), (ah, .inr (4, [.ref ac, .ref au, .ref ab, .ref an, .ref ak, .ref ad, .int 0, .int 0, .long 0])), (ad, .inr (11, [.int (-1), .int 0, .int 0, .int 0, .int 0, .int 0]))] s.heap := hP
  have hw0 : (Cond.fieldLink RX8 10 "Tickstation" "chip" "LTickstation$Chip;").before _ s = true := hts _ (List.mem_cons_of_mem _ (List.mem_append_left _ (List.mem_append_left _ (List.mem_append_left _ (List.mem_append_left _ (List.mem_of_getElem? (i := 2) rfl))))))
  have hiX8 : ∀ w ∈ u_ws RX8 TX8 3, w ∈ wsX8_lastReset := fun _ h => List.mem_cons_of_mem _ (List.mem_append_left _ (List.mem_append_left _ (List.mem_append_left _ (List.mem_append_right _ (h)))))
  have hw2 : (Cond.fieldLink RX8 151 "Tickstation$Chip" "watchdog" "LTickstation$Watchdog;").before _ s = true := hts _ (List.mem_cons_of_mem _ (List.mem_append_left _ (List.mem_append_left _ (List.mem_append_left _ (List.mem_append_left _ (List.mem_of_getElem? (i := 3) rfl))))))
  have hiX0 : ∀ w ∈ u_ws RX0 TX0 9, w ∈ wsX8_lastReset := fun _ h => List.mem_cons_of_mem _ (List.mem_append_left _ (List.mem_append_left _ (List.mem_append_right _ (h))))
  have hw4 : (Cond.fieldLink RX8 246 "Tickstation$Watchdog" "resets" "I").before _ s = true := hts _ (List.mem_cons_of_mem _ (List.mem_append_left _ (List.mem_append_left _ (List.mem_append_left _ (List.mem_append_left _ (List.mem_of_getElem? (i := 4) rfl))))))
  have hiX7 : ∀ w ∈ u_ws RX7 TX7 6, w ∈ wsX8_lastReset := fun _ h => List.mem_cons_of_mem _ (List.mem_append_left _ (List.mem_append_right _ (h)))
  have hw6 : (Cond.classLink RX8 190 "java/util/NoSuchElementException").before _ s = true := hts _ (List.mem_cons_of_mem _ (List.mem_append_left _ (List.mem_append_left _ (List.mem_append_left _ (List.mem_append_left _ (List.mem_of_getElem? (i := 0) rfl))))))
  have hw7 : (Cond.initialized "java/util/NoSuchElementException").before _ s = true := hts _ (List.mem_cons_of_mem _ (List.mem_append_left _ (List.mem_append_left _ (List.mem_append_left _ (List.mem_append_left _ (List.mem_of_getElem? (i := 1) rfl))))))
  have hl := lv_entry ([.ref xt]) (n := 1) (Nat.le_of_ble_eq_true rfl)
  rw [lg_entry_eq]
  generalize (lg_sl ([.ref xt]) ++ List.replicate (1 - (lg_sl ([.ref xt])).length) Slot.unset).toArray = ls at hl ⊢
  have hl : lv_has ls 1 [(0, .ref xt)] := hl
  refine lv_aload_n hx hb dX8_lastReset_0 rfl (lv_at hl 0 rfl) ?_
  refine va_get (D := (dC, dI)) (ci := 12) (v := .ref ah) (C := RX8) (T := TX8) (N := 3) hx hb hts hiX8 hown hK hP 0 rfl rfl 0 (by decide) (hw0) (fun _ h9 => h9) rfl dX8_lastReset_1 ?_
  refine va_get (D := (dC, dI)) (ci := 4) (v := .ref ad) (C := RX0) (T := TX0) (N := 9) hx hb hts hiX0 hown hK hP 1 rfl rfl 5 (by decide) (hw2) (fun _ h9 => h9) rfl dX8_lastReset_4 ?_
  refine va_get (D := (dC, dI)) (ci := 11) (v := .int 0) (C := RX7) (T := TX7) (N := 6) hx hb hts hiX7 hown hK hP 2 rfl rfl 4 (by decide) (hw4) (fun _ h9 => h9) rfl dX8_lastReset_7 ?_
  refine lv_if_ne (tgt := 23) hx hb dX8_lastReset_10 (by decide) (fun c => (c (by decide)).elim) (fun _ => ?_)
  obtain ⟨sa9, hstr9⟩ := hG.2.2.2.1 _ (List.mem_of_getElem? (i := 9) rfl)
  exact ns_throw (sa := sa9) hx hb hl9 ns_x0 ns_x1 ns_x2 ns_x5 hown (by decide +kernel) (by decide +kernel) hw6 hw7 hstr9 (vx_hat (fun w hw => hts w (List.mem_cons_of_mem _ (List.mem_append_right _ (hw)))) xh_194 (nw_use hN)) xg_194 hG.2.2.2.2.1 hG.2.2.2.2.2.1 hS (hl.1.trans hml.symm) dX8_lastReset_13 dX8_lastReset_16 dX8_lastReset_17 dX8_lastReset_19 dX8_lastReset_22 (fun x9 hx9 => (htab x9 hx9).elim) (by decide) (by decide) (Nat.le_of_ble_eq_true rfl) (Nat.le_of_ble_eq_true rfl) hlocks (fun t hal hle hq => ⟨(), trivial, ⟨rfl, rfl⟩, ⟨Nat.le_trans hS.1 hle, fun q h1 h2 => (hq q (Nat.lt_of_lt_of_le h1 hS.1)).trans (hS.2.1 q h1 h2)⟩⟩) hS.2.2 (Nat.le_of_ble_eq_true rfl) (Nat.le_of_ble_eq_true rfl)

def sp_X8_asleepShare : Int32 := 1
set_option maxHeartbeats 4000000 in
set_option maxRecDepth 100000 in
theorem c_X8_asleepShare (l : Launch) (hl9 : l.stackTraces = false) (dC : Nat → ClassId) (dI : Nat → Nat → Nat) (g : Nat × Nat × Nat) (xt : Nat) (xe : Nat) (xf : Nat) (ah : Nat) (ac : Nat) (au : Nat) (ab : Nat) (an : Nat) (ak : Nat) (ad : Nat) (cI : ClassId) (sz : Nat) : vx_Met l yX8_asleepShare wsX8_asleepShare ({ frames := 6, cells := 1, slots := 6, locals := 100 } : Room) (va_Pc [.ref xt] (wIn dC dI g [(xt, .inr (12, [.ref ah, .ref xe, .ref xf])), (ah, .inr (4, [.ref ac, .ref au, .ref ab, .ref an, .ref ak, .ref ad, .int 0, .int 0, .long 0]))] [(cI, .int)] sz)) (va_Qi (fun (r : Int32) (u : Unit) => False) (fun (u : Unit) (t : State) => wOut dC dI [] [(cI, .int)] (va_A [(xt, .inr (12, [.ref ah, .ref xe, .ref xf])), (ah, .inr (4, [.ref ac, .ref au, .ref ab, .ref an, .ref ak, .ref ad, .int 0, .int 0, .long 0]))] sz) t) (va_A [(xt, .inr (12, [.ref ah, .ref xe, .ref xf])), (ah, .inr (4, [.ref ac, .ref au, .ref ab, .ref an, .ref ak, .ref ad, .int 0, .int 0, .long 0]))] sz)) (vx_X (fun (_ : Unit) => True) (fun (E : String) (_ : Unit) (_ : State) => (E = "java/lang/ArithmeticException" ∧ sp_X8_asleepShare = 1)) (va_A [(xt, .inr (12, [.ref ah, .ref xe, .ref xf])), (ah, .inr (4, [.ref ac, .ref au, .ref ab, .ref an, .ref ak, .ref ad, .int 0, .int 0, .long 0]))] sz)) 1 6 (va_A [(xt, .inr (12, [.ref ah, .ref xe, .ref xf])), (ah, .inr (4, [.ref ac, .ref au, .ref ab, .ref an, .ref ak, .ref ad, .int 0, .int 0, .long 0]))] sz) := by
  refine vx_ofW (cc := cX8_asleepShare) (maxL := 1) (ret := (some .float)) (by decide) rfl ?_
  intro p e s m args below meth c s₁ B hml htab hv
  obtain ⟨rfl, hsz, hP, hK, hD0, hG⟩ := hv
  have hx := B.exec
  have hb := B.bytes
  have hr := B.returns
  have hts := atoms_spec (ws := wsX8_asleepShare) B.pre
  have hown : s.vm.findClass RX8 = some m.cls := findClass_of_methodNamed B.named
  have hlocks := B.notSynchronized
  subst hsz
  have hD := hD0.self (sz := s.heap.size)
  generalize hAe : va_A [(xt, .inr (12, [.ref ah, .ref xe, .ref xf])), (ah, .inr (4, [.ref ac, .ref au, .ref ab, .ref an, .ref ak, .ref ad, .int 0, .int 0, .long 0]))] s.heap.size = A at hD hG ⊢
  have hN := hG.1
  have hA : ∀ q : Nat, s.heap.size ≤ q → A q := fun q h => by rw [← hAe]; exact Or.inr h
  have hS : va_S A s.heap s.heap [] := va_S.rf
  have hP : va_P (dC, dI) vwCl [(xt, .inr (12, [.ref ah, .ref xe, .ref xf])), (ah, .inr (4, [.ref ac, .ref au, .ref ab, .ref an, .ref ak, .ref ad, .int 0, .int 0, .long 0]))] s.heap := hP
  have hw0 : (Cond.fieldLink RX8 10 "Tickstation" "chip" "LTickstation$Chip;").before _ s = true := hts _ (List.mem_cons_of_mem _ (List.mem_append_left _ (List.mem_append_left _ (List.mem_append_left _ (List.mem_of_getElem? (i := 2) rfl)))))
  have hiX8 : ∀ w ∈ u_ws RX8 TX8 3, w ∈ wsX8_asleepShare := fun _ h => List.mem_cons_of_mem _ (List.mem_append_left _ (List.mem_append_left _ (List.mem_append_right _ (h))))
  have hw2 : (Cond.fieldLink RX8 195 "Tickstation$Chip" "time" "I").before _ s = true := hts _ (List.mem_cons_of_mem _ (List.mem_append_left _ (List.mem_append_left _ (List.mem_append_left _ (List.mem_of_getElem? (i := 3) rfl)))))
  have hiX0 : ∀ w ∈ u_ws RX0 TX0 9, w ∈ wsX8_asleepShare := fun _ h => List.mem_cons_of_mem _ (List.mem_append_left _ (List.mem_append_right _ (h)))
  have hw4 : (Cond.classLink RX8 258 "java/lang/ArithmeticException").before _ s = true := hts _ (List.mem_cons_of_mem _ (List.mem_append_left _ (List.mem_append_left _ (List.mem_append_left _ (List.mem_of_getElem? (i := 0) rfl)))))
  have hw5 : (Cond.initialized "java/lang/ArithmeticException").before _ s = true := hts _ (List.mem_cons_of_mem _ (List.mem_append_left _ (List.mem_append_left _ (List.mem_append_left _ (List.mem_of_getElem? (i := 1) rfl)))))
  have hl := lv_entry ([.ref xt]) (n := 1) (Nat.le_of_ble_eq_true rfl)
  rw [lg_entry_eq]
  generalize (lg_sl ([.ref xt]) ++ List.replicate (1 - (lg_sl ([.ref xt])).length) Slot.unset).toArray = ls at hl ⊢
  have hl : lv_has ls 1 [(0, .ref xt)] := hl
  refine lv_aload_n hx hb dX8_asleepShare_0 rfl (lv_at hl 0 rfl) ?_
  refine va_get (D := (dC, dI)) (ci := 12) (v := .ref ah) (C := RX8) (T := TX8) (N := 3) hx hb hts hiX8 hown hK hP 0 rfl rfl 0 (by decide) (hw0) (fun _ h9 => h9) rfl dX8_asleepShare_1 ?_
  refine va_get (D := (dC, dI)) (ci := 4) (v := .int 0) (C := RX0) (T := TX0) (N := 9) hx hb hts hiX0 hown hK hP 1 rfl rfl 6 (by decide) (hw2) (fun _ h9 => h9) rfl dX8_asleepShare_4 ?_
  refine lv_if_ne (tgt := 21) hx hb dX8_asleepShare_7 (by decide) (fun c => (c (by decide)).elim) (fun _ => ?_)
  obtain ⟨sa9, hstr9⟩ := hG.2.2.2.1 _ (List.mem_of_getElem? (i := 10) rfl)
  exact vx_throwSW (sa := sa9) hx hb hl9 hown (by decide +kernel) (by decide +kernel) hw4 hw5 hstr9 (vx_hat (fun w hw => hts w (List.mem_cons_of_mem _ (List.mem_append_right _ (hw)))) xh_262 (nw_use hN)) xg_262 hG.2.2.2.2.1 hG.2.2.2.2.2.1 hS (hl.1.trans hml.symm) dX8_asleepShare_10 dX8_asleepShare_13 dX8_asleepShare_14 dX8_asleepShare_17 dX8_asleepShare_20 (fun x9 hx9 => (htab x9 hx9).elim) (by decide) (by decide) (Nat.le_of_ble_eq_true rfl) (Nat.le_of_ble_eq_true rfl) hlocks (fun t hal hle hq => ⟨(), trivial, ⟨rfl, rfl⟩, ⟨Nat.le_trans hS.1 hle, fun q h1 h2 => (hq q (Nat.lt_of_lt_of_le h1 hS.1)).trans (hS.2.1 q h1 h2)⟩⟩) hS.2.2 (Nat.le_of_ble_eq_true rfl) (Nat.le_of_ble_eq_true rfl)

def sp_X8_meanEnergy : Int32 := 1
set_option maxHeartbeats 4000000 in
set_option maxRecDepth 100000 in
theorem c_X8_meanEnergy (l : Launch) (hl9 : l.stackTraces = false) (dC : Nat → ClassId) (dI : Nat → Nat → Nat) (g : Nat × Nat × Nat) (xt : Nat) (xe : Nat) (xf : Nat) (ah : Nat) (ac : Nat) (au : Nat) (ab : Nat) (an : Nat) (ak : Nat) (ad : Nat) (cI : ClassId) (sz : Nat) : vx_Met l yX8_meanEnergy wsX8_meanEnergy ({ frames := 6, cells := 1, slots := 6, locals := 100 } : Room) (va_Pc [.ref xt] (wIn dC dI g [(xt, .inr (12, [.ref ah, .ref xe, .ref xf])), (ah, .inr (4, [.ref ac, .ref au, .ref ab, .ref an, .ref ak, .ref ad, .int 0, .int 0, .long 0]))] [(cI, .int)] sz)) (va_Qi (fun (r : Int32) (u : Unit) => False) (fun (u : Unit) (t : State) => wOut dC dI [] [(cI, .int)] (va_A [(xt, .inr (12, [.ref ah, .ref xe, .ref xf])), (ah, .inr (4, [.ref ac, .ref au, .ref ab, .ref an, .ref ak, .ref ad, .int 0, .int 0, .long 0]))] sz) t) (va_A [(xt, .inr (12, [.ref ah, .ref xe, .ref xf])), (ah, .inr (4, [.ref ac, .ref au, .ref ab, .ref an, .ref ak, .ref ad, .int 0, .int 0, .long 0]))] sz)) (vx_X (fun (_ : Unit) => True) (fun (E : String) (_ : Unit) (_ : State) => (E = "java/lang/ArithmeticException" ∧ sp_X8_meanEnergy = 1)) (va_A [(xt, .inr (12, [.ref ah, .ref xe, .ref xf])), (ah, .inr (4, [.ref ac, .ref au, .ref ab, .ref an, .ref ak, .ref ad, .int 0, .int 0, .long 0]))] sz)) 1 6 (va_A [(xt, .inr (12, [.ref ah, .ref xe, .ref xf])), (ah, .inr (4, [.ref ac, .ref au, .ref ab, .ref an, .ref ak, .ref ad, .int 0, .int 0, .long 0]))] sz) := by
  refine vx_ofW (cc := cX8_meanEnergy) (maxL := 1) (ret := (some .double)) (by decide) rfl ?_
  intro p e s m args below meth c s₁ B hml htab hv
  obtain ⟨rfl, hsz, hP, hK, hD0, hG⟩ := hv
  have hx := B.exec
  have hb := B.bytes
  have hr := B.returns
  have hts := atoms_spec (ws := wsX8_meanEnergy) B.pre
  have hown : s.vm.findClass RX8 = some m.cls := findClass_of_methodNamed B.named
  have hlocks := B.notSynchronized
  subst hsz
  have hD := hD0.self (sz := s.heap.size)
  generalize hAe : va_A [(xt, .inr (12, [.ref ah, .ref xe, .ref xf])), (ah, .inr (4, [.ref ac, .ref au, .ref ab, .ref an, .ref ak, .ref ad, .int 0, .int 0, .long 0]))] s.heap.size = A at hD hG ⊢
  have hN := hG.1
  have hA : ∀ q : Nat, s.heap.size ≤ q → A q := fun q h => by rw [← hAe]; exact Or.inr h
  have hS : va_S A s.heap s.heap [] := va_S.rf
  have hP : va_P (dC, dI) vwCl [(xt, .inr (12, [.ref ah, .ref xe, .ref xf])), (ah, .inr (4, [.ref ac, .ref au, .ref ab, .ref an, .ref ak, .ref ad, .int 0, .int 0, .long 0]))] s.heap := hP
  have hw0 : (Cond.fieldLink RX8 10 "Tickstation" "chip" "LTickstation$Chip;").before _ s = true := hts _ (List.mem_cons_of_mem _ (List.mem_append_left _ (List.mem_append_left _ (List.mem_append_left _ (List.mem_of_getElem? (i := 2) rfl)))))
  have hiX8 : ∀ w ∈ u_ws RX8 TX8 3, w ∈ wsX8_meanEnergy := fun _ h => List.mem_cons_of_mem _ (List.mem_append_left _ (List.mem_append_left _ (List.mem_append_right _ (h))))
  have hw2 : (Cond.fieldLink RX8 195 "Tickstation$Chip" "time" "I").before _ s = true := hts _ (List.mem_cons_of_mem _ (List.mem_append_left _ (List.mem_append_left _ (List.mem_append_left _ (List.mem_of_getElem? (i := 3) rfl)))))
  have hiX0 : ∀ w ∈ u_ws RX0 TX0 9, w ∈ wsX8_meanEnergy := fun _ h => List.mem_cons_of_mem _ (List.mem_append_left _ (List.mem_append_right _ (h)))
  have hw4 : (Cond.classLink RX8 258 "java/lang/ArithmeticException").before _ s = true := hts _ (List.mem_cons_of_mem _ (List.mem_append_left _ (List.mem_append_left _ (List.mem_append_left _ (List.mem_of_getElem? (i := 0) rfl)))))
  have hw5 : (Cond.initialized "java/lang/ArithmeticException").before _ s = true := hts _ (List.mem_cons_of_mem _ (List.mem_append_left _ (List.mem_append_left _ (List.mem_append_left _ (List.mem_of_getElem? (i := 1) rfl)))))
  have hl := lv_entry ([.ref xt]) (n := 1) (Nat.le_of_ble_eq_true rfl)
  rw [lg_entry_eq]
  generalize (lg_sl ([.ref xt]) ++ List.replicate (1 - (lg_sl ([.ref xt])).length) Slot.unset).toArray = ls at hl ⊢
  have hl : lv_has ls 1 [(0, .ref xt)] := hl
  refine lv_aload_n hx hb dX8_meanEnergy_0 rfl (lv_at hl 0 rfl) ?_
  refine va_get (D := (dC, dI)) (ci := 12) (v := .ref ah) (C := RX8) (T := TX8) (N := 3) hx hb hts hiX8 hown hK hP 0 rfl rfl 0 (by decide) (hw0) (fun _ h9 => h9) rfl dX8_meanEnergy_1 ?_
  refine va_get (D := (dC, dI)) (ci := 4) (v := .int 0) (C := RX0) (T := TX0) (N := 9) hx hb hts hiX0 hown hK hP 1 rfl rfl 6 (by decide) (hw2) (fun _ h9 => h9) rfl dX8_meanEnergy_4 ?_
  refine lv_if_ne (tgt := 21) hx hb dX8_meanEnergy_7 (by decide) (fun c => (c (by decide)).elim) (fun _ => ?_)
  obtain ⟨sa9, hstr9⟩ := hG.2.2.2.1 _ (List.mem_of_getElem? (i := 10) rfl)
  exact vx_throwSW (sa := sa9) hx hb hl9 hown (by decide +kernel) (by decide +kernel) hw4 hw5 hstr9 (vx_hat (fun w hw => hts w (List.mem_cons_of_mem _ (List.mem_append_right _ (hw)))) xh_262 (nw_use hN)) xg_262 hG.2.2.2.2.1 hG.2.2.2.2.2.1 hS (hl.1.trans hml.symm) dX8_meanEnergy_10 dX8_meanEnergy_13 dX8_meanEnergy_14 dX8_meanEnergy_17 dX8_meanEnergy_20 (fun x9 hx9 => (htab x9 hx9).elim) (by decide) (by decide) (Nat.le_of_ble_eq_true rfl) (Nat.le_of_ble_eq_true rfl) hlocks (fun t hal hle hq => ⟨(), trivial, ⟨rfl, rfl⟩, ⟨Nat.le_trans hS.1 hle, fun q h1 h2 => (hq q (Nat.lt_of_lt_of_le h1 hS.1)).trans (hS.2.1 q h1 h2)⟩⟩) hS.2.2 (Nat.le_of_ble_eq_true rfl) (Nat.le_of_ble_eq_true rfl)

set_option maxHeartbeats 4000000 in
set_option maxRecDepth 100000 in
theorem c_X8_time (l : Launch) (dC : Nat → ClassId) (dI : Nat → Nat → Nat) (g : Nat × Nat × Nat) (xt : Nat) (xe : Nat) (xf : Nat) (ah : Nat) (ac : Nat) (au : Nat) (ab : Nat) (an : Nat) (ak : Nat) (ad : Nat) (cI : ClassId) (sz : Nat) : Met l yX8_time wsX8_time ({ frames := 0, cells := 0, slots := 0, locals := 0 } : Room) (va_Pc [.ref xt] (wIn dC dI g [(xt, .inr (12, [.ref ah, .ref xe, .ref xf])), (ah, .inr (4, [.ref ac, .ref au, .ref ab, .ref an, .ref ak, .ref ad, .int 0, .int 0, .long 0]))] [(cI, .int)] sz)) (va_Qi (fun (r : Int32) (u : Unit) => r = 0) (fun (u : Unit) (t : State) => wOut dC dI [] [(cI, .int)] (va_A [(xt, .inr (12, [.ref ah, .ref xe, .ref xf])), (ah, .inr (4, [.ref ac, .ref au, .ref ab, .ref an, .ref ak, .ref ad, .int 0, .int 0, .long 0]))] sz) t) (va_A [(xt, .inr (12, [.ref ah, .ref xe, .ref xf])), (ah, .inr (4, [.ref ac, .ref au, .ref ab, .ref an, .ref ak, .ref ad, .int 0, .int 0, .long 0]))] sz)) 0 0 (va_A [(xt, .inr (12, [.ref ah, .ref xe, .ref xf])), (ah, .inr (4, [.ref ac, .ref au, .ref ab, .ref an, .ref ak, .ref ad, .int 0, .int 0, .long 0]))] sz) := by
  refine Met.ofW (cc := cX8_time) (maxL := 1) (ret := (some .int)) (by decide) rfl ?_
  intro p e s m args below meth c s₁ B hml hv
  obtain ⟨rfl, hsz, hP, hK, hD0, hG⟩ := hv
  have hx := B.exec
  have hb := B.bytes
  have hr := B.returns
  have hts := atoms_spec (ws := wsX8_time) B.pre
  have hown : s.vm.findClass RX8 = some m.cls := findClass_of_methodNamed B.named
  have hlocks := B.notSynchronized
  subst hsz
  have hD := hD0.self (sz := s.heap.size)
  generalize hAe : va_A [(xt, .inr (12, [.ref ah, .ref xe, .ref xf])), (ah, .inr (4, [.ref ac, .ref au, .ref ab, .ref an, .ref ak, .ref ad, .int 0, .int 0, .long 0]))] s.heap.size = A at hD hG ⊢
  have hN := hG.1
  have hA : ∀ q : Nat, s.heap.size ≤ q → A q := fun q h => by rw [← hAe]; exact Or.inr h
  have hS : va_S A s.heap s.heap [] := va_S.rf
  have hP : va_P (dC, dI) vwCl [(xt, .inr (12, [.ref ah, .ref xe, .ref xf])), (ah, .inr (4, [.ref ac, .ref au, .ref ab, .ref an, .ref ak, .ref ad, .int 0, .int 0, .long 0]))] s.heap := hP
  have hw0 : (Cond.fieldLink RX8 10 "Tickstation" "chip" "LTickstation$Chip;").before _ s = true := hts _ (List.mem_cons_of_mem _ (List.mem_append_left _ (List.mem_append_left _ (List.mem_of_getElem? (i := 0) rfl))))
  have hiX8 : ∀ w ∈ u_ws RX8 TX8 3, w ∈ wsX8_time := fun _ h => List.mem_cons_of_mem _ (List.mem_append_left _ (List.mem_append_right _ (h)))
  have hw2 : (Cond.fieldLink RX8 195 "Tickstation$Chip" "time" "I").before _ s = true := hts _ (List.mem_cons_of_mem _ (List.mem_append_left _ (List.mem_append_left _ (List.mem_of_getElem? (i := 1) rfl))))
  have hiX0 : ∀ w ∈ u_ws RX0 TX0 9, w ∈ wsX8_time := fun _ h => List.mem_cons_of_mem _ (List.mem_append_right _ (h))
  have hl := lv_entry ([.ref xt]) (n := 1) (Nat.le_of_ble_eq_true rfl)
  rw [lg_entry_eq]
  generalize (lg_sl ([.ref xt]) ++ List.replicate (1 - (lg_sl ([.ref xt])).length) Slot.unset).toArray = ls at hl ⊢
  have hl : lv_has ls 1 [(0, .ref xt)] := hl
  refine lv_aload_n hx hb dX8_time_0 rfl (lv_at hl 0 rfl) ?_
  refine va_get (D := (dC, dI)) (ci := 12) (v := .ref ah) (C := RX8) (T := TX8) (N := 3) hx hb hts hiX8 hown hK hP 0 rfl rfl 0 (by decide) (hw0) (fun _ h9 => h9) rfl dX8_time_1 ?_
  refine va_get (D := (dC, dI)) (ci := 4) (v := .int 0) (C := RX0) (T := TX0) (N := 9) hx hb hts hiX0 hown hK hP 1 rfl rfl 6 (by decide) (hw2) (fun _ h9 => h9) rfl dX8_time_4 ?_
  have hP9 := hP.sub (ws' := []) [] rfl
  have hD9 := hD.sub (ws' := []) [] (by decide) rfl
  have hK9 := hK.sub (tys' := [(cI, .int)]) [0] rfl
  exact W.iret (v := 0) hx hb hr (fun t ht hW => ⟨⟨0, (), rfl, rfl, wOut_at ht hW hP9 hK9 hD9⟩, hS.F ht⟩) hS.2.2 dX8_time_7

set_option maxHeartbeats 4000000 in
set_option maxRecDepth 100000 in
theorem c_X8_pins (l : Launch) (dC : Nat → ClassId) (dI : Nat → Nat → Nat) (g : Nat × Nat × Nat) (xt : Nat) (xe : Nat) (xf : Nat) (ah : Nat) (ac : Nat) (au : Nat) (ab : Nat) (b1 : Nat) (b2 : Nat) (an : Nat) (ak : Nat) (ad : Nat) (cI : ClassId) (sz : Nat) : Met l yX8_pins wsX8_pins ({ frames := 0, cells := 0, slots := 0, locals := 0 } : Room) (va_Pc [.ref xt] (wIn dC dI g [(xt, .inr (12, [.ref ah, .ref xe, .ref xf])), (ah, .inr (4, [.ref ac, .ref au, .ref ab, .ref an, .ref ak, .ref ad, .int 0, .int 0, .long 0])), (ab, .inr (7, [.ref b1, .ref b2, .int 0, .int 0]))] [(cI, .int)] sz)) (va_Qi (fun (r : Int32) (u : Unit) => r = 0) (fun (u : Unit) (t : State) => wOut dC dI [] [(cI, .int)] (va_A [(xt, .inr (12, [.ref ah, .ref xe, .ref xf])), (ah, .inr (4, [.ref ac, .ref au, .ref ab, .ref an, .ref ak, .ref ad, .int 0, .int 0, .long 0])), (ab, .inr (7, [.ref b1, .ref b2, .int 0, .int 0]))] sz) t) (va_A [(xt, .inr (12, [.ref ah, .ref xe, .ref xf])), (ah, .inr (4, [.ref ac, .ref au, .ref ab, .ref an, .ref ak, .ref ad, .int 0, .int 0, .long 0])), (ab, .inr (7, [.ref b1, .ref b2, .int 0, .int 0]))] sz)) 0 0 (va_A [(xt, .inr (12, [.ref ah, .ref xe, .ref xf])), (ah, .inr (4, [.ref ac, .ref au, .ref ab, .ref an, .ref ak, .ref ad, .int 0, .int 0, .long 0])), (ab, .inr (7, [.ref b1, .ref b2, .int 0, .int 0]))] sz) := by
  refine Met.ofW (cc := cX8_pins) (maxL := 1) (ret := (some .int)) (by decide) rfl ?_
  intro p e s m args below meth c s₁ B hml hv
  obtain ⟨rfl, hsz, hP, hK, hD0, hG⟩ := hv
  have hx := B.exec
  have hb := B.bytes
  have hr := B.returns
  have hts := atoms_spec (ws := wsX8_pins) B.pre
  have hown : s.vm.findClass RX8 = some m.cls := findClass_of_methodNamed B.named
  have hlocks := B.notSynchronized
  subst hsz
  have hD := hD0.self (sz := s.heap.size)
  generalize hAe : va_A [(xt, .inr (12, [.ref ah, .ref xe, .ref xf])), (ah, .inr (4, [.ref ac, .ref au, .ref ab, .ref an, .ref ak, .ref ad, .int 0, .int 0, .long 0])), (ab, .inr (7, [.ref b1, .ref b2, .int 0, .int 0]))] s.heap.size = A at hD hG ⊢
  have hN := hG.1
  have hA : ∀ q : Nat, s.heap.size ≤ q → A q := fun q h => by rw [← hAe]; exact Or.inr h
  have hS : va_S A s.heap s.heap [] := va_S.rf
  have hP : va_P (dC, dI) vwCl [(xt, .inr (12, [.ref ah, .ref xe, .ref xf])), (ah, .inr (4, [.ref ac, .ref au, .ref ab, .ref an, .ref ak, .ref ad, .int 0, .int 0, .long 0])), (ab, .inr (7, [.ref b1, .ref b2, .int 0, .int 0]))] s.heap := hP
  have hw0 : (Cond.fieldLink RX8 10 "Tickstation" "chip" "LTickstation$Chip;").before _ s = true := hts _ (List.mem_cons_of_mem _ (List.mem_append_left _ (List.mem_append_left _ (List.mem_append_left _ (List.mem_of_getElem? (i := 0) rfl)))))
  have hiX8 : ∀ w ∈ u_ws RX8 TX8 3, w ∈ wsX8_pins := fun _ h => List.mem_cons_of_mem _ (List.mem_append_left _ (List.mem_append_left _ (List.mem_append_right _ (h))))
  have hw2 : (Cond.fieldLink RX8 203 "Tickstation$Chip" "probe" "LTickstation$Probe;").before _ s = true := hts _ (List.mem_cons_of_mem _ (List.mem_append_left _ (List.mem_append_left _ (List.mem_append_left _ (List.mem_of_getElem? (i := 1) rfl)))))
  have hiX0 : ∀ w ∈ u_ws RX0 TX0 9, w ∈ wsX8_pins := fun _ h => List.mem_cons_of_mem _ (List.mem_append_left _ (List.mem_append_right _ (h)))
  have hw4 : (Cond.fieldLink RX8 207 "Tickstation$Probe" "levels" "I").before _ s = true := hts _ (List.mem_cons_of_mem _ (List.mem_append_left _ (List.mem_append_left _ (List.mem_append_left _ (List.mem_of_getElem? (i := 2) rfl)))))
  have hiX3 : ∀ w ∈ u_ws RX3 TX3 4, w ∈ wsX8_pins := fun _ h => List.mem_cons_of_mem _ (List.mem_append_right _ (h))
  have hl := lv_entry ([.ref xt]) (n := 1) (Nat.le_of_ble_eq_true rfl)
  rw [lg_entry_eq]
  generalize (lg_sl ([.ref xt]) ++ List.replicate (1 - (lg_sl ([.ref xt])).length) Slot.unset).toArray = ls at hl ⊢
  have hl : lv_has ls 1 [(0, .ref xt)] := hl
  refine lv_aload_n hx hb dX8_pins_0 rfl (lv_at hl 0 rfl) ?_
  refine va_get (D := (dC, dI)) (ci := 12) (v := .ref ah) (C := RX8) (T := TX8) (N := 3) hx hb hts hiX8 hown hK hP 0 rfl rfl 0 (by decide) (hw0) (fun _ h9 => h9) rfl dX8_pins_1 ?_
  refine va_get (D := (dC, dI)) (ci := 4) (v := .ref ab) (C := RX0) (T := TX0) (N := 9) hx hb hts hiX0 hown hK hP 1 rfl rfl 2 (by decide) (hw2) (fun _ h9 => h9) rfl dX8_pins_4 ?_
  refine va_get (D := (dC, dI)) (ci := 7) (v := .int 0) (C := RX3) (T := TX3) (N := 4) hx hb hts hiX3 hown hK hP 2 rfl rfl 2 (by decide) (hw4) (fun _ h9 => h9) rfl dX8_pins_7 ?_
  have hP9 := hP.sub (ws' := []) [] rfl
  have hD9 := hD.sub (ws' := []) [] (by decide) rfl
  have hK9 := hK.sub (tys' := [(cI, .int)]) [0] rfl
  exact W.iret (v := 0) hx hb hr (fun t ht hW => ⟨⟨0, (), rfl, rfl, wOut_at ht hW hP9 hK9 hD9⟩, hS.F ht⟩) hS.2.2 dX8_pins_10

set_option maxHeartbeats 4000000 in
set_option maxRecDepth 100000 in
theorem c_X8_edges (l : Launch) (dC : Nat → ClassId) (dI : Nat → Nat → Nat) (g : Nat × Nat × Nat) (xt : Nat) (xe : Nat) (xf : Nat) (ah : Nat) (ac : Nat) (au : Nat) (ab : Nat) (b1 : Nat) (b2 : Nat) (an : Nat) (ak : Nat) (ad : Nat) (cI : ClassId) (sz : Nat) : Met l yX8_edges wsX8_edges ({ frames := 0, cells := 0, slots := 0, locals := 0 } : Room) (va_Pc [.ref xt] (wIn dC dI g [(xt, .inr (12, [.ref ah, .ref xe, .ref xf])), (ah, .inr (4, [.ref ac, .ref au, .ref ab, .ref an, .ref ak, .ref ad, .int 0, .int 0, .long 0])), (ab, .inr (7, [.ref b1, .ref b2, .int 0, .int 0]))] [(cI, .int)] sz)) (va_Qi (fun (r : Int32) (u : Unit) => r = 0) (fun (u : Unit) (t : State) => wOut dC dI [] [(cI, .int)] (va_A [(xt, .inr (12, [.ref ah, .ref xe, .ref xf])), (ah, .inr (4, [.ref ac, .ref au, .ref ab, .ref an, .ref ak, .ref ad, .int 0, .int 0, .long 0])), (ab, .inr (7, [.ref b1, .ref b2, .int 0, .int 0]))] sz) t) (va_A [(xt, .inr (12, [.ref ah, .ref xe, .ref xf])), (ah, .inr (4, [.ref ac, .ref au, .ref ab, .ref an, .ref ak, .ref ad, .int 0, .int 0, .long 0])), (ab, .inr (7, [.ref b1, .ref b2, .int 0, .int 0]))] sz)) 0 0 (va_A [(xt, .inr (12, [.ref ah, .ref xe, .ref xf])), (ah, .inr (4, [.ref ac, .ref au, .ref ab, .ref an, .ref ak, .ref ad, .int 0, .int 0, .long 0])), (ab, .inr (7, [.ref b1, .ref b2, .int 0, .int 0]))] sz) := by
  refine Met.ofW (cc := cX8_edges) (maxL := 1) (ret := (some .int)) (by decide) rfl ?_
  intro p e s m args below meth c s₁ B hml hv
  obtain ⟨rfl, hsz, hP, hK, hD0, hG⟩ := hv
  have hx := B.exec
  have hb := B.bytes
  have hr := B.returns
  have hts := atoms_spec (ws := wsX8_edges) B.pre
  have hown : s.vm.findClass RX8 = some m.cls := findClass_of_methodNamed B.named
  have hlocks := B.notSynchronized
  subst hsz
  have hD := hD0.self (sz := s.heap.size)
  generalize hAe : va_A [(xt, .inr (12, [.ref ah, .ref xe, .ref xf])), (ah, .inr (4, [.ref ac, .ref au, .ref ab, .ref an, .ref ak, .ref ad, .int 0, .int 0, .long 0])), (ab, .inr (7, [.ref b1, .ref b2, .int 0, .int 0]))] s.heap.size = A at hD hG ⊢
  have hN := hG.1
  have hA : ∀ q : Nat, s.heap.size ≤ q → A q := fun q h => by rw [← hAe]; exact Or.inr h
  have hS : va_S A s.heap s.heap [] := va_S.rf
  have hP : va_P (dC, dI) vwCl [(xt, .inr (12, [.ref ah, .ref xe, .ref xf])), (ah, .inr (4, [.ref ac, .ref au, .ref ab, .ref an, .ref ak, .ref ad, .int 0, .int 0, .long 0])), (ab, .inr (7, [.ref b1, .ref b2, .int 0, .int 0]))] s.heap := hP
  have hw0 : (Cond.fieldLink RX8 10 "Tickstation" "chip" "LTickstation$Chip;").before _ s = true := hts _ (List.mem_cons_of_mem _ (List.mem_append_left _ (List.mem_append_left _ (List.mem_append_left _ (List.mem_of_getElem? (i := 0) rfl)))))
  have hiX8 : ∀ w ∈ u_ws RX8 TX8 3, w ∈ wsX8_edges := fun _ h => List.mem_cons_of_mem _ (List.mem_append_left _ (List.mem_append_left _ (List.mem_append_right _ (h))))
  have hw2 : (Cond.fieldLink RX8 203 "Tickstation$Chip" "probe" "LTickstation$Probe;").before _ s = true := hts _ (List.mem_cons_of_mem _ (List.mem_append_left _ (List.mem_append_left _ (List.mem_append_left _ (List.mem_of_getElem? (i := 1) rfl)))))
  have hiX0 : ∀ w ∈ u_ws RX0 TX0 9, w ∈ wsX8_edges := fun _ h => List.mem_cons_of_mem _ (List.mem_append_left _ (List.mem_append_right _ (h)))
  have hw4 : (Cond.fieldLink RX8 212 "Tickstation$Probe" "edges" "I").before _ s = true := hts _ (List.mem_cons_of_mem _ (List.mem_append_left _ (List.mem_append_left _ (List.mem_append_left _ (List.mem_of_getElem? (i := 2) rfl)))))
  have hiX3 : ∀ w ∈ u_ws RX3 TX3 4, w ∈ wsX8_edges := fun _ h => List.mem_cons_of_mem _ (List.mem_append_right _ (h))
  have hl := lv_entry ([.ref xt]) (n := 1) (Nat.le_of_ble_eq_true rfl)
  rw [lg_entry_eq]
  generalize (lg_sl ([.ref xt]) ++ List.replicate (1 - (lg_sl ([.ref xt])).length) Slot.unset).toArray = ls at hl ⊢
  have hl : lv_has ls 1 [(0, .ref xt)] := hl
  refine lv_aload_n hx hb dX8_edges_0 rfl (lv_at hl 0 rfl) ?_
  refine va_get (D := (dC, dI)) (ci := 12) (v := .ref ah) (C := RX8) (T := TX8) (N := 3) hx hb hts hiX8 hown hK hP 0 rfl rfl 0 (by decide) (hw0) (fun _ h9 => h9) rfl dX8_edges_1 ?_
  refine va_get (D := (dC, dI)) (ci := 4) (v := .ref ab) (C := RX0) (T := TX0) (N := 9) hx hb hts hiX0 hown hK hP 1 rfl rfl 2 (by decide) (hw2) (fun _ h9 => h9) rfl dX8_edges_4 ?_
  refine va_get (D := (dC, dI)) (ci := 7) (v := .int 0) (C := RX3) (T := TX3) (N := 4) hx hb hts hiX3 hown hK hP 2 rfl rfl 3 (by decide) (hw4) (fun _ h9 => h9) rfl dX8_edges_7 ?_
  have hP9 := hP.sub (ws' := []) [] rfl
  have hD9 := hD.sub (ws' := []) [] (by decide) rfl
  have hK9 := hK.sub (tys' := [(cI, .int)]) [0] rfl
  exact W.iret (v := 0) hx hb hr (fun t ht hW => ⟨⟨0, (), rfl, rfl, wOut_at ht hW hP9 hK9 hD9⟩, hS.F ht⟩) hS.2.2 dX8_edges_10

set_option maxHeartbeats 4000000 in
set_option maxRecDepth 100000 in
theorem c_X8_processor (l : Launch) (dC : Nat → ClassId) (dI : Nat → Nat → Nat) (g : Nat × Nat × Nat) (xt : Nat) (xe : Nat) (xf : Nat) (ah : Nat) (ac : Nat) (au : Nat) (ab : Nat) (an : Nat) (ar : Nat) (ak : Nat) (ad : Nat) (cI : ClassId) (sz : Nat) : Met l yX8_processor wsX8_processor ({ frames := 0, cells := 0, slots := 0, locals := 0 } : Room) (va_Pc [.ref xt] (wIn dC dI g [(xt, .inr (12, [.ref ah, .ref xe, .ref xf])), (ah, .inr (4, [.ref ac, .ref au, .ref ab, .ref an, .ref ak, .ref ad, .int 0, .int 0, .long 0])), (ak, .inr (8, [.ref ar, .int 105, .int 0, .int (-1), .int 0, .int 0, .int 0]))] [(cI, .int)] sz)) (va_Qi (fun (r : Int32) (u : Unit) => r = 105) (fun (u : Unit) (t : State) => wOut dC dI [] [(cI, .int)] (va_A [(xt, .inr (12, [.ref ah, .ref xe, .ref xf])), (ah, .inr (4, [.ref ac, .ref au, .ref ab, .ref an, .ref ak, .ref ad, .int 0, .int 0, .long 0])), (ak, .inr (8, [.ref ar, .int 105, .int 0, .int (-1), .int 0, .int 0, .int 0]))] sz) t) (va_A [(xt, .inr (12, [.ref ah, .ref xe, .ref xf])), (ah, .inr (4, [.ref ac, .ref au, .ref ab, .ref an, .ref ak, .ref ad, .int 0, .int 0, .long 0])), (ak, .inr (8, [.ref ar, .int 105, .int 0, .int (-1), .int 0, .int 0, .int 0]))] sz)) 0 0 (va_A [(xt, .inr (12, [.ref ah, .ref xe, .ref xf])), (ah, .inr (4, [.ref ac, .ref au, .ref ab, .ref an, .ref ak, .ref ad, .int 0, .int 0, .long 0])), (ak, .inr (8, [.ref ar, .int 105, .int 0, .int (-1), .int 0, .int 0, .int 0]))] sz) := by
  refine Met.ofW (cc := cX8_processor) (maxL := 1) (ret := (some .char)) (by decide) rfl ?_
  intro p e s m args below meth c s₁ B hml hv
  obtain ⟨rfl, hsz, hP, hK, hD0, hG⟩ := hv
  have hx := B.exec
  have hb := B.bytes
  have hr := B.returns
  have hts := atoms_spec (ws := wsX8_processor) B.pre
  have hown : s.vm.findClass RX8 = some m.cls := findClass_of_methodNamed B.named
  have hlocks := B.notSynchronized
  subst hsz
  have hD := hD0.self (sz := s.heap.size)
  generalize hAe : va_A [(xt, .inr (12, [.ref ah, .ref xe, .ref xf])), (ah, .inr (4, [.ref ac, .ref au, .ref ab, .ref an, .ref ak, .ref ad, .int 0, .int 0, .long 0])), (ak, .inr (8, [.ref ar, .int 105, .int 0, .int (-1), .int 0, .int 0, .int 0]))] s.heap.size = A at hD hG ⊢
  have hN := hG.1
  have hA : ∀ q : Nat, s.heap.size ≤ q → A q := fun q h => by rw [← hAe]; exact Or.inr h
  have hS : va_S A s.heap s.heap [] := va_S.rf
  have hP : va_P (dC, dI) vwCl [(xt, .inr (12, [.ref ah, .ref xe, .ref xf])), (ah, .inr (4, [.ref ac, .ref au, .ref ab, .ref an, .ref ak, .ref ad, .int 0, .int 0, .long 0])), (ak, .inr (8, [.ref ar, .int 105, .int 0, .int (-1), .int 0, .int 0, .int 0]))] s.heap := hP
  have hw0 : (Cond.fieldLink RX8 10 "Tickstation" "chip" "LTickstation$Chip;").before _ s = true := hts _ (List.mem_cons_of_mem _ (List.mem_append_left _ (List.mem_append_left _ (List.mem_append_left _ (List.mem_of_getElem? (i := 0) rfl)))))
  have hiX8 : ∀ w ∈ u_ws RX8 TX8 3, w ∈ wsX8_processor := fun _ h => List.mem_cons_of_mem _ (List.mem_append_left _ (List.mem_append_left _ (List.mem_append_right _ (h))))
  have hw2 : (Cond.fieldLink RX8 138 "Tickstation$Chip" "processor" "LTickstation$Processor;").before _ s = true := hts _ (List.mem_cons_of_mem _ (List.mem_append_left _ (List.mem_append_left _ (List.mem_append_left _ (List.mem_of_getElem? (i := 1) rfl)))))
  have hiX0 : ∀ w ∈ u_ws RX0 TX0 9, w ∈ wsX8_processor := fun _ h => List.mem_cons_of_mem _ (List.mem_append_left _ (List.mem_append_right _ (h)))
  have hw4 : (Cond.fieldLink RX8 147 "Tickstation$Processor" "state" "C").before _ s = true := hts _ (List.mem_cons_of_mem _ (List.mem_append_left _ (List.mem_append_left _ (List.mem_append_left _ (List.mem_of_getElem? (i := 2) rfl)))))
  have hiX4 : ∀ w ∈ u_ws RX4 TX4 7, w ∈ wsX8_processor := fun _ h => List.mem_cons_of_mem _ (List.mem_append_right _ (h))
  have hl := lv_entry ([.ref xt]) (n := 1) (Nat.le_of_ble_eq_true rfl)
  rw [lg_entry_eq]
  generalize (lg_sl ([.ref xt]) ++ List.replicate (1 - (lg_sl ([.ref xt])).length) Slot.unset).toArray = ls at hl ⊢
  have hl : lv_has ls 1 [(0, .ref xt)] := hl
  refine lv_aload_n hx hb dX8_processor_0 rfl (lv_at hl 0 rfl) ?_
  refine va_get (D := (dC, dI)) (ci := 12) (v := .ref ah) (C := RX8) (T := TX8) (N := 3) hx hb hts hiX8 hown hK hP 0 rfl rfl 0 (by decide) (hw0) (fun _ h9 => h9) rfl dX8_processor_1 ?_
  refine va_get (D := (dC, dI)) (ci := 4) (v := .ref ak) (C := RX0) (T := TX0) (N := 9) hx hb hts hiX0 hown hK hP 1 rfl rfl 4 (by decide) (hw2) (fun _ h9 => h9) rfl dX8_processor_4 ?_
  refine va_get (D := (dC, dI)) (ci := 8) (v := .int 105) (C := RX4) (T := TX4) (N := 7) hx hb hts hiX4 hown hK hP 2 rfl rfl 1 (by decide) (hw4) (fun _ h9 => h9) rfl dX8_processor_7 ?_
  have hP9 := hP.sub (ws' := []) [] rfl
  have hD9 := hD.sub (ws' := []) [] (by decide) rfl
  have hK9 := hK.sub (tys' := [(cI, .int)]) [0] rfl
  exact W.zret (v := 105) hx hb hr (by first | rfl | decide) (fun t ht hW => ⟨⟨105, (), rfl, rfl, wOut_at ht hW hP9 hK9 hD9⟩, hS.F ht⟩) hS.2.2 dX8_processor_10

set_option maxHeartbeats 4000000 in
set_option maxRecDepth 100000 in
theorem c_X8_depth (l : Launch) (dC : Nat → ClassId) (dI : Nat → Nat → Nat) (g : Nat × Nat × Nat) (xt : Nat) (xe : Nat) (xf : Nat) (ah : Nat) (ac : Nat) (au : Nat) (ab : Nat) (an : Nat) (ar : Nat) (r1 : Nat) (r2 : Nat) (ak : Nat) (ad : Nat) (cI : ClassId) (sz : Nat) : Met l yX8_depth wsX8_depth ({ frames := 0, cells := 0, slots := 0, locals := 0 } : Room) (va_Pc [.ref xt] (wIn dC dI g [(xt, .inr (12, [.ref ah, .ref xe, .ref xf])), (ah, .inr (4, [.ref ac, .ref au, .ref ab, .ref an, .ref ak, .ref ad, .int 0, .int 0, .long 0])), (ak, .inr (8, [.ref ar, .int 105, .int 0, .int (-1), .int 0, .int 0, .int 0])), (ar, .inr (9, [.ref r1, .ref r2, .int 0]))] [(cI, .int)] sz)) (va_Qi (fun (r : Int32) (u : Unit) => r = 0) (fun (u : Unit) (t : State) => wOut dC dI [] [(cI, .int)] (va_A [(xt, .inr (12, [.ref ah, .ref xe, .ref xf])), (ah, .inr (4, [.ref ac, .ref au, .ref ab, .ref an, .ref ak, .ref ad, .int 0, .int 0, .long 0])), (ak, .inr (8, [.ref ar, .int 105, .int 0, .int (-1), .int 0, .int 0, .int 0])), (ar, .inr (9, [.ref r1, .ref r2, .int 0]))] sz) t) (va_A [(xt, .inr (12, [.ref ah, .ref xe, .ref xf])), (ah, .inr (4, [.ref ac, .ref au, .ref ab, .ref an, .ref ak, .ref ad, .int 0, .int 0, .long 0])), (ak, .inr (8, [.ref ar, .int 105, .int 0, .int (-1), .int 0, .int 0, .int 0])), (ar, .inr (9, [.ref r1, .ref r2, .int 0]))] sz)) 0 0 (va_A [(xt, .inr (12, [.ref ah, .ref xe, .ref xf])), (ah, .inr (4, [.ref ac, .ref au, .ref ab, .ref an, .ref ak, .ref ad, .int 0, .int 0, .long 0])), (ak, .inr (8, [.ref ar, .int 105, .int 0, .int (-1), .int 0, .int 0, .int 0])), (ar, .inr (9, [.ref r1, .ref r2, .int 0]))] sz) := by
  refine Met.ofW (cc := cX8_depth) (maxL := 1) (ret := (some .int)) (by decide) rfl ?_
  intro p e s m args below meth c s₁ B hml hv
  obtain ⟨rfl, hsz, hP, hK, hD0, hG⟩ := hv
  have hx := B.exec
  have hb := B.bytes
  have hr := B.returns
  have hts := atoms_spec (ws := wsX8_depth) B.pre
  have hown : s.vm.findClass RX8 = some m.cls := findClass_of_methodNamed B.named
  have hlocks := B.notSynchronized
  subst hsz
  have hD := hD0.self (sz := s.heap.size)
  generalize hAe : va_A [(xt, .inr (12, [.ref ah, .ref xe, .ref xf])), (ah, .inr (4, [.ref ac, .ref au, .ref ab, .ref an, .ref ak, .ref ad, .int 0, .int 0, .long 0])), (ak, .inr (8, [.ref ar, .int 105, .int 0, .int (-1), .int 0, .int 0, .int 0])), (ar, .inr (9, [.ref r1, .ref r2, .int 0]))] s.heap.size = A at hD hG ⊢
  have hN := hG.1
  have hA : ∀ q : Nat, s.heap.size ≤ q → A q := fun q h => by rw [← hAe]; exact Or.inr h
  have hS : va_S A s.heap s.heap [] := va_S.rf
  have hP : va_P (dC, dI) vwCl [(xt, .inr (12, [.ref ah, .ref xe, .ref xf])), (ah, .inr (4, [.ref ac, .ref au, .ref ab, .ref an, .ref ak, .ref ad, .int 0, .int 0, .long 0])), (ak, .inr (8, [.ref ar, .int 105, .int 0, .int (-1), .int 0, .int 0, .int 0])), (ar, .inr (9, [.ref r1, .ref r2, .int 0]))] s.heap := hP
  have hw0 : (Cond.fieldLink RX8 10 "Tickstation" "chip" "LTickstation$Chip;").before _ s = true := hts _ (List.mem_cons_of_mem _ (List.mem_append_left _ (List.mem_append_left _ (List.mem_append_left _ (List.mem_append_left _ (List.mem_of_getElem? (i := 0) rfl))))))
  have hiX8 : ∀ w ∈ u_ws RX8 TX8 3, w ∈ wsX8_depth := fun _ h => List.mem_cons_of_mem _ (List.mem_append_left _ (List.mem_append_left _ (List.mem_append_left _ (List.mem_append_right _ (h)))))
  have hw2 : (Cond.fieldLink RX8 138 "Tickstation$Chip" "processor" "LTickstation$Processor;").before _ s = true := hts _ (List.mem_cons_of_mem _ (List.mem_append_left _ (List.mem_append_left _ (List.mem_append_left _ (List.mem_append_left _ (List.mem_of_getElem? (i := 1) rfl))))))
  have hiX0 : ∀ w ∈ u_ws RX0 TX0 9, w ∈ wsX8_depth := fun _ h => List.mem_cons_of_mem _ (List.mem_append_left _ (List.mem_append_left _ (List.mem_append_right _ (h))))
  have hw4 : (Cond.fieldLink RX8 223 "Tickstation$Processor" "begun" "LTickstation$Row;").before _ s = true := hts _ (List.mem_cons_of_mem _ (List.mem_append_left _ (List.mem_append_left _ (List.mem_append_left _ (List.mem_append_left _ (List.mem_of_getElem? (i := 2) rfl))))))
  have hiX4 : ∀ w ∈ u_ws RX4 TX4 7, w ∈ wsX8_depth := fun _ h => List.mem_cons_of_mem _ (List.mem_append_left _ (List.mem_append_right _ (h)))
  have hw6 : (Cond.fieldLink RX8 227 "Tickstation$Row" "size" "I").before _ s = true := hts _ (List.mem_cons_of_mem _ (List.mem_append_left _ (List.mem_append_left _ (List.mem_append_left _ (List.mem_append_left _ (List.mem_of_getElem? (i := 3) rfl))))))
  have hiX5 : ∀ w ∈ u_ws RX5 TX5 3, w ∈ wsX8_depth := fun _ h => List.mem_cons_of_mem _ (List.mem_append_right _ (h))
  have hl := lv_entry ([.ref xt]) (n := 1) (Nat.le_of_ble_eq_true rfl)
  rw [lg_entry_eq]
  generalize (lg_sl ([.ref xt]) ++ List.replicate (1 - (lg_sl ([.ref xt])).length) Slot.unset).toArray = ls at hl ⊢
  have hl : lv_has ls 1 [(0, .ref xt)] := hl
  refine lv_aload_n hx hb dX8_depth_0 rfl (lv_at hl 0 rfl) ?_
  refine va_get (D := (dC, dI)) (ci := 12) (v := .ref ah) (C := RX8) (T := TX8) (N := 3) hx hb hts hiX8 hown hK hP 0 rfl rfl 0 (by decide) (hw0) (fun _ h9 => h9) rfl dX8_depth_1 ?_
  refine va_get (D := (dC, dI)) (ci := 4) (v := .ref ak) (C := RX0) (T := TX0) (N := 9) hx hb hts hiX0 hown hK hP 1 rfl rfl 4 (by decide) (hw2) (fun _ h9 => h9) rfl dX8_depth_4 ?_
  refine va_get (D := (dC, dI)) (ci := 8) (v := .ref ar) (C := RX4) (T := TX4) (N := 7) hx hb hts hiX4 hown hK hP 2 rfl rfl 0 (by decide) (hw4) (fun _ h9 => h9) rfl dX8_depth_7 ?_
  refine va_get (D := (dC, dI)) (ci := 9) (v := .int 0) (C := RX5) (T := TX5) (N := 3) hx hb hts hiX5 hown hK hP 3 rfl rfl 2 (by decide) (hw6) (fun _ h9 => h9) rfl dX8_depth_10 ?_
  have hP9 := hP.sub (ws' := []) [] rfl
  have hD9 := hD.sub (ws' := []) [] (by decide) rfl
  have hK9 := hK.sub (tys' := [(cI, .int)]) [0] rfl
  exact W.iret (v := 0) hx hb hr (fun t ht hW => ⟨⟨0, (), rfl, rfl, wOut_at ht hW hP9 hK9 hD9⟩, hS.F ht⟩) hS.2.2 dX8_depth_13

set_option maxHeartbeats 4000000 in
set_option maxRecDepth 100000 in
theorem c_X8_late (l : Launch) (dC : Nat → ClassId) (dI : Nat → Nat → Nat) (g : Nat × Nat × Nat) (xt : Nat) (xe : Nat) (xf : Nat) (ah : Nat) (ac : Nat) (au : Nat) (ab : Nat) (an : Nat) (ar : Nat) (ak : Nat) (ad : Nat) (cI : ClassId) (sz : Nat) : Met l yX8_late wsX8_late ({ frames := 0, cells := 0, slots := 0, locals := 0 } : Room) (va_Pc [.ref xt] (wIn dC dI g [(xt, .inr (12, [.ref ah, .ref xe, .ref xf])), (ah, .inr (4, [.ref ac, .ref au, .ref ab, .ref an, .ref ak, .ref ad, .int 0, .int 0, .long 0])), (ak, .inr (8, [.ref ar, .int 105, .int 0, .int (-1), .int 0, .int 0, .int 0]))] [(cI, .int)] sz)) (va_Qi (fun (r : Int32) (u : Unit) => r = 0) (fun (u : Unit) (t : State) => wOut dC dI [] [(cI, .int)] (va_A [(xt, .inr (12, [.ref ah, .ref xe, .ref xf])), (ah, .inr (4, [.ref ac, .ref au, .ref ab, .ref an, .ref ak, .ref ad, .int 0, .int 0, .long 0])), (ak, .inr (8, [.ref ar, .int 105, .int 0, .int (-1), .int 0, .int 0, .int 0]))] sz) t) (va_A [(xt, .inr (12, [.ref ah, .ref xe, .ref xf])), (ah, .inr (4, [.ref ac, .ref au, .ref ab, .ref an, .ref ak, .ref ad, .int 0, .int 0, .long 0])), (ak, .inr (8, [.ref ar, .int 105, .int 0, .int (-1), .int 0, .int 0, .int 0]))] sz)) 0 0 (va_A [(xt, .inr (12, [.ref ah, .ref xe, .ref xf])), (ah, .inr (4, [.ref ac, .ref au, .ref ab, .ref an, .ref ak, .ref ad, .int 0, .int 0, .long 0])), (ak, .inr (8, [.ref ar, .int 105, .int 0, .int (-1), .int 0, .int 0, .int 0]))] sz) := by
  refine Met.ofW (cc := cX8_late) (maxL := 1) (ret := (some .int)) (by decide) rfl ?_
  intro p e s m args below meth c s₁ B hml hv
  obtain ⟨rfl, hsz, hP, hK, hD0, hG⟩ := hv
  have hx := B.exec
  have hb := B.bytes
  have hr := B.returns
  have hts := atoms_spec (ws := wsX8_late) B.pre
  have hown : s.vm.findClass RX8 = some m.cls := findClass_of_methodNamed B.named
  have hlocks := B.notSynchronized
  subst hsz
  have hD := hD0.self (sz := s.heap.size)
  generalize hAe : va_A [(xt, .inr (12, [.ref ah, .ref xe, .ref xf])), (ah, .inr (4, [.ref ac, .ref au, .ref ab, .ref an, .ref ak, .ref ad, .int 0, .int 0, .long 0])), (ak, .inr (8, [.ref ar, .int 105, .int 0, .int (-1), .int 0, .int 0, .int 0]))] s.heap.size = A at hD hG ⊢
  have hN := hG.1
  have hA : ∀ q : Nat, s.heap.size ≤ q → A q := fun q h => by rw [← hAe]; exact Or.inr h
  have hS : va_S A s.heap s.heap [] := va_S.rf
  have hP : va_P (dC, dI) vwCl [(xt, .inr (12, [.ref ah, .ref xe, .ref xf])), (ah, .inr (4, [.ref ac, .ref au, .ref ab, .ref an, .ref ak, .ref ad, .int 0, .int 0, .long 0])), (ak, .inr (8, [.ref ar, .int 105, .int 0, .int (-1), .int 0, .int 0, .int 0]))] s.heap := hP
  have hw0 : (Cond.fieldLink RX8 10 "Tickstation" "chip" "LTickstation$Chip;").before _ s = true := hts _ (List.mem_cons_of_mem _ (List.mem_append_left _ (List.mem_append_left _ (List.mem_append_left _ (List.mem_of_getElem? (i := 0) rfl)))))
  have hiX8 : ∀ w ∈ u_ws RX8 TX8 3, w ∈ wsX8_late := fun _ h => List.mem_cons_of_mem _ (List.mem_append_left _ (List.mem_append_left _ (List.mem_append_right _ (h))))
  have hw2 : (Cond.fieldLink RX8 138 "Tickstation$Chip" "processor" "LTickstation$Processor;").before _ s = true := hts _ (List.mem_cons_of_mem _ (List.mem_append_left _ (List.mem_append_left _ (List.mem_append_left _ (List.mem_of_getElem? (i := 1) rfl)))))
  have hiX0 : ∀ w ∈ u_ws RX0 TX0 9, w ∈ wsX8_late := fun _ h => List.mem_cons_of_mem _ (List.mem_append_left _ (List.mem_append_right _ (h)))
  have hw4 : (Cond.fieldLink RX8 240 "Tickstation$Processor" "late" "I").before _ s = true := hts _ (List.mem_cons_of_mem _ (List.mem_append_left _ (List.mem_append_left _ (List.mem_append_left _ (List.mem_of_getElem? (i := 2) rfl)))))
  have hiX4 : ∀ w ∈ u_ws RX4 TX4 7, w ∈ wsX8_late := fun _ h => List.mem_cons_of_mem _ (List.mem_append_right _ (h))
  have hl := lv_entry ([.ref xt]) (n := 1) (Nat.le_of_ble_eq_true rfl)
  rw [lg_entry_eq]
  generalize (lg_sl ([.ref xt]) ++ List.replicate (1 - (lg_sl ([.ref xt])).length) Slot.unset).toArray = ls at hl ⊢
  have hl : lv_has ls 1 [(0, .ref xt)] := hl
  refine lv_aload_n hx hb dX8_late_0 rfl (lv_at hl 0 rfl) ?_
  refine va_get (D := (dC, dI)) (ci := 12) (v := .ref ah) (C := RX8) (T := TX8) (N := 3) hx hb hts hiX8 hown hK hP 0 rfl rfl 0 (by decide) (hw0) (fun _ h9 => h9) rfl dX8_late_1 ?_
  refine va_get (D := (dC, dI)) (ci := 4) (v := .ref ak) (C := RX0) (T := TX0) (N := 9) hx hb hts hiX0 hown hK hP 1 rfl rfl 4 (by decide) (hw2) (fun _ h9 => h9) rfl dX8_late_4 ?_
  refine va_get (D := (dC, dI)) (ci := 8) (v := .int 0) (C := RX4) (T := TX4) (N := 7) hx hb hts hiX4 hown hK hP 2 rfl rfl 5 (by decide) (hw4) (fun _ h9 => h9) rfl dX8_late_7 ?_
  have hP9 := hP.sub (ws' := []) [] rfl
  have hD9 := hD.sub (ws' := []) [] (by decide) rfl
  have hK9 := hK.sub (tys' := [(cI, .int)]) [0] rfl
  exact W.iret (v := 0) hx hb hr (fun t ht hW => ⟨⟨0, (), rfl, rfl, wOut_at ht hW hP9 hK9 hD9⟩, hS.F ht⟩) hS.2.2 dX8_late_10

set_option maxHeartbeats 4000000 in
set_option maxRecDepth 100000 in
theorem c_X8_chained (l : Launch) (dC : Nat → ClassId) (dI : Nat → Nat → Nat) (g : Nat × Nat × Nat) (xt : Nat) (xe : Nat) (xf : Nat) (ah : Nat) (ac : Nat) (au : Nat) (ab : Nat) (an : Nat) (ar : Nat) (ak : Nat) (ad : Nat) (cI : ClassId) (sz : Nat) : Met l yX8_chained wsX8_chained ({ frames := 0, cells := 0, slots := 0, locals := 0 } : Room) (va_Pc [.ref xt] (wIn dC dI g [(xt, .inr (12, [.ref ah, .ref xe, .ref xf])), (ah, .inr (4, [.ref ac, .ref au, .ref ab, .ref an, .ref ak, .ref ad, .int 0, .int 0, .long 0])), (ak, .inr (8, [.ref ar, .int 105, .int 0, .int (-1), .int 0, .int 0, .int 0]))] [(cI, .int)] sz)) (va_Qi (fun (r : Int32) (u : Unit) => r = 0) (fun (u : Unit) (t : State) => wOut dC dI [] [(cI, .int)] (va_A [(xt, .inr (12, [.ref ah, .ref xe, .ref xf])), (ah, .inr (4, [.ref ac, .ref au, .ref ab, .ref an, .ref ak, .ref ad, .int 0, .int 0, .long 0])), (ak, .inr (8, [.ref ar, .int 105, .int 0, .int (-1), .int 0, .int 0, .int 0]))] sz) t) (va_A [(xt, .inr (12, [.ref ah, .ref xe, .ref xf])), (ah, .inr (4, [.ref ac, .ref au, .ref ab, .ref an, .ref ak, .ref ad, .int 0, .int 0, .long 0])), (ak, .inr (8, [.ref ar, .int 105, .int 0, .int (-1), .int 0, .int 0, .int 0]))] sz)) 0 0 (va_A [(xt, .inr (12, [.ref ah, .ref xe, .ref xf])), (ah, .inr (4, [.ref ac, .ref au, .ref ab, .ref an, .ref ak, .ref ad, .int 0, .int 0, .long 0])), (ak, .inr (8, [.ref ar, .int 105, .int 0, .int (-1), .int 0, .int 0, .int 0]))] sz) := by
  refine Met.ofW (cc := cX8_chained) (maxL := 1) (ret := (some .int)) (by decide) rfl ?_
  intro p e s m args below meth c s₁ B hml hv
  obtain ⟨rfl, hsz, hP, hK, hD0, hG⟩ := hv
  have hx := B.exec
  have hb := B.bytes
  have hr := B.returns
  have hts := atoms_spec (ws := wsX8_chained) B.pre
  have hown : s.vm.findClass RX8 = some m.cls := findClass_of_methodNamed B.named
  have hlocks := B.notSynchronized
  subst hsz
  have hD := hD0.self (sz := s.heap.size)
  generalize hAe : va_A [(xt, .inr (12, [.ref ah, .ref xe, .ref xf])), (ah, .inr (4, [.ref ac, .ref au, .ref ab, .ref an, .ref ak, .ref ad, .int 0, .int 0, .long 0])), (ak, .inr (8, [.ref ar, .int 105, .int 0, .int (-1), .int 0, .int 0, .int 0]))] s.heap.size = A at hD hG ⊢
  have hN := hG.1
  have hA : ∀ q : Nat, s.heap.size ≤ q → A q := fun q h => by rw [← hAe]; exact Or.inr h
  have hS : va_S A s.heap s.heap [] := va_S.rf
  have hP : va_P (dC, dI) vwCl [(xt, .inr (12, [.ref ah, .ref xe, .ref xf])), (ah, .inr (4, [.ref ac, .ref au, .ref ab, .ref an, .ref ak, .ref ad, .int 0, .int 0, .long 0])), (ak, .inr (8, [.ref ar, .int 105, .int 0, .int (-1), .int 0, .int 0, .int 0]))] s.heap := hP
  have hw0 : (Cond.fieldLink RX8 10 "Tickstation" "chip" "LTickstation$Chip;").before _ s = true := hts _ (List.mem_cons_of_mem _ (List.mem_append_left _ (List.mem_append_left _ (List.mem_append_left _ (List.mem_of_getElem? (i := 0) rfl)))))
  have hiX8 : ∀ w ∈ u_ws RX8 TX8 3, w ∈ wsX8_chained := fun _ h => List.mem_cons_of_mem _ (List.mem_append_left _ (List.mem_append_left _ (List.mem_append_right _ (h))))
  have hw2 : (Cond.fieldLink RX8 138 "Tickstation$Chip" "processor" "LTickstation$Processor;").before _ s = true := hts _ (List.mem_cons_of_mem _ (List.mem_append_left _ (List.mem_append_left _ (List.mem_append_left _ (List.mem_of_getElem? (i := 1) rfl)))))
  have hiX0 : ∀ w ∈ u_ws RX0 TX0 9, w ∈ wsX8_chained := fun _ h => List.mem_cons_of_mem _ (List.mem_append_left _ (List.mem_append_right _ (h)))
  have hw4 : (Cond.fieldLink RX8 243 "Tickstation$Processor" "chained" "I").before _ s = true := hts _ (List.mem_cons_of_mem _ (List.mem_append_left _ (List.mem_append_left _ (List.mem_append_left _ (List.mem_of_getElem? (i := 2) rfl)))))
  have hiX4 : ∀ w ∈ u_ws RX4 TX4 7, w ∈ wsX8_chained := fun _ h => List.mem_cons_of_mem _ (List.mem_append_right _ (h))
  have hl := lv_entry ([.ref xt]) (n := 1) (Nat.le_of_ble_eq_true rfl)
  rw [lg_entry_eq]
  generalize (lg_sl ([.ref xt]) ++ List.replicate (1 - (lg_sl ([.ref xt])).length) Slot.unset).toArray = ls at hl ⊢
  have hl : lv_has ls 1 [(0, .ref xt)] := hl
  refine lv_aload_n hx hb dX8_chained_0 rfl (lv_at hl 0 rfl) ?_
  refine va_get (D := (dC, dI)) (ci := 12) (v := .ref ah) (C := RX8) (T := TX8) (N := 3) hx hb hts hiX8 hown hK hP 0 rfl rfl 0 (by decide) (hw0) (fun _ h9 => h9) rfl dX8_chained_1 ?_
  refine va_get (D := (dC, dI)) (ci := 4) (v := .ref ak) (C := RX0) (T := TX0) (N := 9) hx hb hts hiX0 hown hK hP 1 rfl rfl 4 (by decide) (hw2) (fun _ h9 => h9) rfl dX8_chained_4 ?_
  refine va_get (D := (dC, dI)) (ci := 8) (v := .int 0) (C := RX4) (T := TX4) (N := 7) hx hb hts hiX4 hown hK hP 2 rfl rfl 6 (by decide) (hw4) (fun _ h9 => h9) rfl dX8_chained_7 ?_
  have hP9 := hP.sub (ws' := []) [] rfl
  have hD9 := hD.sub (ws' := []) [] (by decide) rfl
  have hK9 := hK.sub (tys' := [(cI, .int)]) [0] rfl
  exact W.iret (v := 0) hx hb hr (fun t ht hW => ⟨⟨0, (), rfl, rfl, wOut_at ht hW hP9 hK9 hD9⟩, hS.F ht⟩) hS.2.2 dX8_chained_10

set_option maxHeartbeats 4000000 in
set_option maxRecDepth 100000 in
theorem c_X8_resets (l : Launch) (dC : Nat → ClassId) (dI : Nat → Nat → Nat) (g : Nat × Nat × Nat) (xt : Nat) (xe : Nat) (xf : Nat) (ah : Nat) (ac : Nat) (au : Nat) (ab : Nat) (an : Nat) (ak : Nat) (ad : Nat) (cI : ClassId) (sz : Nat) : Met l yX8_resets wsX8_resets ({ frames := 0, cells := 0, slots := 0, locals := 0 } : Room) (va_Pc [.ref xt] (wIn dC dI g [(xt, .inr (12, [.ref ah, .ref xe, .ref xf])), (ah, .inr (4, [.ref ac, .ref au, .ref ab, .ref an, .ref ak, .ref ad, .int 0, .int 0, .long 0])), (ad, .inr (11, [.int (-1), .int 0, .int 0, .int 0, .int 0, .int 0]))] [(cI, .int)] sz)) (va_Qi (fun (r : Int32) (u : Unit) => r = 0) (fun (u : Unit) (t : State) => wOut dC dI [] [(cI, .int)] (va_A [(xt, .inr (12, [.ref ah, .ref xe, .ref xf])), (ah, .inr (4, [.ref ac, .ref au, .ref ab, .ref an, .ref ak, .ref ad, .int 0, .int 0, .long 0])), (ad, .inr (11, [.int (-1), .int 0, .int 0, .int 0, .int 0, .int 0]))] sz) t) (va_A [(xt, .inr (12, [.ref ah, .ref xe, .ref xf])), (ah, .inr (4, [.ref ac, .ref au, .ref ab, .ref an, .ref ak, .ref ad, .int 0, .int 0, .long 0])), (ad, .inr (11, [.int (-1), .int 0, .int 0, .int 0, .int 0, .int 0]))] sz)) 0 0 (va_A [(xt, .inr (12, [.ref ah, .ref xe, .ref xf])), (ah, .inr (4, [.ref ac, .ref au, .ref ab, .ref an, .ref ak, .ref ad, .int 0, .int 0, .long 0])), (ad, .inr (11, [.int (-1), .int 0, .int 0, .int 0, .int 0, .int 0]))] sz) := by
  refine Met.ofW (cc := cX8_resets) (maxL := 1) (ret := (some .int)) (by decide) rfl ?_
  intro p e s m args below meth c s₁ B hml hv
  obtain ⟨rfl, hsz, hP, hK, hD0, hG⟩ := hv
  have hx := B.exec
  have hb := B.bytes
  have hr := B.returns
  have hts := atoms_spec (ws := wsX8_resets) B.pre
  have hown : s.vm.findClass RX8 = some m.cls := findClass_of_methodNamed B.named
  have hlocks := B.notSynchronized
  subst hsz
  have hD := hD0.self (sz := s.heap.size)
  generalize hAe : va_A [(xt, .inr (12, [.ref ah, .ref xe, .ref xf])), (ah, .inr (4, [.ref ac, .ref au, .ref ab, .ref an, .ref ak, .ref ad, .int 0, .int 0, .long 0])), (ad, .inr (11, [.int (-1), .int 0, .int 0, .int 0, .int 0, .int 0]))] s.heap.size = A at hD hG ⊢
  have hN := hG.1
  have hA : ∀ q : Nat, s.heap.size ≤ q → A q := fun q h => by rw [← hAe]; exact Or.inr h
  have hS : va_S A s.heap s.heap [] := va_S.rf
  have hP : va_P (dC, dI) vwCl [(xt, .inr (12, [.ref ah, .ref xe, .ref xf])), (ah, .inr (4, [.ref ac, .ref au, .ref ab, .ref an, .ref ak, .ref ad, .int 0, .int 0, .long 0])), (ad, .inr (11, [.int (-1), .int 0, .int 0, .int 0, .int 0, .int 0]))] s.heap := hP
  have hw0 : (Cond.fieldLink RX8 10 "Tickstation" "chip" "LTickstation$Chip;").before _ s = true := hts _ (List.mem_cons_of_mem _ (List.mem_append_left _ (List.mem_append_left _ (List.mem_append_left _ (List.mem_of_getElem? (i := 0) rfl)))))
  have hiX8 : ∀ w ∈ u_ws RX8 TX8 3, w ∈ wsX8_resets := fun _ h => List.mem_cons_of_mem _ (List.mem_append_left _ (List.mem_append_left _ (List.mem_append_right _ (h))))
  have hw2 : (Cond.fieldLink RX8 151 "Tickstation$Chip" "watchdog" "LTickstation$Watchdog;").before _ s = true := hts _ (List.mem_cons_of_mem _ (List.mem_append_left _ (List.mem_append_left _ (List.mem_append_left _ (List.mem_of_getElem? (i := 1) rfl)))))
  have hiX0 : ∀ w ∈ u_ws RX0 TX0 9, w ∈ wsX8_resets := fun _ h => List.mem_cons_of_mem _ (List.mem_append_left _ (List.mem_append_right _ (h)))
  have hw4 : (Cond.fieldLink RX8 246 "Tickstation$Watchdog" "resets" "I").before _ s = true := hts _ (List.mem_cons_of_mem _ (List.mem_append_left _ (List.mem_append_left _ (List.mem_append_left _ (List.mem_of_getElem? (i := 2) rfl)))))
  have hiX7 : ∀ w ∈ u_ws RX7 TX7 6, w ∈ wsX8_resets := fun _ h => List.mem_cons_of_mem _ (List.mem_append_right _ (h))
  have hl := lv_entry ([.ref xt]) (n := 1) (Nat.le_of_ble_eq_true rfl)
  rw [lg_entry_eq]
  generalize (lg_sl ([.ref xt]) ++ List.replicate (1 - (lg_sl ([.ref xt])).length) Slot.unset).toArray = ls at hl ⊢
  have hl : lv_has ls 1 [(0, .ref xt)] := hl
  refine lv_aload_n hx hb dX8_resets_0 rfl (lv_at hl 0 rfl) ?_
  refine va_get (D := (dC, dI)) (ci := 12) (v := .ref ah) (C := RX8) (T := TX8) (N := 3) hx hb hts hiX8 hown hK hP 0 rfl rfl 0 (by decide) (hw0) (fun _ h9 => h9) rfl dX8_resets_1 ?_
  refine va_get (D := (dC, dI)) (ci := 4) (v := .ref ad) (C := RX0) (T := TX0) (N := 9) hx hb hts hiX0 hown hK hP 1 rfl rfl 5 (by decide) (hw2) (fun _ h9 => h9) rfl dX8_resets_4 ?_
  refine va_get (D := (dC, dI)) (ci := 11) (v := .int 0) (C := RX7) (T := TX7) (N := 6) hx hb hts hiX7 hown hK hP 2 rfl rfl 4 (by decide) (hw4) (fun _ h9 => h9) rfl dX8_resets_7 ?_
  have hP9 := hP.sub (ws' := []) [] rfl
  have hD9 := hD.sub (ws' := []) [] (by decide) rfl
  have hK9 := hK.sub (tys' := [(cI, .int)]) [0] rfl
  exact W.iret (v := 0) hx hb hr (fun t ht hW => ⟨⟨0, (), rfl, rfl, wOut_at ht hW hP9 hK9 hD9⟩, hS.F ht⟩) hS.2.2 dX8_resets_10

set_option maxHeartbeats 4000000 in
set_option maxRecDepth 100000 in
theorem c_X8_energy (l : Launch) (dC : Nat → ClassId) (dI : Nat → Nat → Nat) (g : Nat × Nat × Nat) (xt : Nat) (xe : Nat) (xf : Nat) (ah : Nat) (ac : Nat) (au : Nat) (ab : Nat) (an : Nat) (ak : Nat) (ad : Nat) (cI : ClassId) (sz : Nat) : Met l yX8_energy wsX8_energy ({ frames := 0, cells := 0, slots := 0, locals := 0 } : Room) (va_Pc [.ref xt] (wIn dC dI g [(xt, .inr (12, [.ref ah, .ref xe, .ref xf])), (ah, .inr (4, [.ref ac, .ref au, .ref ab, .ref an, .ref ak, .ref ad, .int 0, .int 0, .long 0]))] [(cI, .int)] sz)) (va_Ql (fun (r : Int64) (u : Unit) => r = 0) (fun (u : Unit) (t : State) => wOut dC dI [] [(cI, .int)] (va_A [(xt, .inr (12, [.ref ah, .ref xe, .ref xf])), (ah, .inr (4, [.ref ac, .ref au, .ref ab, .ref an, .ref ak, .ref ad, .int 0, .int 0, .long 0]))] sz) t) (va_A [(xt, .inr (12, [.ref ah, .ref xe, .ref xf])), (ah, .inr (4, [.ref ac, .ref au, .ref ab, .ref an, .ref ak, .ref ad, .int 0, .int 0, .long 0]))] sz)) 0 0 (va_A [(xt, .inr (12, [.ref ah, .ref xe, .ref xf])), (ah, .inr (4, [.ref ac, .ref au, .ref ab, .ref an, .ref ak, .ref ad, .int 0, .int 0, .long 0]))] sz) := by
  refine Met.ofW (cc := cX8_energy) (maxL := 1) (ret := (some .long)) (by decide) rfl ?_
  intro p e s m args below meth c s₁ B hml hv
  obtain ⟨rfl, hsz, hP, hK, hD0, hG⟩ := hv
  have hx := B.exec
  have hb := B.bytes
  have hr := B.returns
  have hts := atoms_spec (ws := wsX8_energy) B.pre
  have hown : s.vm.findClass RX8 = some m.cls := findClass_of_methodNamed B.named
  have hlocks := B.notSynchronized
  subst hsz
  have hD := hD0.self (sz := s.heap.size)
  generalize hAe : va_A [(xt, .inr (12, [.ref ah, .ref xe, .ref xf])), (ah, .inr (4, [.ref ac, .ref au, .ref ab, .ref an, .ref ak, .ref ad, .int 0, .int 0, .long 0]))] s.heap.size = A at hD hG ⊢
  have hN := hG.1
  have hA : ∀ q : Nat, s.heap.size ≤ q → A q := fun q h => by rw [← hAe]; exact Or.inr h
  have hS : va_S A s.heap s.heap [] := va_S.rf
  have hP : va_P (dC, dI) vwCl [(xt, .inr (12, [.ref ah, .ref xe, .ref xf])), (ah, .inr (4, [.ref ac, .ref au, .ref ab, .ref an, .ref ak, .ref ad, .int 0, .int 0, .long 0]))] s.heap := hP
  have hw0 : (Cond.fieldLink RX8 10 "Tickstation" "chip" "LTickstation$Chip;").before _ s = true := hts _ (List.mem_cons_of_mem _ (List.mem_append_left _ (List.mem_append_left _ (List.mem_of_getElem? (i := 0) rfl))))
  have hiX8 : ∀ w ∈ u_ws RX8 TX8 3, w ∈ wsX8_energy := fun _ h => List.mem_cons_of_mem _ (List.mem_append_left _ (List.mem_append_right _ (h)))
  have hw2 : (Cond.fieldLink RX8 254 "Tickstation$Chip" "energy" "J").before _ s = true := hts _ (List.mem_cons_of_mem _ (List.mem_append_left _ (List.mem_append_left _ (List.mem_of_getElem? (i := 1) rfl))))
  have hiX0 : ∀ w ∈ u_ws RX0 TX0 9, w ∈ wsX8_energy := fun _ h => List.mem_cons_of_mem _ (List.mem_append_right _ (h))
  have hl := lv_entry ([.ref xt]) (n := 1) (Nat.le_of_ble_eq_true rfl)
  rw [lg_entry_eq]
  generalize (lg_sl ([.ref xt]) ++ List.replicate (1 - (lg_sl ([.ref xt])).length) Slot.unset).toArray = ls at hl ⊢
  have hl : lv_has ls 1 [(0, .ref xt)] := hl
  refine lv_aload_n hx hb dX8_energy_0 rfl (lv_at hl 0 rfl) ?_
  refine va_get (D := (dC, dI)) (ci := 12) (v := .ref ah) (C := RX8) (T := TX8) (N := 3) hx hb hts hiX8 hown hK hP 0 rfl rfl 0 (by decide) (hw0) (fun _ h9 => h9) rfl dX8_energy_1 ?_
  refine va_get (D := (dC, dI)) (ci := 4) (v := .long 0) (C := RX0) (T := TX0) (N := 9) hx hb hts hiX0 hown hK hP 1 rfl rfl 8 (by decide) (hw2) (fun _ h9 => h9) rfl dX8_energy_4 ?_
  have hP9 := hP.sub (ws' := []) [] rfl
  have hD9 := hD.sub (ws' := []) [] (by decide) rfl
  have hK9 := hK.sub (tys' := [(cI, .int)]) [0] rfl
  exact W.lret (v := 0) hx hb hr (fun t ht hW => ⟨⟨0, (), rfl, rfl, wOut_at ht hW hP9 hK9 hD9⟩, hS.F ht⟩) hS.2.2 dX8_energy_7
