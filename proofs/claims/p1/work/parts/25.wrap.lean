theorem vaP0 {D : va_G} {cl : List vw_C} {H : Heap} : va_P D cl [] H := fun k q h => by simp at h
theorem vaD0 {A : Nat → Prop} : va_D A [] := ⟨fun i j p q h _ => by simp at h, fun k q h => by simp at h⟩
set_option maxHeartbeats 4000000 in
set_option maxRecDepth 100000 in
theorem c_L_setClock (l : Launch) (hl9 : l.stackTraces = false) (dC : Nat → ClassId) (dI : Nat → Nat → Nat) (g : Nat × Nat × Nat) (xt : Nat) (xe : Nat) (xf : Nat) (ah : Nat) (ac : Nat) (c1 : Nat) (c2 : Nat) (c3 : Nat) (c4 : Nat) (c5 : Nat) (au : Nat) (ab : Nat) (an : Nat) (ak : Nat) (ad : Nat) (cI : ClassId) (v1 : Int32) (v2 : Int32) (v3 : Int32) (v4 : Int32) (fo : Nat → Int64) (ou : Nat) (cL : ClassId) (sz : Nat) : vx_Met l yL_setClock wsL_setClock ({ frames := 7, cells := 1, slots := 6, locals := 126 } : Room) (va_Pc [.ref xt, .int v1, .int v2, .int v3, .int v4, .ref ou] (wIn dC dI g [(xt, .inr (12, [.ref ah, .ref xe, .ref xf])), (ah, .inr (4, [.ref ac, .ref au, .ref ab, .ref an, .ref ak, .ref ad, .int 0, .int 0, .long 0])), (ac, .inr (5, [.ref c1, .ref c2, .ref c3, .ref c4, .ref c5, .int 15])), (c1, .inl (cI, 4, .inl (cn 0))), (c2, .inl (cI, 4, .inl (cn 1))), (c3, .inl (cI, 4, .inl (cn 0))), (c4, .inl (cI, 4, .inl (cn 0))), (c5, .inl (cI, 4, .inl (cn 0))), (ou, .inl (cL, 1, .inr (.inl fo)))] [(cI, .int), (cL, .long)] sz)) (va_Qi (fun (r : Int32) (u : Nat → Int64) => r = sp_X8_setClock v1 v2 v3 ∧ (sp_X8_setClock v1 v2 v3 = 0 → u 0 = 1)) (fun (u : Nat → Int64) (t : State) => wOut dC dI [(ou, .inl (cL, 1, .inr (.inl u)))] [(cI, .int), (cL, .long)] (va_A [(xt, .inr (12, [.ref ah, .ref xe, .ref xf])), (ah, .inr (4, [.ref ac, .ref au, .ref ab, .ref an, .ref ak, .ref ad, .int 0, .int 0, .long 0])), (ac, .inr (5, [.ref c1, .ref c2, .ref c3, .ref c4, .ref c5, .int 15])), (c1, .inl (cI, 4, .inl (cn 0))), (c2, .inl (cI, 4, .inl (cn 1))), (c3, .inl (cI, 4, .inl (cn 0))), (c4, .inl (cI, 4, .inl (cn 0))), (c5, .inl (cI, 4, .inl (cn 0))), (ou, .inl (cL, 1, .inr (.inl fo)))] sz) t) (va_A [(xt, .inr (12, [.ref ah, .ref xe, .ref xf])), (ah, .inr (4, [.ref ac, .ref au, .ref ab, .ref an, .ref ak, .ref ad, .int 0, .int 0, .long 0])), (ac, .inr (5, [.ref c1, .ref c2, .ref c3, .ref c4, .ref c5, .int 15])), (c1, .inl (cI, 4, .inl (cn 0))), (c2, .inl (cI, 4, .inl (cn 1))), (c3, .inl (cI, 4, .inl (cn 0))), (c4, .inl (cI, 4, .inl (cn 0))), (c5, .inl (cI, 4, .inl (cn 0))), (ou, .inl (cL, 1, .inr (.inl fo)))] sz)) (vx_X (fun (_ : Unit) => False) (fun (_ : String) (_ : Unit) (_ : State) => True) (va_A [(xt, .inr (12, [.ref ah, .ref xe, .ref xf])), (ah, .inr (4, [.ref ac, .ref au, .ref ab, .ref an, .ref ak, .ref ad, .int 0, .int 0, .long 0])), (ac, .inr (5, [.ref c1, .ref c2, .ref c3, .ref c4, .ref c5, .int 15])), (c1, .inl (cI, 4, .inl (cn 0))), (c2, .inl (cI, 4, .inl (cn 1))), (c3, .inl (cI, 4, .inl (cn 0))), (c4, .inl (cI, 4, .inl (cn 0))), (c5, .inl (cI, 4, .inl (cn 0))), (ou, .inl (cL, 1, .inr (.inl fo)))] sz)) 1 6 (va_A [(xt, .inr (12, [.ref ah, .ref xe, .ref xf])), (ah, .inr (4, [.ref ac, .ref au, .ref ab, .ref an, .ref ak, .ref ad, .int 0, .int 0, .long 0])), (ac, .inr (5, [.ref c1, .ref c2, .ref c3, .ref c4, .ref c5, .int 15])), (c1, .inl (cI, 4, .inl (cn 0))), (c2, .inl (cI, 4, .inl (cn 1))), (c3, .inl (cI, 4, .inl (cn 0))), (c4, .inl (cI, 4, .inl (cn 0))), (c5, .inl (cI, 4, .inl (cn 0))), (ou, .inl (cL, 1, .inr (.inl fo)))] sz) := by
  refine vx_ofWH (cc := cL_setClock) (maxL := 7) (ret := (some .int)) (hh := [(0, 14, 17, 13), (0, 14, 21, 15)]) (by decide) rfl ?_
  intro p e s m args below meth c s₁ B hml hv
  obtain ⟨rfl, hsz, hP, hK, hD0, hG⟩ := hv
  have hx := B.exec
  have hb := B.bytes
  have hr := B.returns
  have hts := atoms_spec (ws := wsL_setClock) B.pre
  have hown : s.vm.findClass RL = some m.cls := findClass_of_methodNamed B.named
  have hlocks := B.notSynchronized
  have htab : c.exceptionTable.toList = tableOf [(0, 14, 17, 13), (0, 14, 21, 15)] := vx_table (x := yL_setClock) B (hts _ List.mem_cons_self)
  subst hsz
  have hD := hD0.self (sz := s.heap.size)
  generalize hAe : va_A [(xt, .inr (12, [.ref ah, .ref xe, .ref xf])), (ah, .inr (4, [.ref ac, .ref au, .ref ab, .ref an, .ref ak, .ref ad, .int 0, .int 0, .long 0])), (ac, .inr (5, [.ref c1, .ref c2, .ref c3, .ref c4, .ref c5, .int 15])), (c1, .inl (cI, 4, .inl (cn 0))), (c2, .inl (cI, 4, .inl (cn 1))), (c3, .inl (cI, 4, .inl (cn 0))), (c4, .inl (cI, 4, .inl (cn 0))), (c5, .inl (cI, 4, .inl (cn 0))), (ou, .inl (cL, 1, .inr (.inl fo)))] s.heap.size = A at hD hG ⊢
  have hN := hG.1
  have hA : ∀ q : Nat, s.heap.size ≤ q → A q := fun q h => by rw [← hAe]; exact Or.inr h
  have hS : va_S A s.heap s.heap [] := va_S.rf
  have hP : va_P (dC, dI) vwCl [(xt, .inr (12, [.ref ah, .ref xe, .ref xf])), (ah, .inr (4, [.ref ac, .ref au, .ref ab, .ref an, .ref ak, .ref ad, .int 0, .int 0, .long 0])), (ac, .inr (5, [.ref c1, .ref c2, .ref c3, .ref c4, .ref c5, .int 15])), (c1, .inl (cI, 4, .inl (cn 0))), (c2, .inl (cI, 4, .inl (cn 1))), (c3, .inl (cI, 4, .inl (cn 0))), (c4, .inl (cI, 4, .inl (cn 0))), (c5, .inl (cI, 4, .inl (cn 0))), (ou, .inl (cL, 1, .inr (.inl fo)))] s.heap := hP
  have hw0 : (Cond.classLink RL 13 "java/lang/IndexOutOfBoundsException").before _ s = true := hts _ (List.mem_cons_of_mem _ (List.mem_append_left _ (List.mem_append_left _ (List.mem_append_left _ (List.mem_append_left _ (List.mem_append_left _ (List.mem_append_left _ (List.mem_of_getElem? (i := 0) rfl))))))))
  have hw1 : (Cond.classLink RL 15 "java/lang/IllegalArgumentException").before _ s = true := hts _ (List.mem_cons_of_mem _ (List.mem_append_left _ (List.mem_append_left _ (List.mem_append_left _ (List.mem_append_left _ (List.mem_append_left _ (List.mem_append_left _ (List.mem_of_getElem? (i := 1) rfl))))))))
  have hl := lv_entry ([.ref xt, .int v1, .int v2, .int v3, .int v4, .ref ou]) (n := 7) (Nat.le_of_ble_eq_true rfl)
  rw [lg_entry_eq]
  generalize (lg_sl ([.ref xt, .int v1, .int v2, .int v3, .int v4, .ref ou]) ++ List.replicate (7 - (lg_sl ([.ref xt, .int v1, .int v2, .int v3, .int v4, .ref ou])).length) Slot.unset).toArray = ls at hl ⊢
  have hl : lv_has ls 7 [(0, .ref xt), (1, .int v1), (2, .int v2), (3, .int v3), (4, .int v4), (5, .ref ou)] := hl
  refine lv_aload hx hb dL_setClock_0 (lv_at hl 5 rfl) ?_
  refine lv_iconst (v := 0) hx hb dL_setClock_2 (by decide) ?_
  refine lv_aload_n hx hb dL_setClock_3 rfl (lv_at hl 0 rfl) ?_
  refine lv_iload_n hx hb dL_setClock_4 rfl (lv_at hl 1 rfl) ?_
  refine lv_iload_n hx hb dL_setClock_5 rfl (lv_at hl 2 rfl) ?_
  refine lv_iload_n hx hb dL_setClock_6 rfl (lv_at hl 3 rfl) ?_
  refine lv_iload hx hb dL_setClock_7 (lv_at hl 4 rfl) ?_
  have hPc := hP.sub (ws' := [(xt, .inr (12, [.ref ah, .ref xe, .ref xf])), (ah, .inr (4, [.ref ac, .ref au, .ref ab, .ref an, .ref ak, .ref ad, .int 0, .int 0, .long 0])), (ac, .inr (5, [.ref c1, .ref c2, .ref c3, .ref c4, .ref c5, .int 15])), (c1, .inl (cI, 4, .inl (cn 0))), (c2, .inl (cI, 4, .inl (cn 1))), (c3, .inl (cI, 4, .inl (cn 0))), (c4, .inl (cI, 4, .inl (cn 0))), (c5, .inl (cI, 4, .inl (cn 0)))]) [0, 1, 2, 3, 4, 5, 6, 7] rfl
  have hDc := hD.sub (ws' := [(xt, .inr (12, [.ref ah, .ref xe, .ref xf])), (ah, .inr (4, [.ref ac, .ref au, .ref ab, .ref an, .ref ak, .ref ad, .int 0, .int 0, .long 0])), (ac, .inr (5, [.ref c1, .ref c2, .ref c3, .ref c4, .ref c5, .int 15])), (c1, .inl (cI, 4, .inl (cn 0))), (c2, .inl (cI, 4, .inl (cn 1))), (c3, .inl (cI, 4, .inl (cn 0))), (c4, .inl (cI, 4, .inl (cn 0))), (c5, .inl (cI, 4, .inl (cn 0)))]) [0, 1, 2, 3, 4, 5, 6, 7] (by decide) rfl
  have hKc := hK.sub (tys' := [(cI, .int)]) [0] rfl
  have hFc := va_free (wc := [(xt, .inr (12, [.ref ah, .ref xe, .ref xf])), (ah, .inr (4, [.ref ac, .ref au, .ref ab, .ref an, .ref ak, .ref ad, .int 0, .int 0, .long 0])), (ac, .inr (5, [.ref c1, .ref c2, .ref c3, .ref c4, .ref c5, .int 15])), (c1, .inl (cI, 4, .inl (cn 0))), (c2, .inl (cI, 4, .inl (cn 1))), (c3, .inl (cI, 4, .inl (cn 0))), (c4, .inl (cI, 4, .inl (cn 0))), (c5, .inl (cI, 4, .inl (cn 0)))]) hD hS hA [0, 1, 2, 3, 4, 5, 6, 7] rfl
  refine vx_calli (vx_runV (As := [.int v1, .int v2, .int v3, .int v4]) (rest := [.int 0, .ref ou]) ⟨hx, hb, hml, hown, hts⟩ (c_X8_setClock l hl9 dC dI g xt xe xf ah ac c1 c2 c3 c4 c5 au ab an ak ad cI v1 v2 v3 v4 s.heap.size) (cwV 4 hts gL_setClock_X8_setClock rfl rfl rfl (by decide +kernel) ⟨Nat.le_of_ble_eq_true rfl, Nat.le_of_ble_eq_true rfl⟩) ⟨wIn_blind, va_recv hK hP (ci := 12) (q0 := 0) rfl rfl, wIn_at hPc hKc hDc hG hS hFc⟩ rfl rfl hl.1 rfl (lv_room (Nat.le_of_ble_eq_true rfl)) dL_setClock_9 ⟨Nat.le_of_ble_eq_true rfl, Nat.le_of_ble_eq_true rfl⟩) hS (fun q _ h => hFc q h) hFc (fun q _ h => hFc q h) (fun E9 ce9 q_2 u9 t H1 locs ht hvm hx9 hB9 hz1 hk1 hS hce hcv hcl => ?_) (fun r_1 u t H1 locs ht hvm hw hB hz1 hk1 hS => ?_)
  · rcases hB9 with ⟨rfl, hs9⟩ | ⟨rfl, hs9⟩
    · refine vx_catch (E := "java/lang/IndexOutOfBoundsException") (name := "java/lang/IndexOutOfBoundsException") hown [] ⟨0, 14, 17, 13⟩ [⟨0, 14, 21, 15⟩] (htab.trans rfl) (fun z hz => nomatch hz) (by decide) (by decide) hw0 (nw_use hN _ (List.mem_of_getElem? (i := 55) rfl)) hce hcv hcl ?_
      obtain ⟨hP, hD⟩ := va_join (wr := [(ou, .inl (cL, 1, .inr (.inl fo)))]) (w1 := []) hP hD [0, 1, 2, 3, 4, 5, 6, 7] [8] rfl rfl (by decide) (by decide) hk1 hFc vaP0 vaD0
      generalize H1 = H at hP hS ⊢
      have hP : va_P (dC, dI) vwCl [(ou, .inl (cL, 1, .inr (.inl fo)))] H := hP
      have hD : va_D A [(ou, .inl (cL, 1, .inr (.inl fo)))] := hD
      refine W.widen (k := 1) (n := 6) (Nat.le_of_ble_eq_true rfl) (Nat.le_of_ble_eq_true rfl) ?_
      refine lv_astore (lv' := [(6, .ref q_2), (0, .ref xt), (1, .int v1), (2, .int v2), (3, .int v3), (4, .int v4), (5, .ref ou)]) hx hb dL_setClock_17 hl (by decide) rfl (fun ls hl => ?_)
      refine lv_iconst (v := 1) hx hb dL_setClock_19 (by decide) ?_
      have hP9 := hP.sub (ws' := [(ou, .inl (cL, 1, .inr (.inl fo)))]) [0] rfl
      have hD9 := hD.sub (ws' := [(ou, .inl (cL, 1, .inr (.inl fo)))]) [0] (by decide) rfl
      have hK9 := hK.sub (tys' := [(cI, .int), (cL, .long)]) [0, 1] rfl
      refine vx_ret ?_
      exact W.iret (v := 1) hx hb hr (fun t ht hW => ⟨⟨1, (fo), rfl, ⟨hs9.symm, (fun h9 => absurd (hs9.symm.trans h9) (by decide))⟩, wOut_at ht hW hP9 hK9 hD9⟩, hS.F ht⟩) hS.2.2 dL_setClock_20
    · refine vx_catch (E := "java/lang/IllegalArgumentException") (name := "java/lang/IllegalArgumentException") hown [⟨0, 14, 17, 13⟩] ⟨0, 14, 21, 15⟩ [] (htab.trans rfl) (List.forall_mem_cons.2 ⟨Or.inr ⟨by decide, "java/lang/IndexOutOfBoundsException", hw0, (hG.2.2.2.2.2.2.2.2.2.2.1 _ (List.mem_of_getElem? (i := 3) rfl))⟩, (fun z hz => nomatch hz)⟩) (by decide) (by decide) hw1 (nw_use hN _ (List.mem_of_getElem? (i := 54) rfl)) hce hcv hcl ?_
      obtain ⟨hP, hD⟩ := va_join (wr := [(ou, .inl (cL, 1, .inr (.inl fo)))]) (w1 := []) hP hD [0, 1, 2, 3, 4, 5, 6, 7] [8] rfl rfl (by decide) (by decide) hk1 hFc vaP0 vaD0
      generalize H1 = H at hP hS ⊢
      have hP : va_P (dC, dI) vwCl [(ou, .inl (cL, 1, .inr (.inl fo)))] H := hP
      have hD : va_D A [(ou, .inl (cL, 1, .inr (.inl fo)))] := hD
      refine W.widen (k := 1) (n := 6) (Nat.le_of_ble_eq_true rfl) (Nat.le_of_ble_eq_true rfl) ?_
      refine lv_astore (lv' := [(6, .ref q_2), (0, .ref xt), (1, .int v1), (2, .int v2), (3, .int v3), (4, .int v4), (5, .ref ou)]) hx hb dL_setClock_21 hl (by decide) rfl (fun ls hl => ?_)
      refine lv_iconst (v := 2) hx hb dL_setClock_23 (by decide) ?_
      have hP9 := hP.sub (ws' := [(ou, .inl (cL, 1, .inr (.inl fo)))]) [0] rfl
      have hD9 := hD.sub (ws' := [(ou, .inl (cL, 1, .inr (.inl fo)))]) [0] (by decide) rfl
      have hK9 := hK.sub (tys' := [(cI, .int), (cL, .long)]) [0, 1] rfl
      refine vx_ret ?_
      exact W.iret (v := 2) hx hb hr (fun t ht hW => ⟨⟨2, (fo), rfl, ⟨hs9.symm, (fun h9 => absurd (hs9.symm.trans h9) (by decide))⟩, wOut_at ht hW hP9 hK9 hD9⟩, hS.F ht⟩) hS.2.2 dL_setClock_24
  · obtain ⟨hP1, hK1, hD1⟩ := hB
    rw [ht] at hP1
    obtain ⟨hP, hD⟩ := va_join (wr := [(ou, .inl (cL, 1, .inr (.inl fo)))]) (w1 := []) hP hD [0, 1, 2, 3, 4, 5, 6, 7] [8] rfl rfl (by decide) (by decide) hk1 hFc hP1 hD1
    generalize H1 = H at hP hS ⊢
    have hP : va_P (dC, dI) vwCl [(ou, .inl (cL, 1, .inr (.inl fo)))] H := hP
    have hD : va_D A [(ou, .inl (cL, 1, .inr (.inl fo)))] := hD
    refine lt_ci (y := 1) hw.1 ?_
    have hs9 := hw.2
    refine W.widen (k := 1) (n := 6) (Nat.le_of_ble_eq_true rfl) (Nat.le_of_ble_eq_true rfl) ?_
    refine lv_i2l (v := 1) hx hb dL_setClock_12 (by first | rfl | decide) ?_
    refine va_last (D := (dC, dI)) hx hb hK hP hD hS 0 1 rfl rfl (by unfold vp_in; decide) dL_setClock_13 (fun H locs hP hD hS => ?_)
    have hP : va_P (dC, dI) vwCl [(ou, .inl (cL, 1, .inr (.inl (vp_updL fo 0 1))))] H := hP
    have hD : va_D A [(ou, .inl (cL, 1, .inr (.inl (vp_updL fo 0 1))))] := hD
    refine lv_goto (tgt := 25) hx hb dL_setClock_14 (by decide) ?_
    refine lv_iconst (v := 0) hx hb dL_setClock_25 (by decide) ?_
    have hP9 := hP.sub (ws' := [(ou, .inl (cL, 1, .inr (.inl (vp_updL fo 0 1))))]) [0] rfl
    have hD9 := hD.sub (ws' := [(ou, .inl (cL, 1, .inr (.inl (vp_updL fo 0 1))))]) [0] (by decide) rfl
    have hK9 := hK.sub (tys' := [(cI, .int), (cL, .long)]) [0, 1] rfl
    refine vx_ret ?_
    exact W.iret (v := 0) hx hb hr (fun t ht hW => ⟨⟨0, (vp_updL fo 0 1), rfl, ⟨hs9.symm, (fun _ => rfl)⟩, wOut_at ht hW hP9 hK9 hD9⟩, hS.F ht⟩) hS.2.2 dL_setClock_26
set_option maxHeartbeats 4000000 in
set_option maxRecDepth 100000 in
theorem c_L_setTimer (l : Launch) (hl9 : l.stackTraces = false) (dC : Nat → ClassId) (dI : Nat → Nat → Nat) (g : Nat × Nat × Nat) (xt : Nat) (xe : Nat) (xf : Nat) (ah : Nat) (ac : Nat) (au : Nat) (t1 : Nat) (t2 : Nat) (t3 : Nat) (t4 : Nat) (t5 : Nat) (t6 : Nat) (t7 : Nat) (ab : Nat) (an : Nat) (ak : Nat) (ad : Nat) (cI : ClassId) (v1 : Int32) (v2 : Int32) (v3 : Int32) (v4 : Int32) (v5 : Int32) (fo : Nat → Int64) (ou : Nat) (cL : ClassId) (sz : Nat) : vx_Met l yL_setTimer wsL_setTimer ({ frames := 7, cells := 1, slots := 6, locals := 127 } : Room) (va_Pc [.ref xt, .int v1, .int v2, .int v3, .int v4, .int v5, .ref ou] (wIn dC dI g [(xt, .inr (12, [.ref ah, .ref xe, .ref xf])), (ah, .inr (4, [.ref ac, .ref au, .ref ab, .ref an, .ref ak, .ref ad, .int 0, .int 0, .long 0])), (au, .inr (10, [.ref t1, .ref t2, .ref t3, .ref t4, .ref t5, .ref t6, .ref t7, .int 0, .int 0])), (t1, .inl (cI, 4, .inl (cn 0))), (t2, .inl (cI, 4, .inl (cn 10))), (t3, .inl (cI, 4, .inl (cn 10))), (t4, .inl (cI, 4, .inl (cn (-1)))), (t5, .inl (cI, 4, .inl (cn 0))), (t6, .inl (cI, 4, .inl (cn 0))), (t7, .inl (cI, 4, .inl (cn 110))), (ou, .inl (cL, 1, .inr (.inl fo)))] [(cI, .int), (cL, .long)] sz)) (va_Qi (fun (r : Int32) (u : Nat → Int64) => r = sp_X8_setTimer v1 v2 v3 v4 v5 ∧ (sp_X8_setTimer v1 v2 v3 v4 v5 = 0 → u 0 = 10)) (fun (u : Nat → Int64) (t : State) => wOut dC dI [(ou, .inl (cL, 1, .inr (.inl u)))] [(cI, .int), (cL, .long)] (va_A [(xt, .inr (12, [.ref ah, .ref xe, .ref xf])), (ah, .inr (4, [.ref ac, .ref au, .ref ab, .ref an, .ref ak, .ref ad, .int 0, .int 0, .long 0])), (au, .inr (10, [.ref t1, .ref t2, .ref t3, .ref t4, .ref t5, .ref t6, .ref t7, .int 0, .int 0])), (t1, .inl (cI, 4, .inl (cn 0))), (t2, .inl (cI, 4, .inl (cn 10))), (t3, .inl (cI, 4, .inl (cn 10))), (t4, .inl (cI, 4, .inl (cn (-1)))), (t5, .inl (cI, 4, .inl (cn 0))), (t6, .inl (cI, 4, .inl (cn 0))), (t7, .inl (cI, 4, .inl (cn 110))), (ou, .inl (cL, 1, .inr (.inl fo)))] sz) t) (va_A [(xt, .inr (12, [.ref ah, .ref xe, .ref xf])), (ah, .inr (4, [.ref ac, .ref au, .ref ab, .ref an, .ref ak, .ref ad, .int 0, .int 0, .long 0])), (au, .inr (10, [.ref t1, .ref t2, .ref t3, .ref t4, .ref t5, .ref t6, .ref t7, .int 0, .int 0])), (t1, .inl (cI, 4, .inl (cn 0))), (t2, .inl (cI, 4, .inl (cn 10))), (t3, .inl (cI, 4, .inl (cn 10))), (t4, .inl (cI, 4, .inl (cn (-1)))), (t5, .inl (cI, 4, .inl (cn 0))), (t6, .inl (cI, 4, .inl (cn 0))), (t7, .inl (cI, 4, .inl (cn 110))), (ou, .inl (cL, 1, .inr (.inl fo)))] sz)) (vx_X (fun (_ : Unit) => False) (fun (_ : String) (_ : Unit) (_ : State) => True) (va_A [(xt, .inr (12, [.ref ah, .ref xe, .ref xf])), (ah, .inr (4, [.ref ac, .ref au, .ref ab, .ref an, .ref ak, .ref ad, .int 0, .int 0, .long 0])), (au, .inr (10, [.ref t1, .ref t2, .ref t3, .ref t4, .ref t5, .ref t6, .ref t7, .int 0, .int 0])), (t1, .inl (cI, 4, .inl (cn 0))), (t2, .inl (cI, 4, .inl (cn 10))), (t3, .inl (cI, 4, .inl (cn 10))), (t4, .inl (cI, 4, .inl (cn (-1)))), (t5, .inl (cI, 4, .inl (cn 0))), (t6, .inl (cI, 4, .inl (cn 0))), (t7, .inl (cI, 4, .inl (cn 110))), (ou, .inl (cL, 1, .inr (.inl fo)))] sz)) 1 6 (va_A [(xt, .inr (12, [.ref ah, .ref xe, .ref xf])), (ah, .inr (4, [.ref ac, .ref au, .ref ab, .ref an, .ref ak, .ref ad, .int 0, .int 0, .long 0])), (au, .inr (10, [.ref t1, .ref t2, .ref t3, .ref t4, .ref t5, .ref t6, .ref t7, .int 0, .int 0])), (t1, .inl (cI, 4, .inl (cn 0))), (t2, .inl (cI, 4, .inl (cn 10))), (t3, .inl (cI, 4, .inl (cn 10))), (t4, .inl (cI, 4, .inl (cn (-1)))), (t5, .inl (cI, 4, .inl (cn 0))), (t6, .inl (cI, 4, .inl (cn 0))), (t7, .inl (cI, 4, .inl (cn 110))), (ou, .inl (cL, 1, .inr (.inl fo)))] sz) := by
  refine vx_ofWH (cc := cL_setTimer) (maxL := 8) (ret := (some .int)) (hh := [(0, 16, 19, 13), (0, 16, 23, 15)]) (by decide) rfl ?_
  intro p e s m args below meth c s₁ B hml hv
  obtain ⟨rfl, hsz, hP, hK, hD0, hG⟩ := hv
  have hx := B.exec
  have hb := B.bytes
  have hr := B.returns
  have hts := atoms_spec (ws := wsL_setTimer) B.pre
  have hown : s.vm.findClass RL = some m.cls := findClass_of_methodNamed B.named
  have hlocks := B.notSynchronized
  have htab : c.exceptionTable.toList = tableOf [(0, 16, 19, 13), (0, 16, 23, 15)] := vx_table (x := yL_setTimer) B (hts _ List.mem_cons_self)
  subst hsz
  have hD := hD0.self (sz := s.heap.size)
  generalize hAe : va_A [(xt, .inr (12, [.ref ah, .ref xe, .ref xf])), (ah, .inr (4, [.ref ac, .ref au, .ref ab, .ref an, .ref ak, .ref ad, .int 0, .int 0, .long 0])), (au, .inr (10, [.ref t1, .ref t2, .ref t3, .ref t4, .ref t5, .ref t6, .ref t7, .int 0, .int 0])), (t1, .inl (cI, 4, .inl (cn 0))), (t2, .inl (cI, 4, .inl (cn 10))), (t3, .inl (cI, 4, .inl (cn 10))), (t4, .inl (cI, 4, .inl (cn (-1)))), (t5, .inl (cI, 4, .inl (cn 0))), (t6, .inl (cI, 4, .inl (cn 0))), (t7, .inl (cI, 4, .inl (cn 110))), (ou, .inl (cL, 1, .inr (.inl fo)))] s.heap.size = A at hD hG ⊢
  have hN := hG.1
  have hA : ∀ q : Nat, s.heap.size ≤ q → A q := fun q h => by rw [← hAe]; exact Or.inr h
  have hS : va_S A s.heap s.heap [] := va_S.rf
  have hP : va_P (dC, dI) vwCl [(xt, .inr (12, [.ref ah, .ref xe, .ref xf])), (ah, .inr (4, [.ref ac, .ref au, .ref ab, .ref an, .ref ak, .ref ad, .int 0, .int 0, .long 0])), (au, .inr (10, [.ref t1, .ref t2, .ref t3, .ref t4, .ref t5, .ref t6, .ref t7, .int 0, .int 0])), (t1, .inl (cI, 4, .inl (cn 0))), (t2, .inl (cI, 4, .inl (cn 10))), (t3, .inl (cI, 4, .inl (cn 10))), (t4, .inl (cI, 4, .inl (cn (-1)))), (t5, .inl (cI, 4, .inl (cn 0))), (t6, .inl (cI, 4, .inl (cn 0))), (t7, .inl (cI, 4, .inl (cn 110))), (ou, .inl (cL, 1, .inr (.inl fo)))] s.heap := hP
  have hw0 : (Cond.classLink RL 13 "java/lang/IndexOutOfBoundsException").before _ s = true := hts _ (List.mem_cons_of_mem _ (List.mem_append_left _ (List.mem_append_left _ (List.mem_append_left _ (List.mem_append_left _ (List.mem_append_left _ (List.mem_append_left _ (List.mem_of_getElem? (i := 0) rfl))))))))
  have hw1 : (Cond.classLink RL 15 "java/lang/IllegalArgumentException").before _ s = true := hts _ (List.mem_cons_of_mem _ (List.mem_append_left _ (List.mem_append_left _ (List.mem_append_left _ (List.mem_append_left _ (List.mem_append_left _ (List.mem_append_left _ (List.mem_of_getElem? (i := 1) rfl))))))))
  have hl := lv_entry ([.ref xt, .int v1, .int v2, .int v3, .int v4, .int v5, .ref ou]) (n := 8) (Nat.le_of_ble_eq_true rfl)
  rw [lg_entry_eq]
  generalize (lg_sl ([.ref xt, .int v1, .int v2, .int v3, .int v4, .int v5, .ref ou]) ++ List.replicate (8 - (lg_sl ([.ref xt, .int v1, .int v2, .int v3, .int v4, .int v5, .ref ou])).length) Slot.unset).toArray = ls at hl ⊢
  have hl : lv_has ls 8 [(0, .ref xt), (1, .int v1), (2, .int v2), (3, .int v3), (4, .int v4), (5, .int v5), (6, .ref ou)] := hl
  refine lv_aload hx hb dL_setTimer_0 (lv_at hl 6 rfl) ?_
  refine lv_iconst (v := 0) hx hb dL_setTimer_2 (by decide) ?_
  refine lv_aload_n hx hb dL_setTimer_3 rfl (lv_at hl 0 rfl) ?_
  refine lv_iload_n hx hb dL_setTimer_4 rfl (lv_at hl 1 rfl) ?_
  refine lv_iload_n hx hb dL_setTimer_5 rfl (lv_at hl 2 rfl) ?_
  refine lv_iload_n hx hb dL_setTimer_6 rfl (lv_at hl 3 rfl) ?_
  refine lv_iload hx hb dL_setTimer_7 (lv_at hl 4 rfl) ?_
  refine lv_iload hx hb dL_setTimer_9 (lv_at hl 5 rfl) ?_
  have hPc := hP.sub (ws' := [(xt, .inr (12, [.ref ah, .ref xe, .ref xf])), (ah, .inr (4, [.ref ac, .ref au, .ref ab, .ref an, .ref ak, .ref ad, .int 0, .int 0, .long 0])), (au, .inr (10, [.ref t1, .ref t2, .ref t3, .ref t4, .ref t5, .ref t6, .ref t7, .int 0, .int 0])), (t1, .inl (cI, 4, .inl (cn 0))), (t2, .inl (cI, 4, .inl (cn 10))), (t3, .inl (cI, 4, .inl (cn 10))), (t4, .inl (cI, 4, .inl (cn (-1)))), (t5, .inl (cI, 4, .inl (cn 0))), (t6, .inl (cI, 4, .inl (cn 0))), (t7, .inl (cI, 4, .inl (cn 110)))]) [0, 1, 2, 3, 4, 5, 6, 7, 8, 9] rfl
  have hDc := hD.sub (ws' := [(xt, .inr (12, [.ref ah, .ref xe, .ref xf])), (ah, .inr (4, [.ref ac, .ref au, .ref ab, .ref an, .ref ak, .ref ad, .int 0, .int 0, .long 0])), (au, .inr (10, [.ref t1, .ref t2, .ref t3, .ref t4, .ref t5, .ref t6, .ref t7, .int 0, .int 0])), (t1, .inl (cI, 4, .inl (cn 0))), (t2, .inl (cI, 4, .inl (cn 10))), (t3, .inl (cI, 4, .inl (cn 10))), (t4, .inl (cI, 4, .inl (cn (-1)))), (t5, .inl (cI, 4, .inl (cn 0))), (t6, .inl (cI, 4, .inl (cn 0))), (t7, .inl (cI, 4, .inl (cn 110)))]) [0, 1, 2, 3, 4, 5, 6, 7, 8, 9] (by decide) rfl
  have hKc := hK.sub (tys' := [(cI, .int)]) [0] rfl
  have hFc := va_free (wc := [(xt, .inr (12, [.ref ah, .ref xe, .ref xf])), (ah, .inr (4, [.ref ac, .ref au, .ref ab, .ref an, .ref ak, .ref ad, .int 0, .int 0, .long 0])), (au, .inr (10, [.ref t1, .ref t2, .ref t3, .ref t4, .ref t5, .ref t6, .ref t7, .int 0, .int 0])), (t1, .inl (cI, 4, .inl (cn 0))), (t2, .inl (cI, 4, .inl (cn 10))), (t3, .inl (cI, 4, .inl (cn 10))), (t4, .inl (cI, 4, .inl (cn (-1)))), (t5, .inl (cI, 4, .inl (cn 0))), (t6, .inl (cI, 4, .inl (cn 0))), (t7, .inl (cI, 4, .inl (cn 110)))]) hD hS hA [0, 1, 2, 3, 4, 5, 6, 7, 8, 9] rfl
  refine vx_calli (vx_runV (As := [.int v1, .int v2, .int v3, .int v4, .int v5]) (rest := [.int 0, .ref ou]) ⟨hx, hb, hml, hown, hts⟩ (c_X8_setTimer l hl9 dC dI g xt xe xf ah ac au t1 t2 t3 t4 t5 t6 t7 ab an ak ad cI v1 v2 v3 v4 v5 s.heap.size) (cwV 5 hts gL_setTimer_X8_setTimer rfl rfl rfl (by decide +kernel) ⟨Nat.le_of_ble_eq_true rfl, Nat.le_of_ble_eq_true rfl⟩) ⟨wIn_blind, va_recv hK hP (ci := 12) (q0 := 0) rfl rfl, wIn_at hPc hKc hDc hG hS hFc⟩ rfl rfl hl.1 rfl (lv_room (Nat.le_of_ble_eq_true rfl)) dL_setTimer_11 ⟨Nat.le_of_ble_eq_true rfl, Nat.le_of_ble_eq_true rfl⟩) hS (fun q _ h => hFc q h) hFc (fun q _ h => hFc q h) (fun E9 ce9 q_2 u9 t H1 locs ht hvm hx9 hB9 hz1 hk1 hS hce hcv hcl => ?_) (fun r_1 u t H1 locs ht hvm hw hB hz1 hk1 hS => ?_)
  · rcases hB9 with ⟨rfl, hs9⟩ | ⟨rfl, hs9⟩
    · refine vx_catch (E := "java/lang/IndexOutOfBoundsException") (name := "java/lang/IndexOutOfBoundsException") hown [] ⟨0, 16, 19, 13⟩ [⟨0, 16, 23, 15⟩] (htab.trans rfl) (fun z hz => nomatch hz) (by decide) (by decide) hw0 (nw_use hN _ (List.mem_of_getElem? (i := 55) rfl)) hce hcv hcl ?_
      obtain ⟨hP, hD⟩ := va_join (wr := [(ou, .inl (cL, 1, .inr (.inl fo)))]) (w1 := []) hP hD [0, 1, 2, 3, 4, 5, 6, 7, 8, 9] [10] rfl rfl (by decide) (by decide) hk1 hFc vaP0 vaD0
      generalize H1 = H at hP hS ⊢
      have hP : va_P (dC, dI) vwCl [(ou, .inl (cL, 1, .inr (.inl fo)))] H := hP
      have hD : va_D A [(ou, .inl (cL, 1, .inr (.inl fo)))] := hD
      refine W.widen (k := 1) (n := 6) (Nat.le_of_ble_eq_true rfl) (Nat.le_of_ble_eq_true rfl) ?_
      refine lv_astore (lv' := [(7, .ref q_2), (0, .ref xt), (1, .int v1), (2, .int v2), (3, .int v3), (4, .int v4), (5, .int v5), (6, .ref ou)]) hx hb dL_setTimer_19 hl (by decide) rfl (fun ls hl => ?_)
      refine lv_iconst (v := 1) hx hb dL_setTimer_21 (by decide) ?_
      have hP9 := hP.sub (ws' := [(ou, .inl (cL, 1, .inr (.inl fo)))]) [0] rfl
      have hD9 := hD.sub (ws' := [(ou, .inl (cL, 1, .inr (.inl fo)))]) [0] (by decide) rfl
      have hK9 := hK.sub (tys' := [(cI, .int), (cL, .long)]) [0, 1] rfl
      refine vx_ret ?_
      exact W.iret (v := 1) hx hb hr (fun t ht hW => ⟨⟨1, (fo), rfl, ⟨hs9.symm, (fun h9 => absurd (hs9.symm.trans h9) (by decide))⟩, wOut_at ht hW hP9 hK9 hD9⟩, hS.F ht⟩) hS.2.2 dL_setTimer_22
    · refine vx_catch (E := "java/lang/IllegalArgumentException") (name := "java/lang/IllegalArgumentException") hown [⟨0, 16, 19, 13⟩] ⟨0, 16, 23, 15⟩ [] (htab.trans rfl) (List.forall_mem_cons.2 ⟨Or.inr ⟨by decide, "java/lang/IndexOutOfBoundsException", hw0, (hG.2.2.2.2.2.2.2.2.2.2.1 _ (List.mem_of_getElem? (i := 3) rfl))⟩, (fun z hz => nomatch hz)⟩) (by decide) (by decide) hw1 (nw_use hN _ (List.mem_of_getElem? (i := 54) rfl)) hce hcv hcl ?_
      obtain ⟨hP, hD⟩ := va_join (wr := [(ou, .inl (cL, 1, .inr (.inl fo)))]) (w1 := []) hP hD [0, 1, 2, 3, 4, 5, 6, 7, 8, 9] [10] rfl rfl (by decide) (by decide) hk1 hFc vaP0 vaD0
      generalize H1 = H at hP hS ⊢
      have hP : va_P (dC, dI) vwCl [(ou, .inl (cL, 1, .inr (.inl fo)))] H := hP
      have hD : va_D A [(ou, .inl (cL, 1, .inr (.inl fo)))] := hD
      refine W.widen (k := 1) (n := 6) (Nat.le_of_ble_eq_true rfl) (Nat.le_of_ble_eq_true rfl) ?_
      refine lv_astore (lv' := [(7, .ref q_2), (0, .ref xt), (1, .int v1), (2, .int v2), (3, .int v3), (4, .int v4), (5, .int v5), (6, .ref ou)]) hx hb dL_setTimer_23 hl (by decide) rfl (fun ls hl => ?_)
      refine lv_iconst (v := 2) hx hb dL_setTimer_25 (by decide) ?_
      have hP9 := hP.sub (ws' := [(ou, .inl (cL, 1, .inr (.inl fo)))]) [0] rfl
      have hD9 := hD.sub (ws' := [(ou, .inl (cL, 1, .inr (.inl fo)))]) [0] (by decide) rfl
      have hK9 := hK.sub (tys' := [(cI, .int), (cL, .long)]) [0, 1] rfl
      refine vx_ret ?_
      exact W.iret (v := 2) hx hb hr (fun t ht hW => ⟨⟨2, (fo), rfl, ⟨hs9.symm, (fun h9 => absurd (hs9.symm.trans h9) (by decide))⟩, wOut_at ht hW hP9 hK9 hD9⟩, hS.F ht⟩) hS.2.2 dL_setTimer_26
  · obtain ⟨hP1, hK1, hD1⟩ := hB
    rw [ht] at hP1
    obtain ⟨hP, hD⟩ := va_join (wr := [(ou, .inl (cL, 1, .inr (.inl fo)))]) (w1 := []) hP hD [0, 1, 2, 3, 4, 5, 6, 7, 8, 9] [10] rfl rfl (by decide) (by decide) hk1 hFc hP1 hD1
    generalize H1 = H at hP hS ⊢
    have hP : va_P (dC, dI) vwCl [(ou, .inl (cL, 1, .inr (.inl fo)))] H := hP
    have hD : va_D A [(ou, .inl (cL, 1, .inr (.inl fo)))] := hD
    refine lt_ci (y := 10) hw.1 ?_
    have hs9 := hw.2
    refine W.widen (k := 1) (n := 6) (Nat.le_of_ble_eq_true rfl) (Nat.le_of_ble_eq_true rfl) ?_
    refine lv_i2l (v := 10) hx hb dL_setTimer_14 (by first | rfl | decide) ?_
    refine va_last (D := (dC, dI)) hx hb hK hP hD hS 0 1 rfl rfl (by unfold vp_in; decide) dL_setTimer_15 (fun H locs hP hD hS => ?_)
    have hP : va_P (dC, dI) vwCl [(ou, .inl (cL, 1, .inr (.inl (vp_updL fo 0 10))))] H := hP
    have hD : va_D A [(ou, .inl (cL, 1, .inr (.inl (vp_updL fo 0 10))))] := hD
    refine lv_goto (tgt := 27) hx hb dL_setTimer_16 (by decide) ?_
    refine lv_iconst (v := 0) hx hb dL_setTimer_27 (by decide) ?_
    have hP9 := hP.sub (ws' := [(ou, .inl (cL, 1, .inr (.inl (vp_updL fo 0 10))))]) [0] rfl
    have hD9 := hD.sub (ws' := [(ou, .inl (cL, 1, .inr (.inl (vp_updL fo 0 10))))]) [0] (by decide) rfl
    have hK9 := hK.sub (tys' := [(cI, .int), (cL, .long)]) [0, 1] rfl
    refine vx_ret ?_
    exact W.iret (v := 0) hx hb hr (fun t ht hW => ⟨⟨0, (vp_updL fo 0 10), rfl, ⟨hs9.symm, (fun _ => rfl)⟩, wOut_at ht hW hP9 hK9 hD9⟩, hS.F ht⟩) hS.2.2 dL_setTimer_28
set_option maxHeartbeats 4000000 in
set_option maxRecDepth 100000 in
theorem c_L_link (l : Launch) (hl9 : l.stackTraces = false) (dC : Nat → ClassId) (dI : Nat → Nat → Nat) (g : Nat × Nat × Nat) (xt : Nat) (xe : Nat) (xf : Nat) (ah : Nat) (ac : Nat) (au : Nat) (t1 : Nat) (t2 : Nat) (t3 : Nat) (t4 : Nat) (t5 : Nat) (t6 : Nat) (t7 : Nat) (ab : Nat) (an : Nat) (ak : Nat) (ad : Nat) (cI : ClassId) (v1 : Int32) (v2 : Int32) (fo : Nat → Int64) (ou : Nat) (cL : ClassId) (sz : Nat) : vx_Met l yL_link wsL_link ({ frames := 7, cells := 1, slots := 6, locals := 123 } : Room) (va_Pc [.ref xt, .int v1, .int v2, .ref ou] (wIn dC dI g [(xt, .inr (12, [.ref ah, .ref xe, .ref xf])), (ah, .inr (4, [.ref ac, .ref au, .ref ab, .ref an, .ref ak, .ref ad, .int 0, .int 0, .long 0])), (au, .inr (10, [.ref t1, .ref t2, .ref t3, .ref t4, .ref t5, .ref t6, .ref t7, .int 0, .int 0])), (t1, .inl (cI, 4, .inl (cn 0))), (t2, .inl (cI, 4, .inl (cn 10))), (t3, .inl (cI, 4, .inl (cn 10))), (t4, .inl (cI, 4, .inl (cn (-1)))), (t5, .inl (cI, 4, .inl (cn 0))), (t6, .inl (cI, 4, .inl (cn 0))), (t7, .inl (cI, 4, .inl (cn 110))), (ou, .inl (cL, 1, .inr (.inl fo)))] [(cI, .int), (cL, .long)] sz)) (va_Qi (fun (r : Int32) (u : Nat → Int64) => r = sp_X8_link v1 v2 ∧ (sp_X8_link v1 v2 = 0 → u 0 = -1)) (fun (u : Nat → Int64) (t : State) => wOut dC dI [(ou, .inl (cL, 1, .inr (.inl u)))] [(cI, .int), (cL, .long)] (va_A [(xt, .inr (12, [.ref ah, .ref xe, .ref xf])), (ah, .inr (4, [.ref ac, .ref au, .ref ab, .ref an, .ref ak, .ref ad, .int 0, .int 0, .long 0])), (au, .inr (10, [.ref t1, .ref t2, .ref t3, .ref t4, .ref t5, .ref t6, .ref t7, .int 0, .int 0])), (t1, .inl (cI, 4, .inl (cn 0))), (t2, .inl (cI, 4, .inl (cn 10))), (t3, .inl (cI, 4, .inl (cn 10))), (t4, .inl (cI, 4, .inl (cn (-1)))), (t5, .inl (cI, 4, .inl (cn 0))), (t6, .inl (cI, 4, .inl (cn 0))), (t7, .inl (cI, 4, .inl (cn 110))), (ou, .inl (cL, 1, .inr (.inl fo)))] sz) t) (va_A [(xt, .inr (12, [.ref ah, .ref xe, .ref xf])), (ah, .inr (4, [.ref ac, .ref au, .ref ab, .ref an, .ref ak, .ref ad, .int 0, .int 0, .long 0])), (au, .inr (10, [.ref t1, .ref t2, .ref t3, .ref t4, .ref t5, .ref t6, .ref t7, .int 0, .int 0])), (t1, .inl (cI, 4, .inl (cn 0))), (t2, .inl (cI, 4, .inl (cn 10))), (t3, .inl (cI, 4, .inl (cn 10))), (t4, .inl (cI, 4, .inl (cn (-1)))), (t5, .inl (cI, 4, .inl (cn 0))), (t6, .inl (cI, 4, .inl (cn 0))), (t7, .inl (cI, 4, .inl (cn 110))), (ou, .inl (cL, 1, .inr (.inl fo)))] sz)) (vx_X (fun (_ : Unit) => False) (fun (_ : String) (_ : Unit) (_ : State) => True) (va_A [(xt, .inr (12, [.ref ah, .ref xe, .ref xf])), (ah, .inr (4, [.ref ac, .ref au, .ref ab, .ref an, .ref ak, .ref ad, .int 0, .int 0, .long 0])), (au, .inr (10, [.ref t1, .ref t2, .ref t3, .ref t4, .ref t5, .ref t6, .ref t7, .int 0, .int 0])), (t1, .inl (cI, 4, .inl (cn 0))), (t2, .inl (cI, 4, .inl (cn 10))), (t3, .inl (cI, 4, .inl (cn 10))), (t4, .inl (cI, 4, .inl (cn (-1)))), (t5, .inl (cI, 4, .inl (cn 0))), (t6, .inl (cI, 4, .inl (cn 0))), (t7, .inl (cI, 4, .inl (cn 110))), (ou, .inl (cL, 1, .inr (.inl fo)))] sz)) 1 6 (va_A [(xt, .inr (12, [.ref ah, .ref xe, .ref xf])), (ah, .inr (4, [.ref ac, .ref au, .ref ab, .ref an, .ref ak, .ref ad, .int 0, .int 0, .long 0])), (au, .inr (10, [.ref t1, .ref t2, .ref t3, .ref t4, .ref t5, .ref t6, .ref t7, .int 0, .int 0])), (t1, .inl (cI, 4, .inl (cn 0))), (t2, .inl (cI, 4, .inl (cn 10))), (t3, .inl (cI, 4, .inl (cn 10))), (t4, .inl (cI, 4, .inl (cn (-1)))), (t5, .inl (cI, 4, .inl (cn 0))), (t6, .inl (cI, 4, .inl (cn 0))), (t7, .inl (cI, 4, .inl (cn 110))), (ou, .inl (cL, 1, .inr (.inl fo)))] sz) := by
  refine vx_ofWH (cc := cL_link) (maxL := 5) (ret := (some .int)) (hh := [(0, 10, 13, 13), (0, 10, 17, 15)]) (by decide) rfl ?_
  intro p e s m args below meth c s₁ B hml hv
  obtain ⟨rfl, hsz, hP, hK, hD0, hG⟩ := hv
  have hx := B.exec
  have hb := B.bytes
  have hr := B.returns
  have hts := atoms_spec (ws := wsL_link) B.pre
  have hown : s.vm.findClass RL = some m.cls := findClass_of_methodNamed B.named
  have hlocks := B.notSynchronized
  have htab : c.exceptionTable.toList = tableOf [(0, 10, 13, 13), (0, 10, 17, 15)] := vx_table (x := yL_link) B (hts _ List.mem_cons_self)
  subst hsz
  have hD := hD0.self (sz := s.heap.size)
  generalize hAe : va_A [(xt, .inr (12, [.ref ah, .ref xe, .ref xf])), (ah, .inr (4, [.ref ac, .ref au, .ref ab, .ref an, .ref ak, .ref ad, .int 0, .int 0, .long 0])), (au, .inr (10, [.ref t1, .ref t2, .ref t3, .ref t4, .ref t5, .ref t6, .ref t7, .int 0, .int 0])), (t1, .inl (cI, 4, .inl (cn 0))), (t2, .inl (cI, 4, .inl (cn 10))), (t3, .inl (cI, 4, .inl (cn 10))), (t4, .inl (cI, 4, .inl (cn (-1)))), (t5, .inl (cI, 4, .inl (cn 0))), (t6, .inl (cI, 4, .inl (cn 0))), (t7, .inl (cI, 4, .inl (cn 110))), (ou, .inl (cL, 1, .inr (.inl fo)))] s.heap.size = A at hD hG ⊢
  have hN := hG.1
  have hA : ∀ q : Nat, s.heap.size ≤ q → A q := fun q h => by rw [← hAe]; exact Or.inr h
  have hS : va_S A s.heap s.heap [] := va_S.rf
  have hP : va_P (dC, dI) vwCl [(xt, .inr (12, [.ref ah, .ref xe, .ref xf])), (ah, .inr (4, [.ref ac, .ref au, .ref ab, .ref an, .ref ak, .ref ad, .int 0, .int 0, .long 0])), (au, .inr (10, [.ref t1, .ref t2, .ref t3, .ref t4, .ref t5, .ref t6, .ref t7, .int 0, .int 0])), (t1, .inl (cI, 4, .inl (cn 0))), (t2, .inl (cI, 4, .inl (cn 10))), (t3, .inl (cI, 4, .inl (cn 10))), (t4, .inl (cI, 4, .inl (cn (-1)))), (t5, .inl (cI, 4, .inl (cn 0))), (t6, .inl (cI, 4, .inl (cn 0))), (t7, .inl (cI, 4, .inl (cn 110))), (ou, .inl (cL, 1, .inr (.inl fo)))] s.heap := hP
  have hw0 : (Cond.classLink RL 13 "java/lang/IndexOutOfBoundsException").before _ s = true := hts _ (List.mem_cons_of_mem _ (List.mem_append_left _ (List.mem_append_left _ (List.mem_append_left _ (List.mem_append_left _ (List.mem_append_left _ (List.mem_append_left _ (List.mem_of_getElem? (i := 0) rfl))))))))
  have hw1 : (Cond.classLink RL 15 "java/lang/IllegalArgumentException").before _ s = true := hts _ (List.mem_cons_of_mem _ (List.mem_append_left _ (List.mem_append_left _ (List.mem_append_left _ (List.mem_append_left _ (List.mem_append_left _ (List.mem_append_left _ (List.mem_of_getElem? (i := 1) rfl))))))))
  have hl := lv_entry ([.ref xt, .int v1, .int v2, .ref ou]) (n := 5) (Nat.le_of_ble_eq_true rfl)
  rw [lg_entry_eq]
  generalize (lg_sl ([.ref xt, .int v1, .int v2, .ref ou]) ++ List.replicate (5 - (lg_sl ([.ref xt, .int v1, .int v2, .ref ou])).length) Slot.unset).toArray = ls at hl ⊢
  have hl : lv_has ls 5 [(0, .ref xt), (1, .int v1), (2, .int v2), (3, .ref ou)] := hl
  refine lv_aload_n hx hb dL_link_0 rfl (lv_at hl 3 rfl) ?_
  refine lv_iconst (v := 0) hx hb dL_link_1 (by decide) ?_
  refine lv_aload_n hx hb dL_link_2 rfl (lv_at hl 0 rfl) ?_
  refine lv_iload_n hx hb dL_link_3 rfl (lv_at hl 1 rfl) ?_
  refine lv_iload_n hx hb dL_link_4 rfl (lv_at hl 2 rfl) ?_
  have hPc := hP.sub (ws' := [(xt, .inr (12, [.ref ah, .ref xe, .ref xf])), (ah, .inr (4, [.ref ac, .ref au, .ref ab, .ref an, .ref ak, .ref ad, .int 0, .int 0, .long 0])), (au, .inr (10, [.ref t1, .ref t2, .ref t3, .ref t4, .ref t5, .ref t6, .ref t7, .int 0, .int 0])), (t1, .inl (cI, 4, .inl (cn 0))), (t2, .inl (cI, 4, .inl (cn 10))), (t3, .inl (cI, 4, .inl (cn 10))), (t4, .inl (cI, 4, .inl (cn (-1)))), (t5, .inl (cI, 4, .inl (cn 0))), (t6, .inl (cI, 4, .inl (cn 0))), (t7, .inl (cI, 4, .inl (cn 110)))]) [0, 1, 2, 3, 4, 5, 6, 7, 8, 9] rfl
  have hDc := hD.sub (ws' := [(xt, .inr (12, [.ref ah, .ref xe, .ref xf])), (ah, .inr (4, [.ref ac, .ref au, .ref ab, .ref an, .ref ak, .ref ad, .int 0, .int 0, .long 0])), (au, .inr (10, [.ref t1, .ref t2, .ref t3, .ref t4, .ref t5, .ref t6, .ref t7, .int 0, .int 0])), (t1, .inl (cI, 4, .inl (cn 0))), (t2, .inl (cI, 4, .inl (cn 10))), (t3, .inl (cI, 4, .inl (cn 10))), (t4, .inl (cI, 4, .inl (cn (-1)))), (t5, .inl (cI, 4, .inl (cn 0))), (t6, .inl (cI, 4, .inl (cn 0))), (t7, .inl (cI, 4, .inl (cn 110)))]) [0, 1, 2, 3, 4, 5, 6, 7, 8, 9] (by decide) rfl
  have hKc := hK.sub (tys' := [(cI, .int)]) [0] rfl
  have hFc := va_free (wc := [(xt, .inr (12, [.ref ah, .ref xe, .ref xf])), (ah, .inr (4, [.ref ac, .ref au, .ref ab, .ref an, .ref ak, .ref ad, .int 0, .int 0, .long 0])), (au, .inr (10, [.ref t1, .ref t2, .ref t3, .ref t4, .ref t5, .ref t6, .ref t7, .int 0, .int 0])), (t1, .inl (cI, 4, .inl (cn 0))), (t2, .inl (cI, 4, .inl (cn 10))), (t3, .inl (cI, 4, .inl (cn 10))), (t4, .inl (cI, 4, .inl (cn (-1)))), (t5, .inl (cI, 4, .inl (cn 0))), (t6, .inl (cI, 4, .inl (cn 0))), (t7, .inl (cI, 4, .inl (cn 110)))]) hD hS hA [0, 1, 2, 3, 4, 5, 6, 7, 8, 9] rfl
  refine vx_calli (vx_runV (As := [.int v1, .int v2]) (rest := [.int 0, .ref ou]) ⟨hx, hb, hml, hown, hts⟩ (c_X8_link l hl9 dC dI g xt xe xf ah ac au t1 t2 t3 t4 t5 t6 t7 ab an ak ad cI v1 v2 s.heap.size) (cwV 2 hts gL_link_X8_link rfl rfl rfl (by decide +kernel) ⟨Nat.le_of_ble_eq_true rfl, Nat.le_of_ble_eq_true rfl⟩) ⟨wIn_blind, va_recv hK hP (ci := 12) (q0 := 0) rfl rfl, wIn_at hPc hKc hDc hG hS hFc⟩ rfl rfl hl.1 rfl (lv_room (Nat.le_of_ble_eq_true rfl)) dL_link_5 ⟨Nat.le_of_ble_eq_true rfl, Nat.le_of_ble_eq_true rfl⟩) hS (fun q _ h => hFc q h) hFc (fun q _ h => hFc q h) (fun E9 ce9 q_2 u9 t H1 locs ht hvm hx9 hB9 hz1 hk1 hS hce hcv hcl => ?_) (fun r_1 u t H1 locs ht hvm hw hB hz1 hk1 hS => ?_)
  · rcases hB9 with ⟨rfl, hs9⟩ | ⟨rfl, hs9⟩
    · refine vx_catch (E := "java/lang/IndexOutOfBoundsException") (name := "java/lang/IndexOutOfBoundsException") hown [] ⟨0, 10, 13, 13⟩ [⟨0, 10, 17, 15⟩] (htab.trans rfl) (fun z hz => nomatch hz) (by decide) (by decide) hw0 (nw_use hN _ (List.mem_of_getElem? (i := 55) rfl)) hce hcv hcl ?_
      obtain ⟨hP, hD⟩ := va_join (wr := [(ou, .inl (cL, 1, .inr (.inl fo)))]) (w1 := []) hP hD [0, 1, 2, 3, 4, 5, 6, 7, 8, 9] [10] rfl rfl (by decide) (by decide) hk1 hFc vaP0 vaD0
      generalize H1 = H at hP hS ⊢
      have hP : va_P (dC, dI) vwCl [(ou, .inl (cL, 1, .inr (.inl fo)))] H := hP
      have hD : va_D A [(ou, .inl (cL, 1, .inr (.inl fo)))] := hD
      refine W.widen (k := 1) (n := 6) (Nat.le_of_ble_eq_true rfl) (Nat.le_of_ble_eq_true rfl) ?_
      refine lv_astore (lv' := [(4, .ref q_2), (0, .ref xt), (1, .int v1), (2, .int v2), (3, .ref ou)]) hx hb dL_link_13 hl (by decide) rfl (fun ls hl => ?_)
      refine lv_iconst (v := 1) hx hb dL_link_15 (by decide) ?_
      have hP9 := hP.sub (ws' := [(ou, .inl (cL, 1, .inr (.inl fo)))]) [0] rfl
      have hD9 := hD.sub (ws' := [(ou, .inl (cL, 1, .inr (.inl fo)))]) [0] (by decide) rfl
      have hK9 := hK.sub (tys' := [(cI, .int), (cL, .long)]) [0, 1] rfl
      refine vx_ret ?_
      exact W.iret (v := 1) hx hb hr (fun t ht hW => ⟨⟨1, (fo), rfl, ⟨hs9.symm, (fun h9 => absurd (hs9.symm.trans h9) (by decide))⟩, wOut_at ht hW hP9 hK9 hD9⟩, hS.F ht⟩) hS.2.2 dL_link_16
    · refine vx_catch (E := "java/lang/IllegalArgumentException") (name := "java/lang/IllegalArgumentException") hown [⟨0, 10, 13, 13⟩] ⟨0, 10, 17, 15⟩ [] (htab.trans rfl) (List.forall_mem_cons.2 ⟨Or.inr ⟨by decide, "java/lang/IndexOutOfBoundsException", hw0, (hG.2.2.2.2.2.2.2.2.2.2.1 _ (List.mem_of_getElem? (i := 3) rfl))⟩, (fun z hz => nomatch hz)⟩) (by decide) (by decide) hw1 (nw_use hN _ (List.mem_of_getElem? (i := 54) rfl)) hce hcv hcl ?_
      obtain ⟨hP, hD⟩ := va_join (wr := [(ou, .inl (cL, 1, .inr (.inl fo)))]) (w1 := []) hP hD [0, 1, 2, 3, 4, 5, 6, 7, 8, 9] [10] rfl rfl (by decide) (by decide) hk1 hFc vaP0 vaD0
      generalize H1 = H at hP hS ⊢
      have hP : va_P (dC, dI) vwCl [(ou, .inl (cL, 1, .inr (.inl fo)))] H := hP
      have hD : va_D A [(ou, .inl (cL, 1, .inr (.inl fo)))] := hD
      refine W.widen (k := 1) (n := 6) (Nat.le_of_ble_eq_true rfl) (Nat.le_of_ble_eq_true rfl) ?_
      refine lv_astore (lv' := [(4, .ref q_2), (0, .ref xt), (1, .int v1), (2, .int v2), (3, .ref ou)]) hx hb dL_link_17 hl (by decide) rfl (fun ls hl => ?_)
      refine lv_iconst (v := 2) hx hb dL_link_19 (by decide) ?_
      have hP9 := hP.sub (ws' := [(ou, .inl (cL, 1, .inr (.inl fo)))]) [0] rfl
      have hD9 := hD.sub (ws' := [(ou, .inl (cL, 1, .inr (.inl fo)))]) [0] (by decide) rfl
      have hK9 := hK.sub (tys' := [(cI, .int), (cL, .long)]) [0, 1] rfl
      refine vx_ret ?_
      exact W.iret (v := 2) hx hb hr (fun t ht hW => ⟨⟨2, (fo), rfl, ⟨hs9.symm, (fun h9 => absurd (hs9.symm.trans h9) (by decide))⟩, wOut_at ht hW hP9 hK9 hD9⟩, hS.F ht⟩) hS.2.2 dL_link_20
  · obtain ⟨hP1, hK1, hD1⟩ := hB
    rw [ht] at hP1
    obtain ⟨hP, hD⟩ := va_join (wr := [(ou, .inl (cL, 1, .inr (.inl fo)))]) (w1 := []) hP hD [0, 1, 2, 3, 4, 5, 6, 7, 8, 9] [10] rfl rfl (by decide) (by decide) hk1 hFc hP1 hD1
    generalize H1 = H at hP hS ⊢
    have hP : va_P (dC, dI) vwCl [(ou, .inl (cL, 1, .inr (.inl fo)))] H := hP
    have hD : va_D A [(ou, .inl (cL, 1, .inr (.inl fo)))] := hD
    refine lt_ci (y := (-1)) hw.1 ?_
    have hs9 := hw.2
    refine W.widen (k := 1) (n := 6) (Nat.le_of_ble_eq_true rfl) (Nat.le_of_ble_eq_true rfl) ?_
    refine lv_i2l (v := (-1)) hx hb dL_link_8 (by first | rfl | decide) ?_
    refine va_last (D := (dC, dI)) hx hb hK hP hD hS 0 1 rfl rfl (by unfold vp_in; decide) dL_link_9 (fun H locs hP hD hS => ?_)
    have hP : va_P (dC, dI) vwCl [(ou, .inl (cL, 1, .inr (.inl (vp_updL fo 0 (-1)))))] H := hP
    have hD : va_D A [(ou, .inl (cL, 1, .inr (.inl (vp_updL fo 0 (-1)))))] := hD
    refine lv_goto (tgt := 21) hx hb dL_link_10 (by decide) ?_
    refine lv_iconst (v := 0) hx hb dL_link_21 (by decide) ?_
    have hP9 := hP.sub (ws' := [(ou, .inl (cL, 1, .inr (.inl (vp_updL fo 0 (-1)))))]) [0] rfl
    have hD9 := hD.sub (ws' := [(ou, .inl (cL, 1, .inr (.inl (vp_updL fo 0 (-1)))))]) [0] (by decide) rfl
    have hK9 := hK.sub (tys' := [(cI, .int), (cL, .long)]) [0, 1] rfl
    refine vx_ret ?_
    exact W.iret (v := 0) hx hb hr (fun t ht hW => ⟨⟨0, (vp_updL fo 0 (-1)), rfl, ⟨hs9.symm, (fun _ => rfl)⟩, wOut_at ht hW hP9 hK9 hD9⟩, hS.F ht⟩) hS.2.2 dL_link_22
set_option maxHeartbeats 4000000 in
set_option maxRecDepth 100000 in
theorem c_L_start (l : Launch) (hl9 : l.stackTraces = false) (dC : Nat → ClassId) (dI : Nat → Nat → Nat) (g : Nat × Nat × Nat) (xt : Nat) (xe : Nat) (xf : Nat) (ah : Nat) (ac : Nat) (au : Nat) (t1 : Nat) (t2 : Nat) (t3 : Nat) (t4 : Nat) (t5 : Nat) (t6 : Nat) (t7 : Nat) (ab : Nat) (an : Nat) (ak : Nat) (ad : Nat) (cI : ClassId) (v1 : Int32) (v2 : Int32) (fo : Nat → Int64) (ou : Nat) (cL : ClassId) (sz : Nat) : vx_Met l yL_start wsL_start ({ frames := 7, cells := 1, slots := 6, locals := 123 } : Room) (va_Pc [.ref xt, .int v1, .int v2, .ref ou] (wIn dC dI g [(xt, .inr (12, [.ref ah, .ref xe, .ref xf])), (ah, .inr (4, [.ref ac, .ref au, .ref ab, .ref an, .ref ak, .ref ad, .int 0, .int 0, .long 0])), (au, .inr (10, [.ref t1, .ref t2, .ref t3, .ref t4, .ref t5, .ref t6, .ref t7, .int 0, .int 0])), (t1, .inl (cI, 4, .inl (cn 0))), (t2, .inl (cI, 4, .inl (cn 10))), (t3, .inl (cI, 4, .inl (cn 10))), (t4, .inl (cI, 4, .inl (cn (-1)))), (t5, .inl (cI, 4, .inl (cn 0))), (t6, .inl (cI, 4, .inl (cn 0))), (t7, .inl (cI, 4, .inl (cn 110))), (ou, .inl (cL, 1, .inr (.inl fo)))] [(cI, .int), (cL, .long)] sz)) (va_Qi (fun (r : Int32) (u : Nat → Int64) => r = sp_X8_start v1 ∧ (sp_X8_start v1 = 0 → u 0 = 0)) (fun (u : Nat → Int64) (t : State) => wOut dC dI [(ou, .inl (cL, 1, .inr (.inl u)))] [(cI, .int), (cL, .long)] (va_A [(xt, .inr (12, [.ref ah, .ref xe, .ref xf])), (ah, .inr (4, [.ref ac, .ref au, .ref ab, .ref an, .ref ak, .ref ad, .int 0, .int 0, .long 0])), (au, .inr (10, [.ref t1, .ref t2, .ref t3, .ref t4, .ref t5, .ref t6, .ref t7, .int 0, .int 0])), (t1, .inl (cI, 4, .inl (cn 0))), (t2, .inl (cI, 4, .inl (cn 10))), (t3, .inl (cI, 4, .inl (cn 10))), (t4, .inl (cI, 4, .inl (cn (-1)))), (t5, .inl (cI, 4, .inl (cn 0))), (t6, .inl (cI, 4, .inl (cn 0))), (t7, .inl (cI, 4, .inl (cn 110))), (ou, .inl (cL, 1, .inr (.inl fo)))] sz) t) (va_A [(xt, .inr (12, [.ref ah, .ref xe, .ref xf])), (ah, .inr (4, [.ref ac, .ref au, .ref ab, .ref an, .ref ak, .ref ad, .int 0, .int 0, .long 0])), (au, .inr (10, [.ref t1, .ref t2, .ref t3, .ref t4, .ref t5, .ref t6, .ref t7, .int 0, .int 0])), (t1, .inl (cI, 4, .inl (cn 0))), (t2, .inl (cI, 4, .inl (cn 10))), (t3, .inl (cI, 4, .inl (cn 10))), (t4, .inl (cI, 4, .inl (cn (-1)))), (t5, .inl (cI, 4, .inl (cn 0))), (t6, .inl (cI, 4, .inl (cn 0))), (t7, .inl (cI, 4, .inl (cn 110))), (ou, .inl (cL, 1, .inr (.inl fo)))] sz)) (vx_X (fun (_ : Unit) => False) (fun (_ : String) (_ : Unit) (_ : State) => True) (va_A [(xt, .inr (12, [.ref ah, .ref xe, .ref xf])), (ah, .inr (4, [.ref ac, .ref au, .ref ab, .ref an, .ref ak, .ref ad, .int 0, .int 0, .long 0])), (au, .inr (10, [.ref t1, .ref t2, .ref t3, .ref t4, .ref t5, .ref t6, .ref t7, .int 0, .int 0])), (t1, .inl (cI, 4, .inl (cn 0))), (t2, .inl (cI, 4, .inl (cn 10))), (t3, .inl (cI, 4, .inl (cn 10))), (t4, .inl (cI, 4, .inl (cn (-1)))), (t5, .inl (cI, 4, .inl (cn 0))), (t6, .inl (cI, 4, .inl (cn 0))), (t7, .inl (cI, 4, .inl (cn 110))), (ou, .inl (cL, 1, .inr (.inl fo)))] sz)) 1 6 (va_A [(xt, .inr (12, [.ref ah, .ref xe, .ref xf])), (ah, .inr (4, [.ref ac, .ref au, .ref ab, .ref an, .ref ak, .ref ad, .int 0, .int 0, .long 0])), (au, .inr (10, [.ref t1, .ref t2, .ref t3, .ref t4, .ref t5, .ref t6, .ref t7, .int 0, .int 0])), (t1, .inl (cI, 4, .inl (cn 0))), (t2, .inl (cI, 4, .inl (cn 10))), (t3, .inl (cI, 4, .inl (cn 10))), (t4, .inl (cI, 4, .inl (cn (-1)))), (t5, .inl (cI, 4, .inl (cn 0))), (t6, .inl (cI, 4, .inl (cn 0))), (t7, .inl (cI, 4, .inl (cn 110))), (ou, .inl (cL, 1, .inr (.inl fo)))] sz) := by
  refine vx_ofWH (cc := cL_start) (maxL := 5) (ret := (some .int)) (hh := [(0, 17, 20, 13)]) (by decide) rfl ?_
  intro p e s m args below meth c s₁ B hml hv
  obtain ⟨rfl, hsz, hP, hK, hD0, hG⟩ := hv
  have hx := B.exec
  have hb := B.bytes
  have hr := B.returns
  have hts := atoms_spec (ws := wsL_start) B.pre
  have hown : s.vm.findClass RL = some m.cls := findClass_of_methodNamed B.named
  have hlocks := B.notSynchronized
  have htab : c.exceptionTable.toList = tableOf [(0, 17, 20, 13)] := vx_table (x := yL_start) B (hts _ List.mem_cons_self)
  subst hsz
  have hD := hD0.self (sz := s.heap.size)
  generalize hAe : va_A [(xt, .inr (12, [.ref ah, .ref xe, .ref xf])), (ah, .inr (4, [.ref ac, .ref au, .ref ab, .ref an, .ref ak, .ref ad, .int 0, .int 0, .long 0])), (au, .inr (10, [.ref t1, .ref t2, .ref t3, .ref t4, .ref t5, .ref t6, .ref t7, .int 0, .int 0])), (t1, .inl (cI, 4, .inl (cn 0))), (t2, .inl (cI, 4, .inl (cn 10))), (t3, .inl (cI, 4, .inl (cn 10))), (t4, .inl (cI, 4, .inl (cn (-1)))), (t5, .inl (cI, 4, .inl (cn 0))), (t6, .inl (cI, 4, .inl (cn 0))), (t7, .inl (cI, 4, .inl (cn 110))), (ou, .inl (cL, 1, .inr (.inl fo)))] s.heap.size = A at hD hG ⊢
  have hN := hG.1
  have hA : ∀ q : Nat, s.heap.size ≤ q → A q := fun q h => by rw [← hAe]; exact Or.inr h
  have hS : va_S A s.heap s.heap [] := va_S.rf
  have hP : va_P (dC, dI) vwCl [(xt, .inr (12, [.ref ah, .ref xe, .ref xf])), (ah, .inr (4, [.ref ac, .ref au, .ref ab, .ref an, .ref ak, .ref ad, .int 0, .int 0, .long 0])), (au, .inr (10, [.ref t1, .ref t2, .ref t3, .ref t4, .ref t5, .ref t6, .ref t7, .int 0, .int 0])), (t1, .inl (cI, 4, .inl (cn 0))), (t2, .inl (cI, 4, .inl (cn 10))), (t3, .inl (cI, 4, .inl (cn 10))), (t4, .inl (cI, 4, .inl (cn (-1)))), (t5, .inl (cI, 4, .inl (cn 0))), (t6, .inl (cI, 4, .inl (cn 0))), (t7, .inl (cI, 4, .inl (cn 110))), (ou, .inl (cL, 1, .inr (.inl fo)))] s.heap := hP
  have hw0 : (Cond.classLink RL 13 "java/lang/IndexOutOfBoundsException").before _ s = true := hts _ (List.mem_cons_of_mem _ (List.mem_append_left _ (List.mem_append_left _ (List.mem_append_left _ (List.mem_append_left _ (List.mem_append_left _ (List.mem_of_getElem? (i := 0) rfl)))))))
  have hl := lv_entry ([.ref xt, .int v1, .int v2, .ref ou]) (n := 5) (Nat.le_of_ble_eq_true rfl)
  rw [lg_entry_eq]
  generalize (lg_sl ([.ref xt, .int v1, .int v2, .ref ou]) ++ List.replicate (5 - (lg_sl ([.ref xt, .int v1, .int v2, .ref ou])).length) Slot.unset).toArray = ls at hl ⊢
  have hl : lv_has ls 5 [(0, .ref xt), (1, .int v1), (2, .int v2), (3, .ref ou)] := hl
  refine lv_aload_n hx hb dL_start_0 rfl (lv_at hl 3 rfl) ?_
  refine lv_iconst (v := 0) hx hb dL_start_1 (by decide) ?_
  refine lv_aload_n hx hb dL_start_2 rfl (lv_at hl 0 rfl) ?_
  refine lv_iload_n hx hb dL_start_3 rfl (lv_at hl 1 rfl) ?_
  refine lv_iload_n hx hb dL_start_4 rfl (lv_at hl 2 rfl) ?_
  have hPc := hP.sub (ws' := [(xt, .inr (12, [.ref ah, .ref xe, .ref xf])), (ah, .inr (4, [.ref ac, .ref au, .ref ab, .ref an, .ref ak, .ref ad, .int 0, .int 0, .long 0])), (au, .inr (10, [.ref t1, .ref t2, .ref t3, .ref t4, .ref t5, .ref t6, .ref t7, .int 0, .int 0])), (t1, .inl (cI, 4, .inl (cn 0))), (t2, .inl (cI, 4, .inl (cn 10))), (t3, .inl (cI, 4, .inl (cn 10))), (t4, .inl (cI, 4, .inl (cn (-1)))), (t5, .inl (cI, 4, .inl (cn 0))), (t6, .inl (cI, 4, .inl (cn 0))), (t7, .inl (cI, 4, .inl (cn 110)))]) [0, 1, 2, 3, 4, 5, 6, 7, 8, 9] rfl
  have hDc := hD.sub (ws' := [(xt, .inr (12, [.ref ah, .ref xe, .ref xf])), (ah, .inr (4, [.ref ac, .ref au, .ref ab, .ref an, .ref ak, .ref ad, .int 0, .int 0, .long 0])), (au, .inr (10, [.ref t1, .ref t2, .ref t3, .ref t4, .ref t5, .ref t6, .ref t7, .int 0, .int 0])), (t1, .inl (cI, 4, .inl (cn 0))), (t2, .inl (cI, 4, .inl (cn 10))), (t3, .inl (cI, 4, .inl (cn 10))), (t4, .inl (cI, 4, .inl (cn (-1)))), (t5, .inl (cI, 4, .inl (cn 0))), (t6, .inl (cI, 4, .inl (cn 0))), (t7, .inl (cI, 4, .inl (cn 110)))]) [0, 1, 2, 3, 4, 5, 6, 7, 8, 9] (by decide) rfl
  have hKc := hK.sub (tys' := [(cI, .int)]) [0] rfl
  have hFc := va_free (wc := [(xt, .inr (12, [.ref ah, .ref xe, .ref xf])), (ah, .inr (4, [.ref ac, .ref au, .ref ab, .ref an, .ref ak, .ref ad, .int 0, .int 0, .long 0])), (au, .inr (10, [.ref t1, .ref t2, .ref t3, .ref t4, .ref t5, .ref t6, .ref t7, .int 0, .int 0])), (t1, .inl (cI, 4, .inl (cn 0))), (t2, .inl (cI, 4, .inl (cn 10))), (t3, .inl (cI, 4, .inl (cn 10))), (t4, .inl (cI, 4, .inl (cn (-1)))), (t5, .inl (cI, 4, .inl (cn 0))), (t6, .inl (cI, 4, .inl (cn 0))), (t7, .inl (cI, 4, .inl (cn 110)))]) hD hS hA [0, 1, 2, 3, 4, 5, 6, 7, 8, 9] rfl
  refine vx_calli (vx_runV (As := [.int v1, .int v2]) (rest := [.int 0, .ref ou]) ⟨hx, hb, hml, hown, hts⟩ (c_X8_start l hl9 dC dI g xt xe xf ah ac au t1 t2 t3 t4 t5 t6 t7 ab an ak ad cI v1 v2 s.heap.size) (cwV 2 hts gL_start_X8_start rfl rfl rfl (by decide +kernel) ⟨Nat.le_of_ble_eq_true rfl, Nat.le_of_ble_eq_true rfl⟩) ⟨wIn_blind, va_recv hK hP (ci := 12) (q0 := 0) rfl rfl, wIn_at hPc hKc hDc hG hS hFc⟩ rfl rfl hl.1 rfl (lv_room (Nat.le_of_ble_eq_true rfl)) dL_start_5 ⟨Nat.le_of_ble_eq_true rfl, Nat.le_of_ble_eq_true rfl⟩) hS (fun q _ h => hFc q h) hFc (fun q _ h => hFc q h) (fun E9 ce9 q_2 u9 t H1 locs ht hvm hx9 hB9 hz1 hk1 hS hce hcv hcl => ?_) (fun r_1 u t H1 locs ht hvm hw hB hz1 hk1 hS => ?_)
  · obtain ⟨rfl, hs9⟩ := hB9
    refine vx_catch (E := "java/lang/IndexOutOfBoundsException") (name := "java/lang/IndexOutOfBoundsException") hown [] ⟨0, 17, 20, 13⟩ [] (htab.trans rfl) (fun z hz => nomatch hz) (by decide) (by decide) hw0 (nw_use hN _ (List.mem_of_getElem? (i := 55) rfl)) hce hcv hcl ?_
    obtain ⟨hP, hD⟩ := va_join (wr := [(ou, .inl (cL, 1, .inr (.inl fo)))]) (w1 := []) hP hD [0, 1, 2, 3, 4, 5, 6, 7, 8, 9] [10] rfl rfl (by decide) (by decide) hk1 hFc vaP0 vaD0
    generalize H1 = H at hP hS ⊢
    have hP : va_P (dC, dI) vwCl [(ou, .inl (cL, 1, .inr (.inl fo)))] H := hP
    have hD : va_D A [(ou, .inl (cL, 1, .inr (.inl fo)))] := hD
    refine W.widen (k := 1) (n := 6) (Nat.le_of_ble_eq_true rfl) (Nat.le_of_ble_eq_true rfl) ?_
    refine lv_astore (lv' := [(4, .ref q_2), (0, .ref xt), (1, .int v1), (2, .int v2), (3, .ref ou)]) hx hb dL_start_20 hl (by decide) rfl (fun ls hl => ?_)
    refine lv_iconst (v := 1) hx hb dL_start_22 (by decide) ?_
    have hP9 := hP.sub (ws' := [(ou, .inl (cL, 1, .inr (.inl fo)))]) [0] rfl
    have hD9 := hD.sub (ws' := [(ou, .inl (cL, 1, .inr (.inl fo)))]) [0] (by decide) rfl
    have hK9 := hK.sub (tys' := [(cI, .int), (cL, .long)]) [0, 1] rfl
    refine vx_ret ?_
    exact W.iret (v := 1) hx hb hr (fun t ht hW => ⟨⟨1, (fo), rfl, ⟨hs9.symm, (fun h9 => absurd (hs9.symm.trans h9) (by decide))⟩, wOut_at ht hW hP9 hK9 hD9⟩, hS.F ht⟩) hS.2.2 dL_start_23
  · obtain ⟨hP1, hK1, hD1⟩ := hB
    rw [ht] at hP1
    obtain ⟨hP, hD⟩ := va_join (wr := [(ou, .inl (cL, 1, .inr (.inl fo)))]) (w1 := []) hP hD [0, 1, 2, 3, 4, 5, 6, 7, 8, 9] [10] rfl rfl (by decide) (by decide) hk1 hFc hP1 hD1
    generalize H1 = H at hP hS ⊢
    have hP : va_P (dC, dI) vwCl [(ou, .inl (cL, 1, .inr (.inl fo)))] H := hP
    have hD : va_D A [(ou, .inl (cL, 1, .inr (.inl fo)))] := hD
    refine lt_ci (y := 0) hw.1 ?_
    have hs9 := hw.2
    refine W.widen (k := 1) (n := 6) (Nat.le_of_ble_eq_true rfl) (Nat.le_of_ble_eq_true rfl) ?_
    refine lv_if_eq (tgt := 15) hx hb dL_start_8 (by decide) (fun _ => ?_) (fun c => absurd (by decide) c)
    refine lv_lconst (v := 0) hx hb dL_start_15 rfl ?_
    refine va_last (D := (dC, dI)) hx hb hK hP hD hS 0 1 rfl rfl (by unfold vp_in; decide) dL_start_16 (fun H locs hP hD hS => ?_)
    have hP : va_P (dC, dI) vwCl [(ou, .inl (cL, 1, .inr (.inl (vp_updL fo 0 0))))] H := hP
    have hD : va_D A [(ou, .inl (cL, 1, .inr (.inl (vp_updL fo 0 0))))] := hD
    refine lv_goto (tgt := 24) hx hb dL_start_17 (by decide) ?_
    refine lv_iconst (v := 0) hx hb dL_start_24 (by decide) ?_
    have hP9 := hP.sub (ws' := [(ou, .inl (cL, 1, .inr (.inl (vp_updL fo 0 0))))]) [0] rfl
    have hD9 := hD.sub (ws' := [(ou, .inl (cL, 1, .inr (.inl (vp_updL fo 0 0))))]) [0] (by decide) rfl
    have hK9 := hK.sub (tys' := [(cI, .int), (cL, .long)]) [0, 1] rfl
    refine vx_ret ?_
    exact W.iret (v := 0) hx hb hr (fun t ht hW => ⟨⟨0, (vp_updL fo 0 0), rfl, ⟨hs9.symm, (fun _ => rfl)⟩, wOut_at ht hW hP9 hK9 hD9⟩, hS.F ht⟩) hS.2.2 dL_start_25
set_option maxHeartbeats 4000000 in
set_option maxRecDepth 100000 in
theorem c_L_setLine (l : Launch) (hl9 : l.stackTraces = false) (dC : Nat → ClassId) (dI : Nat → Nat → Nat) (g : Nat × Nat × Nat) (xt : Nat) (xe : Nat) (xf : Nat) (ah : Nat) (ac : Nat) (au : Nat) (ab : Nat) (an : Nat) (n1 : Nat) (n2 : Nat) (n3 : Nat) (n4 : Nat) (n5 : Nat) (ak : Nat) (ad : Nat) (cI : ClassId) (v1 : Int32) (v2 : Int32) (v3 : Int32) (fo : Nat → Int64) (ou : Nat) (cL : ClassId) (sz : Nat) : vx_Met l yL_setLine wsL_setLine ({ frames := 7, cells := 1, slots := 6, locals := 125 } : Room) (va_Pc [.ref xt, .int v1, .int v2, .int v3, .ref ou] (wIn dC dI g [(xt, .inr (12, [.ref ah, .ref xe, .ref xf])), (ah, .inr (4, [.ref ac, .ref au, .ref ab, .ref an, .ref ak, .ref ad, .int 0, .int 0, .long 0])), (an, .inr (6, [.ref n1, .ref n2, .ref n3, .ref n4, .ref n5, .int 0, .int 0])), (n1, .inl (cI, 8, .inl (cn 7))), (n2, .inl (cI, 8, .inl (cn 1))), (n3, .inl (cI, 8, .inl (cn 110))), (n4, .inl (cI, 8, .inl (cn 0))), (n5, .inl (cI, 8, .inl (cn 0))), (ou, .inl (cL, 1, .inr (.inl fo)))] [(cI, .int), (cL, .long)] sz)) (va_Qi (fun (r : Int32) (u : Nat → Int64) => r = sp_X8_setLine v1 v2 ∧ (sp_X8_setLine v1 v2 = 0 → u 0 = 7)) (fun (u : Nat → Int64) (t : State) => wOut dC dI [(ou, .inl (cL, 1, .inr (.inl u)))] [(cI, .int), (cL, .long)] (va_A [(xt, .inr (12, [.ref ah, .ref xe, .ref xf])), (ah, .inr (4, [.ref ac, .ref au, .ref ab, .ref an, .ref ak, .ref ad, .int 0, .int 0, .long 0])), (an, .inr (6, [.ref n1, .ref n2, .ref n3, .ref n4, .ref n5, .int 0, .int 0])), (n1, .inl (cI, 8, .inl (cn 7))), (n2, .inl (cI, 8, .inl (cn 1))), (n3, .inl (cI, 8, .inl (cn 110))), (n4, .inl (cI, 8, .inl (cn 0))), (n5, .inl (cI, 8, .inl (cn 0))), (ou, .inl (cL, 1, .inr (.inl fo)))] sz) t) (va_A [(xt, .inr (12, [.ref ah, .ref xe, .ref xf])), (ah, .inr (4, [.ref ac, .ref au, .ref ab, .ref an, .ref ak, .ref ad, .int 0, .int 0, .long 0])), (an, .inr (6, [.ref n1, .ref n2, .ref n3, .ref n4, .ref n5, .int 0, .int 0])), (n1, .inl (cI, 8, .inl (cn 7))), (n2, .inl (cI, 8, .inl (cn 1))), (n3, .inl (cI, 8, .inl (cn 110))), (n4, .inl (cI, 8, .inl (cn 0))), (n5, .inl (cI, 8, .inl (cn 0))), (ou, .inl (cL, 1, .inr (.inl fo)))] sz)) (vx_X (fun (_ : Unit) => False) (fun (_ : String) (_ : Unit) (_ : State) => True) (va_A [(xt, .inr (12, [.ref ah, .ref xe, .ref xf])), (ah, .inr (4, [.ref ac, .ref au, .ref ab, .ref an, .ref ak, .ref ad, .int 0, .int 0, .long 0])), (an, .inr (6, [.ref n1, .ref n2, .ref n3, .ref n4, .ref n5, .int 0, .int 0])), (n1, .inl (cI, 8, .inl (cn 7))), (n2, .inl (cI, 8, .inl (cn 1))), (n3, .inl (cI, 8, .inl (cn 110))), (n4, .inl (cI, 8, .inl (cn 0))), (n5, .inl (cI, 8, .inl (cn 0))), (ou, .inl (cL, 1, .inr (.inl fo)))] sz)) 1 6 (va_A [(xt, .inr (12, [.ref ah, .ref xe, .ref xf])), (ah, .inr (4, [.ref ac, .ref au, .ref ab, .ref an, .ref ak, .ref ad, .int 0, .int 0, .long 0])), (an, .inr (6, [.ref n1, .ref n2, .ref n3, .ref n4, .ref n5, .int 0, .int 0])), (n1, .inl (cI, 8, .inl (cn 7))), (n2, .inl (cI, 8, .inl (cn 1))), (n3, .inl (cI, 8, .inl (cn 110))), (n4, .inl (cI, 8, .inl (cn 0))), (n5, .inl (cI, 8, .inl (cn 0))), (ou, .inl (cL, 1, .inr (.inl fo)))] sz) := by
  refine vx_ofWH (cc := cL_setLine) (maxL := 6) (ret := (some .int)) (hh := [(0, 12, 15, 13), (0, 12, 19, 15)]) (by decide) rfl ?_
  intro p e s m args below meth c s₁ B hml hv
  obtain ⟨rfl, hsz, hP, hK, hD0, hG⟩ := hv
  have hx := B.exec
  have hb := B.bytes
  have hr := B.returns
  have hts := atoms_spec (ws := wsL_setLine) B.pre
  have hown : s.vm.findClass RL = some m.cls := findClass_of_methodNamed B.named
  have hlocks := B.notSynchronized
  have htab : c.exceptionTable.toList = tableOf [(0, 12, 15, 13), (0, 12, 19, 15)] := vx_table (x := yL_setLine) B (hts _ List.mem_cons_self)
  subst hsz
  have hD := hD0.self (sz := s.heap.size)
  generalize hAe : va_A [(xt, .inr (12, [.ref ah, .ref xe, .ref xf])), (ah, .inr (4, [.ref ac, .ref au, .ref ab, .ref an, .ref ak, .ref ad, .int 0, .int 0, .long 0])), (an, .inr (6, [.ref n1, .ref n2, .ref n3, .ref n4, .ref n5, .int 0, .int 0])), (n1, .inl (cI, 8, .inl (cn 7))), (n2, .inl (cI, 8, .inl (cn 1))), (n3, .inl (cI, 8, .inl (cn 110))), (n4, .inl (cI, 8, .inl (cn 0))), (n5, .inl (cI, 8, .inl (cn 0))), (ou, .inl (cL, 1, .inr (.inl fo)))] s.heap.size = A at hD hG ⊢
  have hN := hG.1
  have hA : ∀ q : Nat, s.heap.size ≤ q → A q := fun q h => by rw [← hAe]; exact Or.inr h
  have hS : va_S A s.heap s.heap [] := va_S.rf
  have hP : va_P (dC, dI) vwCl [(xt, .inr (12, [.ref ah, .ref xe, .ref xf])), (ah, .inr (4, [.ref ac, .ref au, .ref ab, .ref an, .ref ak, .ref ad, .int 0, .int 0, .long 0])), (an, .inr (6, [.ref n1, .ref n2, .ref n3, .ref n4, .ref n5, .int 0, .int 0])), (n1, .inl (cI, 8, .inl (cn 7))), (n2, .inl (cI, 8, .inl (cn 1))), (n3, .inl (cI, 8, .inl (cn 110))), (n4, .inl (cI, 8, .inl (cn 0))), (n5, .inl (cI, 8, .inl (cn 0))), (ou, .inl (cL, 1, .inr (.inl fo)))] s.heap := hP
  have hw0 : (Cond.classLink RL 13 "java/lang/IndexOutOfBoundsException").before _ s = true := hts _ (List.mem_cons_of_mem _ (List.mem_append_left _ (List.mem_append_left _ (List.mem_append_left _ (List.mem_append_left _ (List.mem_append_left _ (List.mem_append_left _ (List.mem_of_getElem? (i := 0) rfl))))))))
  have hw1 : (Cond.classLink RL 15 "java/lang/IllegalArgumentException").before _ s = true := hts _ (List.mem_cons_of_mem _ (List.mem_append_left _ (List.mem_append_left _ (List.mem_append_left _ (List.mem_append_left _ (List.mem_append_left _ (List.mem_append_left _ (List.mem_of_getElem? (i := 1) rfl))))))))
  have hl := lv_entry ([.ref xt, .int v1, .int v2, .int v3, .ref ou]) (n := 6) (Nat.le_of_ble_eq_true rfl)
  rw [lg_entry_eq]
  generalize (lg_sl ([.ref xt, .int v1, .int v2, .int v3, .ref ou]) ++ List.replicate (6 - (lg_sl ([.ref xt, .int v1, .int v2, .int v3, .ref ou])).length) Slot.unset).toArray = ls at hl ⊢
  have hl : lv_has ls 6 [(0, .ref xt), (1, .int v1), (2, .int v2), (3, .int v3), (4, .ref ou)] := hl
  refine lv_aload hx hb dL_setLine_0 (lv_at hl 4 rfl) ?_
  refine lv_iconst (v := 0) hx hb dL_setLine_2 (by decide) ?_
  refine lv_aload_n hx hb dL_setLine_3 rfl (lv_at hl 0 rfl) ?_
  refine lv_iload_n hx hb dL_setLine_4 rfl (lv_at hl 1 rfl) ?_
  refine lv_iload_n hx hb dL_setLine_5 rfl (lv_at hl 2 rfl) ?_
  refine lv_iload_n hx hb dL_setLine_6 rfl (lv_at hl 3 rfl) ?_
  have hPc := hP.sub (ws' := [(xt, .inr (12, [.ref ah, .ref xe, .ref xf])), (ah, .inr (4, [.ref ac, .ref au, .ref ab, .ref an, .ref ak, .ref ad, .int 0, .int 0, .long 0])), (an, .inr (6, [.ref n1, .ref n2, .ref n3, .ref n4, .ref n5, .int 0, .int 0])), (n1, .inl (cI, 8, .inl (cn 7))), (n2, .inl (cI, 8, .inl (cn 1))), (n3, .inl (cI, 8, .inl (cn 110))), (n4, .inl (cI, 8, .inl (cn 0))), (n5, .inl (cI, 8, .inl (cn 0)))]) [0, 1, 2, 3, 4, 5, 6, 7] rfl
  have hDc := hD.sub (ws' := [(xt, .inr (12, [.ref ah, .ref xe, .ref xf])), (ah, .inr (4, [.ref ac, .ref au, .ref ab, .ref an, .ref ak, .ref ad, .int 0, .int 0, .long 0])), (an, .inr (6, [.ref n1, .ref n2, .ref n3, .ref n4, .ref n5, .int 0, .int 0])), (n1, .inl (cI, 8, .inl (cn 7))), (n2, .inl (cI, 8, .inl (cn 1))), (n3, .inl (cI, 8, .inl (cn 110))), (n4, .inl (cI, 8, .inl (cn 0))), (n5, .inl (cI, 8, .inl (cn 0)))]) [0, 1, 2, 3, 4, 5, 6, 7] (by decide) rfl
  have hKc := hK.sub (tys' := [(cI, .int)]) [0] rfl
  have hFc := va_free (wc := [(xt, .inr (12, [.ref ah, .ref xe, .ref xf])), (ah, .inr (4, [.ref ac, .ref au, .ref ab, .ref an, .ref ak, .ref ad, .int 0, .int 0, .long 0])), (an, .inr (6, [.ref n1, .ref n2, .ref n3, .ref n4, .ref n5, .int 0, .int 0])), (n1, .inl (cI, 8, .inl (cn 7))), (n2, .inl (cI, 8, .inl (cn 1))), (n3, .inl (cI, 8, .inl (cn 110))), (n4, .inl (cI, 8, .inl (cn 0))), (n5, .inl (cI, 8, .inl (cn 0)))]) hD hS hA [0, 1, 2, 3, 4, 5, 6, 7] rfl
  refine vx_calli (vx_runV (As := [.int v1, .int v2, .int v3]) (rest := [.int 0, .ref ou]) ⟨hx, hb, hml, hown, hts⟩ (c_X8_setLine l hl9 dC dI g xt xe xf ah ac au ab an n1 n2 n3 n4 n5 ak ad cI v1 v2 v3 s.heap.size) (cwV 3 hts gL_setLine_X8_setLine rfl rfl rfl (by decide +kernel) ⟨Nat.le_of_ble_eq_true rfl, Nat.le_of_ble_eq_true rfl⟩) ⟨wIn_blind, va_recv hK hP (ci := 12) (q0 := 0) rfl rfl, wIn_at hPc hKc hDc hG hS hFc⟩ rfl rfl hl.1 rfl (lv_room (Nat.le_of_ble_eq_true rfl)) dL_setLine_7 ⟨Nat.le_of_ble_eq_true rfl, Nat.le_of_ble_eq_true rfl⟩) hS (fun q _ h => hFc q h) hFc (fun q _ h => hFc q h) (fun E9 ce9 q_2 u9 t H1 locs ht hvm hx9 hB9 hz1 hk1 hS hce hcv hcl => ?_) (fun r_1 u t H1 locs ht hvm hw hB hz1 hk1 hS => ?_)
  · rcases hB9 with ⟨rfl, hs9⟩ | ⟨rfl, hs9⟩
    · refine vx_catch (E := "java/lang/IndexOutOfBoundsException") (name := "java/lang/IndexOutOfBoundsException") hown [] ⟨0, 12, 15, 13⟩ [⟨0, 12, 19, 15⟩] (htab.trans rfl) (fun z hz => nomatch hz) (by decide) (by decide) hw0 (nw_use hN _ (List.mem_of_getElem? (i := 55) rfl)) hce hcv hcl ?_
      obtain ⟨hP, hD⟩ := va_join (wr := [(ou, .inl (cL, 1, .inr (.inl fo)))]) (w1 := []) hP hD [0, 1, 2, 3, 4, 5, 6, 7] [8] rfl rfl (by decide) (by decide) hk1 hFc vaP0 vaD0
      generalize H1 = H at hP hS ⊢
      have hP : va_P (dC, dI) vwCl [(ou, .inl (cL, 1, .inr (.inl fo)))] H := hP
      have hD : va_D A [(ou, .inl (cL, 1, .inr (.inl fo)))] := hD
      refine W.widen (k := 1) (n := 6) (Nat.le_of_ble_eq_true rfl) (Nat.le_of_ble_eq_true rfl) ?_
      refine lv_astore (lv' := [(5, .ref q_2), (0, .ref xt), (1, .int v1), (2, .int v2), (3, .int v3), (4, .ref ou)]) hx hb dL_setLine_15 hl (by decide) rfl (fun ls hl => ?_)
      refine lv_iconst (v := 1) hx hb dL_setLine_17 (by decide) ?_
      have hP9 := hP.sub (ws' := [(ou, .inl (cL, 1, .inr (.inl fo)))]) [0] rfl
      have hD9 := hD.sub (ws' := [(ou, .inl (cL, 1, .inr (.inl fo)))]) [0] (by decide) rfl
      have hK9 := hK.sub (tys' := [(cI, .int), (cL, .long)]) [0, 1] rfl
      refine vx_ret ?_
      exact W.iret (v := 1) hx hb hr (fun t ht hW => ⟨⟨1, (fo), rfl, ⟨hs9.symm, (fun h9 => absurd (hs9.symm.trans h9) (by decide))⟩, wOut_at ht hW hP9 hK9 hD9⟩, hS.F ht⟩) hS.2.2 dL_setLine_18
    · refine vx_catch (E := "java/lang/IllegalArgumentException") (name := "java/lang/IllegalArgumentException") hown [⟨0, 12, 15, 13⟩] ⟨0, 12, 19, 15⟩ [] (htab.trans rfl) (List.forall_mem_cons.2 ⟨Or.inr ⟨by decide, "java/lang/IndexOutOfBoundsException", hw0, (hG.2.2.2.2.2.2.2.2.2.2.1 _ (List.mem_of_getElem? (i := 3) rfl))⟩, (fun z hz => nomatch hz)⟩) (by decide) (by decide) hw1 (nw_use hN _ (List.mem_of_getElem? (i := 54) rfl)) hce hcv hcl ?_
      obtain ⟨hP, hD⟩ := va_join (wr := [(ou, .inl (cL, 1, .inr (.inl fo)))]) (w1 := []) hP hD [0, 1, 2, 3, 4, 5, 6, 7] [8] rfl rfl (by decide) (by decide) hk1 hFc vaP0 vaD0
      generalize H1 = H at hP hS ⊢
      have hP : va_P (dC, dI) vwCl [(ou, .inl (cL, 1, .inr (.inl fo)))] H := hP
      have hD : va_D A [(ou, .inl (cL, 1, .inr (.inl fo)))] := hD
      refine W.widen (k := 1) (n := 6) (Nat.le_of_ble_eq_true rfl) (Nat.le_of_ble_eq_true rfl) ?_
      refine lv_astore (lv' := [(5, .ref q_2), (0, .ref xt), (1, .int v1), (2, .int v2), (3, .int v3), (4, .ref ou)]) hx hb dL_setLine_19 hl (by decide) rfl (fun ls hl => ?_)
      refine lv_iconst (v := 2) hx hb dL_setLine_21 (by decide) ?_
      have hP9 := hP.sub (ws' := [(ou, .inl (cL, 1, .inr (.inl fo)))]) [0] rfl
      have hD9 := hD.sub (ws' := [(ou, .inl (cL, 1, .inr (.inl fo)))]) [0] (by decide) rfl
      have hK9 := hK.sub (tys' := [(cI, .int), (cL, .long)]) [0, 1] rfl
      refine vx_ret ?_
      exact W.iret (v := 2) hx hb hr (fun t ht hW => ⟨⟨2, (fo), rfl, ⟨hs9.symm, (fun h9 => absurd (hs9.symm.trans h9) (by decide))⟩, wOut_at ht hW hP9 hK9 hD9⟩, hS.F ht⟩) hS.2.2 dL_setLine_22
  · obtain ⟨hP1, hK1, hD1⟩ := hB
    rw [ht] at hP1
    obtain ⟨hP, hD⟩ := va_join (wr := [(ou, .inl (cL, 1, .inr (.inl fo)))]) (w1 := []) hP hD [0, 1, 2, 3, 4, 5, 6, 7] [8] rfl rfl (by decide) (by decide) hk1 hFc hP1 hD1
    generalize H1 = H at hP hS ⊢
    have hP : va_P (dC, dI) vwCl [(ou, .inl (cL, 1, .inr (.inl fo)))] H := hP
    have hD : va_D A [(ou, .inl (cL, 1, .inr (.inl fo)))] := hD
    refine lt_ci (y := 7) hw.1 ?_
    have hs9 := hw.2
    refine W.widen (k := 1) (n := 6) (Nat.le_of_ble_eq_true rfl) (Nat.le_of_ble_eq_true rfl) ?_
    refine lv_i2l (v := 7) hx hb dL_setLine_10 (by first | rfl | decide) ?_
    refine va_last (D := (dC, dI)) hx hb hK hP hD hS 0 1 rfl rfl (by unfold vp_in; decide) dL_setLine_11 (fun H locs hP hD hS => ?_)
    have hP : va_P (dC, dI) vwCl [(ou, .inl (cL, 1, .inr (.inl (vp_updL fo 0 7))))] H := hP
    have hD : va_D A [(ou, .inl (cL, 1, .inr (.inl (vp_updL fo 0 7))))] := hD
    refine lv_goto (tgt := 23) hx hb dL_setLine_12 (by decide) ?_
    refine lv_iconst (v := 0) hx hb dL_setLine_23 (by decide) ?_
    have hP9 := hP.sub (ws' := [(ou, .inl (cL, 1, .inr (.inl (vp_updL fo 0 7))))]) [0] rfl
    have hD9 := hD.sub (ws' := [(ou, .inl (cL, 1, .inr (.inl (vp_updL fo 0 7))))]) [0] (by decide) rfl
    have hK9 := hK.sub (tys' := [(cI, .int), (cL, .long)]) [0, 1] rfl
    refine vx_ret ?_
    exact W.iret (v := 0) hx hb hr (fun t ht hW => ⟨⟨0, (vp_updL fo 0 7), rfl, ⟨hs9.symm, (fun _ => rfl)⟩, wOut_at ht hW hP9 hK9 hD9⟩, hS.F ht⟩) hS.2.2 dL_setLine_24
set_option maxHeartbeats 4000000 in
set_option maxRecDepth 100000 in
theorem c_L_setSleep (l : Launch) (hl9 : l.stackTraces = false) (dC : Nat → ClassId) (dI : Nat → Nat → Nat) (g : Nat × Nat × Nat) (xt : Nat) (xe : Nat) (xf : Nat) (ah : Nat) (ac : Nat) (au : Nat) (ab : Nat) (an : Nat) (ar : Nat) (ak : Nat) (ad : Nat) (cI : ClassId) (v1 : Int32) (fo : Nat → Int64) (ou : Nat) (cL : ClassId) (sz : Nat) : vx_Met l yL_setSleep wsL_setSleep ({ frames := 7, cells := 1, slots := 6, locals := 123 } : Room) (va_Pc [.ref xt, .int v1, .ref ou] (wIn dC dI g [(xt, .inr (12, [.ref ah, .ref xe, .ref xf])), (ah, .inr (4, [.ref ac, .ref au, .ref ab, .ref an, .ref ak, .ref ad, .int 0, .int 0, .long 0])), (ak, .inr (8, [.ref ar, .int 105, .int 0, .int (-1), .int 0, .int 0, .int 0])), (ou, .inl (cL, 1, .inr (.inl fo)))] [(cI, .int), (cL, .long)] sz)) (va_Qi (fun (r : Int32) (u : Nat → Int64) => r = sp_X8_setSleep v1 ∧ (sp_X8_setSleep v1 = 0 → u 0 = 0)) (fun (u : Nat → Int64) (t : State) => wOut dC dI [(ou, .inl (cL, 1, .inr (.inl u)))] [(cI, .int), (cL, .long)] (va_A [(xt, .inr (12, [.ref ah, .ref xe, .ref xf])), (ah, .inr (4, [.ref ac, .ref au, .ref ab, .ref an, .ref ak, .ref ad, .int 0, .int 0, .long 0])), (ak, .inr (8, [.ref ar, .int 105, .int 0, .int (-1), .int 0, .int 0, .int 0])), (ou, .inl (cL, 1, .inr (.inl fo)))] sz) t) (va_A [(xt, .inr (12, [.ref ah, .ref xe, .ref xf])), (ah, .inr (4, [.ref ac, .ref au, .ref ab, .ref an, .ref ak, .ref ad, .int 0, .int 0, .long 0])), (ak, .inr (8, [.ref ar, .int 105, .int 0, .int (-1), .int 0, .int 0, .int 0])), (ou, .inl (cL, 1, .inr (.inl fo)))] sz)) (vx_X (fun (_ : Unit) => False) (fun (_ : String) (_ : Unit) (_ : State) => True) (va_A [(xt, .inr (12, [.ref ah, .ref xe, .ref xf])), (ah, .inr (4, [.ref ac, .ref au, .ref ab, .ref an, .ref ak, .ref ad, .int 0, .int 0, .long 0])), (ak, .inr (8, [.ref ar, .int 105, .int 0, .int (-1), .int 0, .int 0, .int 0])), (ou, .inl (cL, 1, .inr (.inl fo)))] sz)) 1 6 (va_A [(xt, .inr (12, [.ref ah, .ref xe, .ref xf])), (ah, .inr (4, [.ref ac, .ref au, .ref ab, .ref an, .ref ak, .ref ad, .int 0, .int 0, .long 0])), (ak, .inr (8, [.ref ar, .int 105, .int 0, .int (-1), .int 0, .int 0, .int 0])), (ou, .inl (cL, 1, .inr (.inl fo)))] sz) := by
  refine vx_ofWH (cc := cL_setSleep) (maxL := 4) (ret := (some .int)) (hh := [(0, 9, 12, 15)]) (by decide) rfl ?_
  intro p e s m args below meth c s₁ B hml hv
  obtain ⟨rfl, hsz, hP, hK, hD0, hG⟩ := hv
  have hx := B.exec
  have hb := B.bytes
  have hr := B.returns
  have hts := atoms_spec (ws := wsL_setSleep) B.pre
  have hown : s.vm.findClass RL = some m.cls := findClass_of_methodNamed B.named
  have hlocks := B.notSynchronized
  have htab : c.exceptionTable.toList = tableOf [(0, 9, 12, 15)] := vx_table (x := yL_setSleep) B (hts _ List.mem_cons_self)
  subst hsz
  have hD := hD0.self (sz := s.heap.size)
  generalize hAe : va_A [(xt, .inr (12, [.ref ah, .ref xe, .ref xf])), (ah, .inr (4, [.ref ac, .ref au, .ref ab, .ref an, .ref ak, .ref ad, .int 0, .int 0, .long 0])), (ak, .inr (8, [.ref ar, .int 105, .int 0, .int (-1), .int 0, .int 0, .int 0])), (ou, .inl (cL, 1, .inr (.inl fo)))] s.heap.size = A at hD hG ⊢
  have hN := hG.1
  have hA : ∀ q : Nat, s.heap.size ≤ q → A q := fun q h => by rw [← hAe]; exact Or.inr h
  have hS : va_S A s.heap s.heap [] := va_S.rf
  have hP : va_P (dC, dI) vwCl [(xt, .inr (12, [.ref ah, .ref xe, .ref xf])), (ah, .inr (4, [.ref ac, .ref au, .ref ab, .ref an, .ref ak, .ref ad, .int 0, .int 0, .long 0])), (ak, .inr (8, [.ref ar, .int 105, .int 0, .int (-1), .int 0, .int 0, .int 0])), (ou, .inl (cL, 1, .inr (.inl fo)))] s.heap := hP
  have hw0 : (Cond.classLink RL 15 "java/lang/IllegalArgumentException").before _ s = true := hts _ (List.mem_cons_of_mem _ (List.mem_append_left _ (List.mem_append_left _ (List.mem_append_left _ (List.mem_append_left _ (List.mem_append_left _ (List.mem_of_getElem? (i := 0) rfl)))))))
  have hl := lv_entry ([.ref xt, .int v1, .ref ou]) (n := 4) (Nat.le_of_ble_eq_true rfl)
  rw [lg_entry_eq]
  generalize (lg_sl ([.ref xt, .int v1, .ref ou]) ++ List.replicate (4 - (lg_sl ([.ref xt, .int v1, .ref ou])).length) Slot.unset).toArray = ls at hl ⊢
  have hl : lv_has ls 4 [(0, .ref xt), (1, .int v1), (2, .ref ou)] := hl
  refine lv_aload_n hx hb dL_setSleep_0 rfl (lv_at hl 2 rfl) ?_
  refine lv_iconst (v := 0) hx hb dL_setSleep_1 (by decide) ?_
  refine lv_aload_n hx hb dL_setSleep_2 rfl (lv_at hl 0 rfl) ?_
  refine lv_iload_n hx hb dL_setSleep_3 rfl (lv_at hl 1 rfl) ?_
  have hPc := hP.sub (ws' := [(xt, .inr (12, [.ref ah, .ref xe, .ref xf])), (ah, .inr (4, [.ref ac, .ref au, .ref ab, .ref an, .ref ak, .ref ad, .int 0, .int 0, .long 0])), (ak, .inr (8, [.ref ar, .int 105, .int 0, .int (-1), .int 0, .int 0, .int 0]))]) [0, 1, 2] rfl
  have hDc := hD.sub (ws' := [(xt, .inr (12, [.ref ah, .ref xe, .ref xf])), (ah, .inr (4, [.ref ac, .ref au, .ref ab, .ref an, .ref ak, .ref ad, .int 0, .int 0, .long 0])), (ak, .inr (8, [.ref ar, .int 105, .int 0, .int (-1), .int 0, .int 0, .int 0]))]) [0, 1, 2] (by decide) rfl
  have hKc := hK.sub (tys' := [(cI, .int)]) [0] rfl
  have hFc := va_free (wc := [(xt, .inr (12, [.ref ah, .ref xe, .ref xf])), (ah, .inr (4, [.ref ac, .ref au, .ref ab, .ref an, .ref ak, .ref ad, .int 0, .int 0, .long 0])), (ak, .inr (8, [.ref ar, .int 105, .int 0, .int (-1), .int 0, .int 0, .int 0]))]) hD hS hA [0, 1, 2] rfl
  refine vx_calli (vx_runV (As := [.int v1]) (rest := [.int 0, .ref ou]) ⟨hx, hb, hml, hown, hts⟩ (c_X8_setSleep l hl9 dC dI g xt xe xf ah ac au ab an ar ak ad cI v1 s.heap.size) (cwV 1 hts gL_setSleep_X8_setSleep rfl rfl rfl (by decide +kernel) ⟨Nat.le_of_ble_eq_true rfl, Nat.le_of_ble_eq_true rfl⟩) ⟨wIn_blind, va_recv hK hP (ci := 12) (q0 := 0) rfl rfl, wIn_at hPc hKc hDc hG hS hFc⟩ rfl rfl hl.1 rfl (lv_room (Nat.le_of_ble_eq_true rfl)) dL_setSleep_4 ⟨Nat.le_of_ble_eq_true rfl, Nat.le_of_ble_eq_true rfl⟩) hS (fun q _ h => hFc q h) hFc (fun q _ h => hFc q h) (fun E9 ce9 q_2 u9 t H1 locs ht hvm hx9 hB9 hz1 hk1 hS hce hcv hcl => ?_) (fun r_1 u t H1 locs ht hvm hw hB hz1 hk1 hS => ?_)
  · obtain ⟨rfl, hs9⟩ := hB9
    refine vx_catch (E := "java/lang/IllegalArgumentException") (name := "java/lang/IllegalArgumentException") hown [] ⟨0, 9, 12, 15⟩ [] (htab.trans rfl) (fun z hz => nomatch hz) (by decide) (by decide) hw0 (nw_use hN _ (List.mem_of_getElem? (i := 54) rfl)) hce hcv hcl ?_
    obtain ⟨hP, hD⟩ := va_join (wr := [(ou, .inl (cL, 1, .inr (.inl fo)))]) (w1 := []) hP hD [0, 1, 2] [3] rfl rfl (by decide) (by decide) hk1 hFc vaP0 vaD0
    generalize H1 = H at hP hS ⊢
    have hP : va_P (dC, dI) vwCl [(ou, .inl (cL, 1, .inr (.inl fo)))] H := hP
    have hD : va_D A [(ou, .inl (cL, 1, .inr (.inl fo)))] := hD
    refine W.widen (k := 1) (n := 6) (Nat.le_of_ble_eq_true rfl) (Nat.le_of_ble_eq_true rfl) ?_
    refine lv_astore_n (lv' := [(3, .ref q_2), (0, .ref xt), (1, .int v1), (2, .ref ou)]) hx hb dL_setSleep_12 rfl hl (by decide) rfl (fun ls hl => ?_)
    refine lv_iconst (v := 1) hx hb dL_setSleep_13 (by decide) ?_
    have hP9 := hP.sub (ws' := [(ou, .inl (cL, 1, .inr (.inl fo)))]) [0] rfl
    have hD9 := hD.sub (ws' := [(ou, .inl (cL, 1, .inr (.inl fo)))]) [0] (by decide) rfl
    have hK9 := hK.sub (tys' := [(cI, .int), (cL, .long)]) [0, 1] rfl
    refine vx_ret ?_
    exact W.iret (v := 1) hx hb hr (fun t ht hW => ⟨⟨1, (fo), rfl, ⟨hs9.symm, (fun h9 => absurd (hs9.symm.trans h9) (by decide))⟩, wOut_at ht hW hP9 hK9 hD9⟩, hS.F ht⟩) hS.2.2 dL_setSleep_14
  · obtain ⟨hP1, hK1, hD1⟩ := hB
    rw [ht] at hP1
    obtain ⟨hP, hD⟩ := va_join (wr := [(ou, .inl (cL, 1, .inr (.inl fo)))]) (w1 := []) hP hD [0, 1, 2] [3] rfl rfl (by decide) (by decide) hk1 hFc hP1 hD1
    generalize H1 = H at hP hS ⊢
    have hP : va_P (dC, dI) vwCl [(ou, .inl (cL, 1, .inr (.inl fo)))] H := hP
    have hD : va_D A [(ou, .inl (cL, 1, .inr (.inl fo)))] := hD
    refine lt_ci (y := 0) hw.1 ?_
    have hs9 := hw.2
    refine W.widen (k := 1) (n := 6) (Nat.le_of_ble_eq_true rfl) (Nat.le_of_ble_eq_true rfl) ?_
    refine lv_i2l (v := 0) hx hb dL_setSleep_7 (by first | rfl | decide) ?_
    refine va_last (D := (dC, dI)) hx hb hK hP hD hS 0 1 rfl rfl (by unfold vp_in; decide) dL_setSleep_8 (fun H locs hP hD hS => ?_)
    have hP : va_P (dC, dI) vwCl [(ou, .inl (cL, 1, .inr (.inl (vp_updL fo 0 0))))] H := hP
    have hD : va_D A [(ou, .inl (cL, 1, .inr (.inl (vp_updL fo 0 0))))] := hD
    refine lv_goto (tgt := 15) hx hb dL_setSleep_9 (by decide) ?_
    refine lv_iconst (v := 0) hx hb dL_setSleep_15 (by decide) ?_
    have hP9 := hP.sub (ws' := [(ou, .inl (cL, 1, .inr (.inl (vp_updL fo 0 0))))]) [0] rfl
    have hD9 := hD.sub (ws' := [(ou, .inl (cL, 1, .inr (.inl (vp_updL fo 0 0))))]) [0] (by decide) rfl
    have hK9 := hK.sub (tys' := [(cI, .int), (cL, .long)]) [0, 1] rfl
    refine vx_ret ?_
    exact W.iret (v := 0) hx hb hr (fun t ht hW => ⟨⟨0, (vp_updL fo 0 0), rfl, ⟨hs9.symm, (fun _ => rfl)⟩, wOut_at ht hW hP9 hK9 hD9⟩, hS.F ht⟩) hS.2.2 dL_setSleep_16
set_option maxHeartbeats 4000000 in
set_option maxRecDepth 100000 in
theorem c_L_setWatchdog (l : Launch) (hl9 : l.stackTraces = false) (dC : Nat → ClassId) (dI : Nat → Nat → Nat) (g : Nat × Nat × Nat) (xt : Nat) (xe : Nat) (xf : Nat) (ah : Nat) (ac : Nat) (au : Nat) (ab : Nat) (an : Nat) (ak : Nat) (ad : Nat) (cI : ClassId) (v1 : Int32) (v2 : Int32) (v3 : Int32) (fo : Nat → Int64) (ou : Nat) (cL : ClassId) (sz : Nat) : vx_Met l yL_setWatchdog wsL_setWatchdog ({ frames := 7, cells := 1, slots := 6, locals := 125 } : Room) (va_Pc [.ref xt, .int v1, .int v2, .int v3, .ref ou] (wIn dC dI g [(xt, .inr (12, [.ref ah, .ref xe, .ref xf])), (ah, .inr (4, [.ref ac, .ref au, .ref ab, .ref an, .ref ak, .ref ad, .int 0, .int 0, .long 0])), (ad, .inr (11, [.int (-1), .int 0, .int 0, .int 0, .int 0, .int 0])), (ou, .inl (cL, 1, .inr (.inl fo)))] [(cI, .int), (cL, .long)] sz)) (va_Qi (fun (r : Int32) (u : Nat → Int64) => r = sp_X8_setWatchdog v1 v2 v3 ∧ (sp_X8_setWatchdog v1 v2 v3 = 0 → u 0 = 0)) (fun (u : Nat → Int64) (t : State) => wOut dC dI [(ou, .inl (cL, 1, .inr (.inl u)))] [(cI, .int), (cL, .long)] (va_A [(xt, .inr (12, [.ref ah, .ref xe, .ref xf])), (ah, .inr (4, [.ref ac, .ref au, .ref ab, .ref an, .ref ak, .ref ad, .int 0, .int 0, .long 0])), (ad, .inr (11, [.int (-1), .int 0, .int 0, .int 0, .int 0, .int 0])), (ou, .inl (cL, 1, .inr (.inl fo)))] sz) t) (va_A [(xt, .inr (12, [.ref ah, .ref xe, .ref xf])), (ah, .inr (4, [.ref ac, .ref au, .ref ab, .ref an, .ref ak, .ref ad, .int 0, .int 0, .long 0])), (ad, .inr (11, [.int (-1), .int 0, .int 0, .int 0, .int 0, .int 0])), (ou, .inl (cL, 1, .inr (.inl fo)))] sz)) (vx_X (fun (_ : Unit) => False) (fun (_ : String) (_ : Unit) (_ : State) => True) (va_A [(xt, .inr (12, [.ref ah, .ref xe, .ref xf])), (ah, .inr (4, [.ref ac, .ref au, .ref ab, .ref an, .ref ak, .ref ad, .int 0, .int 0, .long 0])), (ad, .inr (11, [.int (-1), .int 0, .int 0, .int 0, .int 0, .int 0])), (ou, .inl (cL, 1, .inr (.inl fo)))] sz)) 1 6 (va_A [(xt, .inr (12, [.ref ah, .ref xe, .ref xf])), (ah, .inr (4, [.ref ac, .ref au, .ref ab, .ref an, .ref ak, .ref ad, .int 0, .int 0, .long 0])), (ad, .inr (11, [.int (-1), .int 0, .int 0, .int 0, .int 0, .int 0])), (ou, .inl (cL, 1, .inr (.inl fo)))] sz) := by
  refine vx_ofWH (cc := cL_setWatchdog) (maxL := 6) (ret := (some .int)) (hh := [(0, 19, 22, 13), (0, 19, 26, 15)]) (by decide) rfl ?_
  intro p e s m args below meth c s₁ B hml hv
  obtain ⟨rfl, hsz, hP, hK, hD0, hG⟩ := hv
  have hx := B.exec
  have hb := B.bytes
  have hr := B.returns
  have hts := atoms_spec (ws := wsL_setWatchdog) B.pre
  have hown : s.vm.findClass RL = some m.cls := findClass_of_methodNamed B.named
  have hlocks := B.notSynchronized
  have htab : c.exceptionTable.toList = tableOf [(0, 19, 22, 13), (0, 19, 26, 15)] := vx_table (x := yL_setWatchdog) B (hts _ List.mem_cons_self)
  subst hsz
  have hD := hD0.self (sz := s.heap.size)
  generalize hAe : va_A [(xt, .inr (12, [.ref ah, .ref xe, .ref xf])), (ah, .inr (4, [.ref ac, .ref au, .ref ab, .ref an, .ref ak, .ref ad, .int 0, .int 0, .long 0])), (ad, .inr (11, [.int (-1), .int 0, .int 0, .int 0, .int 0, .int 0])), (ou, .inl (cL, 1, .inr (.inl fo)))] s.heap.size = A at hD hG ⊢
  have hN := hG.1
  have hA : ∀ q : Nat, s.heap.size ≤ q → A q := fun q h => by rw [← hAe]; exact Or.inr h
  have hS : va_S A s.heap s.heap [] := va_S.rf
  have hP : va_P (dC, dI) vwCl [(xt, .inr (12, [.ref ah, .ref xe, .ref xf])), (ah, .inr (4, [.ref ac, .ref au, .ref ab, .ref an, .ref ak, .ref ad, .int 0, .int 0, .long 0])), (ad, .inr (11, [.int (-1), .int 0, .int 0, .int 0, .int 0, .int 0])), (ou, .inl (cL, 1, .inr (.inl fo)))] s.heap := hP
  have hw0 : (Cond.classLink RL 13 "java/lang/IndexOutOfBoundsException").before _ s = true := hts _ (List.mem_cons_of_mem _ (List.mem_append_left _ (List.mem_append_left _ (List.mem_append_left _ (List.mem_append_left _ (List.mem_append_left _ (List.mem_append_left _ (List.mem_of_getElem? (i := 0) rfl))))))))
  have hw1 : (Cond.classLink RL 15 "java/lang/IllegalArgumentException").before _ s = true := hts _ (List.mem_cons_of_mem _ (List.mem_append_left _ (List.mem_append_left _ (List.mem_append_left _ (List.mem_append_left _ (List.mem_append_left _ (List.mem_append_left _ (List.mem_of_getElem? (i := 1) rfl))))))))
  have hl := lv_entry ([.ref xt, .int v1, .int v2, .int v3, .ref ou]) (n := 6) (Nat.le_of_ble_eq_true rfl)
  rw [lg_entry_eq]
  generalize (lg_sl ([.ref xt, .int v1, .int v2, .int v3, .ref ou]) ++ List.replicate (6 - (lg_sl ([.ref xt, .int v1, .int v2, .int v3, .ref ou])).length) Slot.unset).toArray = ls at hl ⊢
  have hl : lv_has ls 6 [(0, .ref xt), (1, .int v1), (2, .int v2), (3, .int v3), (4, .ref ou)] := hl
  refine lv_aload hx hb dL_setWatchdog_0 (lv_at hl 4 rfl) ?_
  refine lv_iconst (v := 0) hx hb dL_setWatchdog_2 (by decide) ?_
  refine lv_aload_n hx hb dL_setWatchdog_3 rfl (lv_at hl 0 rfl) ?_
  refine lv_iload_n hx hb dL_setWatchdog_4 rfl (lv_at hl 1 rfl) ?_
  refine lv_iload_n hx hb dL_setWatchdog_5 rfl (lv_at hl 2 rfl) ?_
  refine lv_iload_n hx hb dL_setWatchdog_6 rfl (lv_at hl 3 rfl) ?_
  have hPc := hP.sub (ws' := [(xt, .inr (12, [.ref ah, .ref xe, .ref xf])), (ah, .inr (4, [.ref ac, .ref au, .ref ab, .ref an, .ref ak, .ref ad, .int 0, .int 0, .long 0])), (ad, .inr (11, [.int (-1), .int 0, .int 0, .int 0, .int 0, .int 0]))]) [0, 1, 2] rfl
  have hDc := hD.sub (ws' := [(xt, .inr (12, [.ref ah, .ref xe, .ref xf])), (ah, .inr (4, [.ref ac, .ref au, .ref ab, .ref an, .ref ak, .ref ad, .int 0, .int 0, .long 0])), (ad, .inr (11, [.int (-1), .int 0, .int 0, .int 0, .int 0, .int 0]))]) [0, 1, 2] (by decide) rfl
  have hKc := hK.sub (tys' := [(cI, .int)]) [0] rfl
  have hFc := va_free (wc := [(xt, .inr (12, [.ref ah, .ref xe, .ref xf])), (ah, .inr (4, [.ref ac, .ref au, .ref ab, .ref an, .ref ak, .ref ad, .int 0, .int 0, .long 0])), (ad, .inr (11, [.int (-1), .int 0, .int 0, .int 0, .int 0, .int 0]))]) hD hS hA [0, 1, 2] rfl
  refine vx_calli (vx_runV (As := [.int v1, .int v2, .int v3]) (rest := [.int 0, .ref ou]) ⟨hx, hb, hml, hown, hts⟩ (c_X8_setWatchdog l hl9 dC dI g xt xe xf ah ac au ab an ak ad cI v1 v2 v3 s.heap.size) (cwV 3 hts gL_setWatchdog_X8_setWatchdog rfl rfl rfl (by decide +kernel) ⟨Nat.le_of_ble_eq_true rfl, Nat.le_of_ble_eq_true rfl⟩) ⟨wIn_blind, va_recv hK hP (ci := 12) (q0 := 0) rfl rfl, wIn_at hPc hKc hDc hG hS hFc⟩ rfl rfl hl.1 rfl (lv_room (Nat.le_of_ble_eq_true rfl)) dL_setWatchdog_7 ⟨Nat.le_of_ble_eq_true rfl, Nat.le_of_ble_eq_true rfl⟩) hS (fun q _ h => hFc q h) hFc (fun q _ h => hFc q h) (fun E9 ce9 q_2 u9 t H1 locs ht hvm hx9 hB9 hz1 hk1 hS hce hcv hcl => ?_) (fun r_1 u t H1 locs ht hvm hw hB hz1 hk1 hS => ?_)
  · rcases hB9 with ⟨rfl, hs9⟩ | ⟨rfl, hs9⟩
    · refine vx_catch (E := "java/lang/IndexOutOfBoundsException") (name := "java/lang/IndexOutOfBoundsException") hown [] ⟨0, 19, 22, 13⟩ [⟨0, 19, 26, 15⟩] (htab.trans rfl) (fun z hz => nomatch hz) (by decide) (by decide) hw0 (nw_use hN _ (List.mem_of_getElem? (i := 55) rfl)) hce hcv hcl ?_
      obtain ⟨hP, hD⟩ := va_join (wr := [(ou, .inl (cL, 1, .inr (.inl fo)))]) (w1 := []) hP hD [0, 1, 2] [3] rfl rfl (by decide) (by decide) hk1 hFc vaP0 vaD0
      generalize H1 = H at hP hS ⊢
      have hP : va_P (dC, dI) vwCl [(ou, .inl (cL, 1, .inr (.inl fo)))] H := hP
      have hD : va_D A [(ou, .inl (cL, 1, .inr (.inl fo)))] := hD
      refine W.widen (k := 1) (n := 6) (Nat.le_of_ble_eq_true rfl) (Nat.le_of_ble_eq_true rfl) ?_
      refine lv_astore (lv' := [(5, .ref q_2), (0, .ref xt), (1, .int v1), (2, .int v2), (3, .int v3), (4, .ref ou)]) hx hb dL_setWatchdog_22 hl (by decide) rfl (fun ls hl => ?_)
      refine lv_iconst (v := 1) hx hb dL_setWatchdog_24 (by decide) ?_
      have hP9 := hP.sub (ws' := [(ou, .inl (cL, 1, .inr (.inl fo)))]) [0] rfl
      have hD9 := hD.sub (ws' := [(ou, .inl (cL, 1, .inr (.inl fo)))]) [0] (by decide) rfl
      have hK9 := hK.sub (tys' := [(cI, .int), (cL, .long)]) [0, 1] rfl
      refine vx_ret ?_
      exact W.iret (v := 1) hx hb hr (fun t ht hW => ⟨⟨1, (fo), rfl, ⟨hs9.symm, (fun h9 => absurd (hs9.symm.trans h9) (by decide))⟩, wOut_at ht hW hP9 hK9 hD9⟩, hS.F ht⟩) hS.2.2 dL_setWatchdog_25
    · refine vx_catch (E := "java/lang/IllegalArgumentException") (name := "java/lang/IllegalArgumentException") hown [⟨0, 19, 22, 13⟩] ⟨0, 19, 26, 15⟩ [] (htab.trans rfl) (List.forall_mem_cons.2 ⟨Or.inr ⟨by decide, "java/lang/IndexOutOfBoundsException", hw0, (hG.2.2.2.2.2.2.2.2.2.2.1 _ (List.mem_of_getElem? (i := 3) rfl))⟩, (fun z hz => nomatch hz)⟩) (by decide) (by decide) hw1 (nw_use hN _ (List.mem_of_getElem? (i := 54) rfl)) hce hcv hcl ?_
      obtain ⟨hP, hD⟩ := va_join (wr := [(ou, .inl (cL, 1, .inr (.inl fo)))]) (w1 := []) hP hD [0, 1, 2] [3] rfl rfl (by decide) (by decide) hk1 hFc vaP0 vaD0
      generalize H1 = H at hP hS ⊢
      have hP : va_P (dC, dI) vwCl [(ou, .inl (cL, 1, .inr (.inl fo)))] H := hP
      have hD : va_D A [(ou, .inl (cL, 1, .inr (.inl fo)))] := hD
      refine W.widen (k := 1) (n := 6) (Nat.le_of_ble_eq_true rfl) (Nat.le_of_ble_eq_true rfl) ?_
      refine lv_astore (lv' := [(5, .ref q_2), (0, .ref xt), (1, .int v1), (2, .int v2), (3, .int v3), (4, .ref ou)]) hx hb dL_setWatchdog_26 hl (by decide) rfl (fun ls hl => ?_)
      refine lv_iconst (v := 2) hx hb dL_setWatchdog_28 (by decide) ?_
      have hP9 := hP.sub (ws' := [(ou, .inl (cL, 1, .inr (.inl fo)))]) [0] rfl
      have hD9 := hD.sub (ws' := [(ou, .inl (cL, 1, .inr (.inl fo)))]) [0] (by decide) rfl
      have hK9 := hK.sub (tys' := [(cI, .int), (cL, .long)]) [0, 1] rfl
      refine vx_ret ?_
      exact W.iret (v := 2) hx hb hr (fun t ht hW => ⟨⟨2, (fo), rfl, ⟨hs9.symm, (fun h9 => absurd (hs9.symm.trans h9) (by decide))⟩, wOut_at ht hW hP9 hK9 hD9⟩, hS.F ht⟩) hS.2.2 dL_setWatchdog_29
  · obtain ⟨hP1, hK1, hD1⟩ := hB
    rw [ht] at hP1
    obtain ⟨hP, hD⟩ := va_join (wr := [(ou, .inl (cL, 1, .inr (.inl fo)))]) (w1 := []) hP hD [0, 1, 2] [3] rfl rfl (by decide) (by decide) hk1 hFc hP1 hD1
    generalize H1 = H at hP hS ⊢
    have hP : va_P (dC, dI) vwCl [(ou, .inl (cL, 1, .inr (.inl fo)))] H := hP
    have hD : va_D A [(ou, .inl (cL, 1, .inr (.inl fo)))] := hD
    refine lt_ci (y := 0) hw.1 ?_
    have hs9 := hw.2
    refine W.widen (k := 1) (n := 6) (Nat.le_of_ble_eq_true rfl) (Nat.le_of_ble_eq_true rfl) ?_
    refine lv_if_eq (tgt := 17) hx hb dL_setWatchdog_10 (by decide) (fun _ => ?_) (fun c => absurd (by decide) c)
    refine lv_lconst (v := 0) hx hb dL_setWatchdog_17 rfl ?_
    refine va_last (D := (dC, dI)) hx hb hK hP hD hS 0 1 rfl rfl (by unfold vp_in; decide) dL_setWatchdog_18 (fun H locs hP hD hS => ?_)
    have hP : va_P (dC, dI) vwCl [(ou, .inl (cL, 1, .inr (.inl (vp_updL fo 0 0))))] H := hP
    have hD : va_D A [(ou, .inl (cL, 1, .inr (.inl (vp_updL fo 0 0))))] := hD
    refine lv_goto (tgt := 30) hx hb dL_setWatchdog_19 (by decide) ?_
    refine lv_iconst (v := 0) hx hb dL_setWatchdog_30 (by decide) ?_
    have hP9 := hP.sub (ws' := [(ou, .inl (cL, 1, .inr (.inl (vp_updL fo 0 0))))]) [0] rfl
    have hD9 := hD.sub (ws' := [(ou, .inl (cL, 1, .inr (.inl (vp_updL fo 0 0))))]) [0] (by decide) rfl
    have hK9 := hK.sub (tys' := [(cI, .int), (cL, .long)]) [0, 1] rfl
    refine vx_ret ?_
    exact W.iret (v := 0) hx hb hr (fun t ht hW => ⟨⟨0, (vp_updL fo 0 0), rfl, ⟨hs9.symm, (fun _ => rfl)⟩, wOut_at ht hW hP9 hK9 hD9⟩, hS.F ht⟩) hS.2.2 dL_setWatchdog_31
set_option maxHeartbeats 4000000 in
set_option maxRecDepth 100000 in
theorem c_L_request (l : Launch) (hl9 : l.stackTraces = false) (dC : Nat → ClassId) (dI : Nat → Nat → Nat) (g : Nat × Nat × Nat) (xt : Nat) (xe : Nat) (xf : Nat) (ah : Nat) (ac : Nat) (au : Nat) (ab : Nat) (an : Nat) (n1 : Nat) (n2 : Nat) (n3 : Nat) (n4 : Nat) (n5 : Nat) (ak : Nat) (ad : Nat) (cI : ClassId) (v1 : Int32) (fo : Nat → Int64) (ou : Nat) (cL : ClassId) (sz : Nat) : vx_Met l yL_request wsL_request ({ frames := 7, cells := 1, slots := 6, locals := 122 } : Room) (va_Pc [.ref xt, .int v1, .ref ou] (wIn dC dI g [(xt, .inr (12, [.ref ah, .ref xe, .ref xf])), (ah, .inr (4, [.ref ac, .ref au, .ref ab, .ref an, .ref ak, .ref ad, .int 0, .int 0, .long 0])), (an, .inr (6, [.ref n1, .ref n2, .ref n3, .ref n4, .ref n5, .int 0, .int 0])), (n1, .inl (cI, 8, .inl (cn 7))), (n2, .inl (cI, 8, .inl (cn 1))), (n3, .inl (cI, 8, .inl (cn 110))), (n4, .inl (cI, 8, .inl (cn 0))), (n5, .inl (cI, 8, .inl (cn 0))), (ou, .inl (cL, 1, .inr (.inl fo)))] [(cI, .int), (cL, .long)] sz)) (va_Qi (fun (r : Int32) (u : Nat → Int64) => r = sp_X8_request v1 ∧ (sp_X8_request v1 = 0 → u 0 = 1)) (fun (u : Nat → Int64) (t : State) => wOut dC dI [(ou, .inl (cL, 1, .inr (.inl u)))] [(cI, .int), (cL, .long)] (va_A [(xt, .inr (12, [.ref ah, .ref xe, .ref xf])), (ah, .inr (4, [.ref ac, .ref au, .ref ab, .ref an, .ref ak, .ref ad, .int 0, .int 0, .long 0])), (an, .inr (6, [.ref n1, .ref n2, .ref n3, .ref n4, .ref n5, .int 0, .int 0])), (n1, .inl (cI, 8, .inl (cn 7))), (n2, .inl (cI, 8, .inl (cn 1))), (n3, .inl (cI, 8, .inl (cn 110))), (n4, .inl (cI, 8, .inl (cn 0))), (n5, .inl (cI, 8, .inl (cn 0))), (ou, .inl (cL, 1, .inr (.inl fo)))] sz) t) (va_A [(xt, .inr (12, [.ref ah, .ref xe, .ref xf])), (ah, .inr (4, [.ref ac, .ref au, .ref ab, .ref an, .ref ak, .ref ad, .int 0, .int 0, .long 0])), (an, .inr (6, [.ref n1, .ref n2, .ref n3, .ref n4, .ref n5, .int 0, .int 0])), (n1, .inl (cI, 8, .inl (cn 7))), (n2, .inl (cI, 8, .inl (cn 1))), (n3, .inl (cI, 8, .inl (cn 110))), (n4, .inl (cI, 8, .inl (cn 0))), (n5, .inl (cI, 8, .inl (cn 0))), (ou, .inl (cL, 1, .inr (.inl fo)))] sz)) (vx_X (fun (_ : Unit) => False) (fun (_ : String) (_ : Unit) (_ : State) => True) (va_A [(xt, .inr (12, [.ref ah, .ref xe, .ref xf])), (ah, .inr (4, [.ref ac, .ref au, .ref ab, .ref an, .ref ak, .ref ad, .int 0, .int 0, .long 0])), (an, .inr (6, [.ref n1, .ref n2, .ref n3, .ref n4, .ref n5, .int 0, .int 0])), (n1, .inl (cI, 8, .inl (cn 7))), (n2, .inl (cI, 8, .inl (cn 1))), (n3, .inl (cI, 8, .inl (cn 110))), (n4, .inl (cI, 8, .inl (cn 0))), (n5, .inl (cI, 8, .inl (cn 0))), (ou, .inl (cL, 1, .inr (.inl fo)))] sz)) 1 6 (va_A [(xt, .inr (12, [.ref ah, .ref xe, .ref xf])), (ah, .inr (4, [.ref ac, .ref au, .ref ab, .ref an, .ref ak, .ref ad, .int 0, .int 0, .long 0])), (an, .inr (6, [.ref n1, .ref n2, .ref n3, .ref n4, .ref n5, .int 0, .int 0])), (n1, .inl (cI, 8, .inl (cn 7))), (n2, .inl (cI, 8, .inl (cn 1))), (n3, .inl (cI, 8, .inl (cn 110))), (n4, .inl (cI, 8, .inl (cn 0))), (n5, .inl (cI, 8, .inl (cn 0))), (ou, .inl (cL, 1, .inr (.inl fo)))] sz) := by
  refine vx_ofWH (cc := cL_request) (maxL := 4) (ret := (some .int)) (hh := [(0, 16, 19, 13)]) (by decide) rfl ?_
  intro p e s m args below meth c s₁ B hml hv
  obtain ⟨rfl, hsz, hP, hK, hD0, hG⟩ := hv
  have hx := B.exec
  have hb := B.bytes
  have hr := B.returns
  have hts := atoms_spec (ws := wsL_request) B.pre
  have hown : s.vm.findClass RL = some m.cls := findClass_of_methodNamed B.named
  have hlocks := B.notSynchronized
  have htab : c.exceptionTable.toList = tableOf [(0, 16, 19, 13)] := vx_table (x := yL_request) B (hts _ List.mem_cons_self)
  subst hsz
  have hD := hD0.self (sz := s.heap.size)
  generalize hAe : va_A [(xt, .inr (12, [.ref ah, .ref xe, .ref xf])), (ah, .inr (4, [.ref ac, .ref au, .ref ab, .ref an, .ref ak, .ref ad, .int 0, .int 0, .long 0])), (an, .inr (6, [.ref n1, .ref n2, .ref n3, .ref n4, .ref n5, .int 0, .int 0])), (n1, .inl (cI, 8, .inl (cn 7))), (n2, .inl (cI, 8, .inl (cn 1))), (n3, .inl (cI, 8, .inl (cn 110))), (n4, .inl (cI, 8, .inl (cn 0))), (n5, .inl (cI, 8, .inl (cn 0))), (ou, .inl (cL, 1, .inr (.inl fo)))] s.heap.size = A at hD hG ⊢
  have hN := hG.1
  have hA : ∀ q : Nat, s.heap.size ≤ q → A q := fun q h => by rw [← hAe]; exact Or.inr h
  have hS : va_S A s.heap s.heap [] := va_S.rf
  have hP : va_P (dC, dI) vwCl [(xt, .inr (12, [.ref ah, .ref xe, .ref xf])), (ah, .inr (4, [.ref ac, .ref au, .ref ab, .ref an, .ref ak, .ref ad, .int 0, .int 0, .long 0])), (an, .inr (6, [.ref n1, .ref n2, .ref n3, .ref n4, .ref n5, .int 0, .int 0])), (n1, .inl (cI, 8, .inl (cn 7))), (n2, .inl (cI, 8, .inl (cn 1))), (n3, .inl (cI, 8, .inl (cn 110))), (n4, .inl (cI, 8, .inl (cn 0))), (n5, .inl (cI, 8, .inl (cn 0))), (ou, .inl (cL, 1, .inr (.inl fo)))] s.heap := hP
  have hw0 : (Cond.classLink RL 13 "java/lang/IndexOutOfBoundsException").before _ s = true := hts _ (List.mem_cons_of_mem _ (List.mem_append_left _ (List.mem_append_left _ (List.mem_append_left _ (List.mem_append_left _ (List.mem_append_left _ (List.mem_of_getElem? (i := 0) rfl)))))))
  have hl := lv_entry ([.ref xt, .int v1, .ref ou]) (n := 4) (Nat.le_of_ble_eq_true rfl)
  rw [lg_entry_eq]
  generalize (lg_sl ([.ref xt, .int v1, .ref ou]) ++ List.replicate (4 - (lg_sl ([.ref xt, .int v1, .ref ou])).length) Slot.unset).toArray = ls at hl ⊢
  have hl : lv_has ls 4 [(0, .ref xt), (1, .int v1), (2, .ref ou)] := hl
  refine lv_aload_n hx hb dL_request_0 rfl (lv_at hl 2 rfl) ?_
  refine lv_iconst (v := 0) hx hb dL_request_1 (by decide) ?_
  refine lv_aload_n hx hb dL_request_2 rfl (lv_at hl 0 rfl) ?_
  refine lv_iload_n hx hb dL_request_3 rfl (lv_at hl 1 rfl) ?_
  have hPc := hP.sub (ws' := [(xt, .inr (12, [.ref ah, .ref xe, .ref xf])), (ah, .inr (4, [.ref ac, .ref au, .ref ab, .ref an, .ref ak, .ref ad, .int 0, .int 0, .long 0])), (an, .inr (6, [.ref n1, .ref n2, .ref n3, .ref n4, .ref n5, .int 0, .int 0])), (n1, .inl (cI, 8, .inl (cn 7))), (n2, .inl (cI, 8, .inl (cn 1))), (n3, .inl (cI, 8, .inl (cn 110))), (n4, .inl (cI, 8, .inl (cn 0))), (n5, .inl (cI, 8, .inl (cn 0)))]) [0, 1, 2, 3, 4, 5, 6, 7] rfl
  have hDc := hD.sub (ws' := [(xt, .inr (12, [.ref ah, .ref xe, .ref xf])), (ah, .inr (4, [.ref ac, .ref au, .ref ab, .ref an, .ref ak, .ref ad, .int 0, .int 0, .long 0])), (an, .inr (6, [.ref n1, .ref n2, .ref n3, .ref n4, .ref n5, .int 0, .int 0])), (n1, .inl (cI, 8, .inl (cn 7))), (n2, .inl (cI, 8, .inl (cn 1))), (n3, .inl (cI, 8, .inl (cn 110))), (n4, .inl (cI, 8, .inl (cn 0))), (n5, .inl (cI, 8, .inl (cn 0)))]) [0, 1, 2, 3, 4, 5, 6, 7] (by decide) rfl
  have hKc := hK.sub (tys' := [(cI, .int)]) [0] rfl
  have hFc := va_free (wc := [(xt, .inr (12, [.ref ah, .ref xe, .ref xf])), (ah, .inr (4, [.ref ac, .ref au, .ref ab, .ref an, .ref ak, .ref ad, .int 0, .int 0, .long 0])), (an, .inr (6, [.ref n1, .ref n2, .ref n3, .ref n4, .ref n5, .int 0, .int 0])), (n1, .inl (cI, 8, .inl (cn 7))), (n2, .inl (cI, 8, .inl (cn 1))), (n3, .inl (cI, 8, .inl (cn 110))), (n4, .inl (cI, 8, .inl (cn 0))), (n5, .inl (cI, 8, .inl (cn 0)))]) hD hS hA [0, 1, 2, 3, 4, 5, 6, 7] rfl
  refine vx_calli (vx_runV (As := [.int v1]) (rest := [.int 0, .ref ou]) ⟨hx, hb, hml, hown, hts⟩ (c_X8_request l hl9 dC dI g xt xe xf ah ac au ab an n1 n2 n3 n4 n5 ak ad cI v1 s.heap.size) (cwV 1 hts gL_request_X8_request rfl rfl rfl (by decide +kernel) ⟨Nat.le_of_ble_eq_true rfl, Nat.le_of_ble_eq_true rfl⟩) ⟨wIn_blind, va_recv hK hP (ci := 12) (q0 := 0) rfl rfl, wIn_at hPc hKc hDc hG hS hFc⟩ rfl rfl hl.1 rfl (lv_room (Nat.le_of_ble_eq_true rfl)) dL_request_4 ⟨Nat.le_of_ble_eq_true rfl, Nat.le_of_ble_eq_true rfl⟩) hS (fun q _ h => hFc q h) hFc (fun q _ h => hFc q h) (fun E9 ce9 q_2 u9 t H1 locs ht hvm hx9 hB9 hz1 hk1 hS hce hcv hcl => ?_) (fun r_1 u t H1 locs ht hvm hw hB hz1 hk1 hS => ?_)
  · obtain ⟨rfl, hs9⟩ := hB9
    refine vx_catch (E := "java/lang/IndexOutOfBoundsException") (name := "java/lang/IndexOutOfBoundsException") hown [] ⟨0, 16, 19, 13⟩ [] (htab.trans rfl) (fun z hz => nomatch hz) (by decide) (by decide) hw0 (nw_use hN _ (List.mem_of_getElem? (i := 55) rfl)) hce hcv hcl ?_
    obtain ⟨hP, hD⟩ := va_join (wr := [(ou, .inl (cL, 1, .inr (.inl fo)))]) (w1 := []) hP hD [0, 1, 2, 3, 4, 5, 6, 7] [8] rfl rfl (by decide) (by decide) hk1 hFc vaP0 vaD0
    generalize H1 = H at hP hS ⊢
    have hP : va_P (dC, dI) vwCl [(ou, .inl (cL, 1, .inr (.inl fo)))] H := hP
    have hD : va_D A [(ou, .inl (cL, 1, .inr (.inl fo)))] := hD
    refine W.widen (k := 1) (n := 6) (Nat.le_of_ble_eq_true rfl) (Nat.le_of_ble_eq_true rfl) ?_
    refine lv_astore_n (lv' := [(3, .ref q_2), (0, .ref xt), (1, .int v1), (2, .ref ou)]) hx hb dL_request_19 rfl hl (by decide) rfl (fun ls hl => ?_)
    refine lv_iconst (v := 1) hx hb dL_request_20 (by decide) ?_
    have hP9 := hP.sub (ws' := [(ou, .inl (cL, 1, .inr (.inl fo)))]) [0] rfl
    have hD9 := hD.sub (ws' := [(ou, .inl (cL, 1, .inr (.inl fo)))]) [0] (by decide) rfl
    have hK9 := hK.sub (tys' := [(cI, .int), (cL, .long)]) [0, 1] rfl
    refine vx_ret ?_
    exact W.iret (v := 1) hx hb hr (fun t ht hW => ⟨⟨1, (fo), rfl, ⟨hs9.symm, (fun h9 => absurd (hs9.symm.trans h9) (by decide))⟩, wOut_at ht hW hP9 hK9 hD9⟩, hS.F ht⟩) hS.2.2 dL_request_21
  · obtain ⟨hP1, hK1, hD1⟩ := hB
    rw [ht] at hP1
    obtain ⟨hP, hD⟩ := va_join (wr := [(ou, .inl (cL, 1, .inr (.inl fo)))]) (w1 := []) hP hD [0, 1, 2, 3, 4, 5, 6, 7] [8] rfl rfl (by decide) (by decide) hk1 hFc hP1 hD1
    generalize H1 = H at hP hS ⊢
    have hP : va_P (dC, dI) vwCl [(ou, .inl (cL, 1, .inr (.inl fo)))] H := hP
    have hD : va_D A [(ou, .inl (cL, 1, .inr (.inl fo)))] := hD
    refine lt_ci (y := 1) hw.1 ?_
    have hs9 := hw.2
    refine W.widen (k := 1) (n := 6) (Nat.le_of_ble_eq_true rfl) (Nat.le_of_ble_eq_true rfl) ?_
    refine lv_if_eq (tgt := 14) hx hb dL_request_7 (by decide) (fun c => absurd c (by decide)) (fun _ => ?_)
    refine lv_lconst (v := 1) hx hb dL_request_10 rfl ?_
    refine lv_goto (tgt := 15) hx hb dL_request_11 (by decide) ?_
    refine va_last (D := (dC, dI)) hx hb hK hP hD hS 0 1 rfl rfl (by unfold vp_in; decide) dL_request_15 (fun H locs hP hD hS => ?_)
    have hP : va_P (dC, dI) vwCl [(ou, .inl (cL, 1, .inr (.inl (vp_updL fo 0 1))))] H := hP
    have hD : va_D A [(ou, .inl (cL, 1, .inr (.inl (vp_updL fo 0 1))))] := hD
    refine lv_goto (tgt := 22) hx hb dL_request_16 (by decide) ?_
    refine lv_iconst (v := 0) hx hb dL_request_22 (by decide) ?_
    have hP9 := hP.sub (ws' := [(ou, .inl (cL, 1, .inr (.inl (vp_updL fo 0 1))))]) [0] rfl
    have hD9 := hD.sub (ws' := [(ou, .inl (cL, 1, .inr (.inl (vp_updL fo 0 1))))]) [0] (by decide) rfl
    have hK9 := hK.sub (tys' := [(cI, .int), (cL, .long)]) [0, 1] rfl
    refine vx_ret ?_
    exact W.iret (v := 0) hx hb hr (fun t ht hW => ⟨⟨0, (vp_updL fo 0 1), rfl, ⟨hs9.symm, (fun _ => rfl)⟩, wOut_at ht hW hP9 hK9 hD9⟩, hS.F ht⟩) hS.2.2 dL_request_23
set_option maxHeartbeats 4000000 in
set_option maxRecDepth 100000 in
theorem c_L_ticks (l : Launch) (hl9 : l.stackTraces = false) (dC : Nat → ClassId) (dI : Nat → Nat → Nat) (g : Nat × Nat × Nat) (xt : Nat) (xe : Nat) (xf : Nat) (ah : Nat) (ac : Nat) (c1 : Nat) (c2 : Nat) (c3 : Nat) (c4 : Nat) (c5 : Nat) (au : Nat) (ab : Nat) (an : Nat) (ak : Nat) (ad : Nat) (cI : ClassId) (v1 : Int32) (fo : Nat → Int64) (ou : Nat) (cL : ClassId) (sz : Nat) : vx_Met l yL_ticks wsL_ticks ({ frames := 7, cells := 1, slots := 6, locals := 121 } : Room) (va_Pc [.ref xt, .int v1, .ref ou] (wIn dC dI g [(xt, .inr (12, [.ref ah, .ref xe, .ref xf])), (ah, .inr (4, [.ref ac, .ref au, .ref ab, .ref an, .ref ak, .ref ad, .int 0, .int 0, .long 0])), (ac, .inr (5, [.ref c1, .ref c2, .ref c3, .ref c4, .ref c5, .int 15])), (c1, .inl (cI, 4, .inl (cn 0))), (c2, .inl (cI, 4, .inl (cn 1))), (c3, .inl (cI, 4, .inl (cn 0))), (c4, .inl (cI, 4, .inl (cn 0))), (c5, .inl (cI, 4, .inl (cn 0))), (ou, .inl (cL, 1, .inr (.inl fo)))] [(cI, .int), (cL, .long)] sz)) (va_Qi (fun (r : Int32) (u : Nat → Int64) => r = sp_X8_ticks v1 ∧ (sp_X8_ticks v1 = 0 → u 0 = 0)) (fun (u : Nat → Int64) (t : State) => wOut dC dI [(ou, .inl (cL, 1, .inr (.inl u)))] [(cI, .int), (cL, .long)] (va_A [(xt, .inr (12, [.ref ah, .ref xe, .ref xf])), (ah, .inr (4, [.ref ac, .ref au, .ref ab, .ref an, .ref ak, .ref ad, .int 0, .int 0, .long 0])), (ac, .inr (5, [.ref c1, .ref c2, .ref c3, .ref c4, .ref c5, .int 15])), (c1, .inl (cI, 4, .inl (cn 0))), (c2, .inl (cI, 4, .inl (cn 1))), (c3, .inl (cI, 4, .inl (cn 0))), (c4, .inl (cI, 4, .inl (cn 0))), (c5, .inl (cI, 4, .inl (cn 0))), (ou, .inl (cL, 1, .inr (.inl fo)))] sz) t) (va_A [(xt, .inr (12, [.ref ah, .ref xe, .ref xf])), (ah, .inr (4, [.ref ac, .ref au, .ref ab, .ref an, .ref ak, .ref ad, .int 0, .int 0, .long 0])), (ac, .inr (5, [.ref c1, .ref c2, .ref c3, .ref c4, .ref c5, .int 15])), (c1, .inl (cI, 4, .inl (cn 0))), (c2, .inl (cI, 4, .inl (cn 1))), (c3, .inl (cI, 4, .inl (cn 0))), (c4, .inl (cI, 4, .inl (cn 0))), (c5, .inl (cI, 4, .inl (cn 0))), (ou, .inl (cL, 1, .inr (.inl fo)))] sz)) (vx_X (fun (_ : Unit) => False) (fun (_ : String) (_ : Unit) (_ : State) => True) (va_A [(xt, .inr (12, [.ref ah, .ref xe, .ref xf])), (ah, .inr (4, [.ref ac, .ref au, .ref ab, .ref an, .ref ak, .ref ad, .int 0, .int 0, .long 0])), (ac, .inr (5, [.ref c1, .ref c2, .ref c3, .ref c4, .ref c5, .int 15])), (c1, .inl (cI, 4, .inl (cn 0))), (c2, .inl (cI, 4, .inl (cn 1))), (c3, .inl (cI, 4, .inl (cn 0))), (c4, .inl (cI, 4, .inl (cn 0))), (c5, .inl (cI, 4, .inl (cn 0))), (ou, .inl (cL, 1, .inr (.inl fo)))] sz)) 1 6 (va_A [(xt, .inr (12, [.ref ah, .ref xe, .ref xf])), (ah, .inr (4, [.ref ac, .ref au, .ref ab, .ref an, .ref ak, .ref ad, .int 0, .int 0, .long 0])), (ac, .inr (5, [.ref c1, .ref c2, .ref c3, .ref c4, .ref c5, .int 15])), (c1, .inl (cI, 4, .inl (cn 0))), (c2, .inl (cI, 4, .inl (cn 1))), (c3, .inl (cI, 4, .inl (cn 0))), (c4, .inl (cI, 4, .inl (cn 0))), (c5, .inl (cI, 4, .inl (cn 0))), (ou, .inl (cL, 1, .inr (.inl fo)))] sz) := by
  refine vx_ofWH (cc := cL_ticks) (maxL := 4) (ret := (some .int)) (hh := [(0, 9, 12, 13)]) (by decide) rfl ?_
  intro p e s m args below meth c s₁ B hml hv
  obtain ⟨rfl, hsz, hP, hK, hD0, hG⟩ := hv
  have hx := B.exec
  have hb := B.bytes
  have hr := B.returns
  have hts := atoms_spec (ws := wsL_ticks) B.pre
  have hown : s.vm.findClass RL = some m.cls := findClass_of_methodNamed B.named
  have hlocks := B.notSynchronized
  have htab : c.exceptionTable.toList = tableOf [(0, 9, 12, 13)] := vx_table (x := yL_ticks) B (hts _ List.mem_cons_self)
  subst hsz
  have hD := hD0.self (sz := s.heap.size)
  generalize hAe : va_A [(xt, .inr (12, [.ref ah, .ref xe, .ref xf])), (ah, .inr (4, [.ref ac, .ref au, .ref ab, .ref an, .ref ak, .ref ad, .int 0, .int 0, .long 0])), (ac, .inr (5, [.ref c1, .ref c2, .ref c3, .ref c4, .ref c5, .int 15])), (c1, .inl (cI, 4, .inl (cn 0))), (c2, .inl (cI, 4, .inl (cn 1))), (c3, .inl (cI, 4, .inl (cn 0))), (c4, .inl (cI, 4, .inl (cn 0))), (c5, .inl (cI, 4, .inl (cn 0))), (ou, .inl (cL, 1, .inr (.inl fo)))] s.heap.size = A at hD hG ⊢
  have hN := hG.1
  have hA : ∀ q : Nat, s.heap.size ≤ q → A q := fun q h => by rw [← hAe]; exact Or.inr h
  have hS : va_S A s.heap s.heap [] := va_S.rf
  have hP : va_P (dC, dI) vwCl [(xt, .inr (12, [.ref ah, .ref xe, .ref xf])), (ah, .inr (4, [.ref ac, .ref au, .ref ab, .ref an, .ref ak, .ref ad, .int 0, .int 0, .long 0])), (ac, .inr (5, [.ref c1, .ref c2, .ref c3, .ref c4, .ref c5, .int 15])), (c1, .inl (cI, 4, .inl (cn 0))), (c2, .inl (cI, 4, .inl (cn 1))), (c3, .inl (cI, 4, .inl (cn 0))), (c4, .inl (cI, 4, .inl (cn 0))), (c5, .inl (cI, 4, .inl (cn 0))), (ou, .inl (cL, 1, .inr (.inl fo)))] s.heap := hP
  have hw0 : (Cond.classLink RL 13 "java/lang/IndexOutOfBoundsException").before _ s = true := hts _ (List.mem_cons_of_mem _ (List.mem_append_left _ (List.mem_append_left _ (List.mem_append_left _ (List.mem_append_left _ (List.mem_append_left _ (List.mem_of_getElem? (i := 0) rfl)))))))
  have hl := lv_entry ([.ref xt, .int v1, .ref ou]) (n := 4) (Nat.le_of_ble_eq_true rfl)
  rw [lg_entry_eq]
  generalize (lg_sl ([.ref xt, .int v1, .ref ou]) ++ List.replicate (4 - (lg_sl ([.ref xt, .int v1, .ref ou])).length) Slot.unset).toArray = ls at hl ⊢
  have hl : lv_has ls 4 [(0, .ref xt), (1, .int v1), (2, .ref ou)] := hl
  refine lv_aload_n hx hb dL_ticks_0 rfl (lv_at hl 2 rfl) ?_
  refine lv_iconst (v := 0) hx hb dL_ticks_1 (by decide) ?_
  refine lv_aload_n hx hb dL_ticks_2 rfl (lv_at hl 0 rfl) ?_
  refine lv_iload_n hx hb dL_ticks_3 rfl (lv_at hl 1 rfl) ?_
  have hPc := hP.sub (ws' := [(xt, .inr (12, [.ref ah, .ref xe, .ref xf])), (ah, .inr (4, [.ref ac, .ref au, .ref ab, .ref an, .ref ak, .ref ad, .int 0, .int 0, .long 0])), (ac, .inr (5, [.ref c1, .ref c2, .ref c3, .ref c4, .ref c5, .int 15])), (c1, .inl (cI, 4, .inl (cn 0))), (c2, .inl (cI, 4, .inl (cn 1))), (c3, .inl (cI, 4, .inl (cn 0))), (c4, .inl (cI, 4, .inl (cn 0))), (c5, .inl (cI, 4, .inl (cn 0)))]) [0, 1, 2, 3, 4, 5, 6, 7] rfl
  have hDc := hD.sub (ws' := [(xt, .inr (12, [.ref ah, .ref xe, .ref xf])), (ah, .inr (4, [.ref ac, .ref au, .ref ab, .ref an, .ref ak, .ref ad, .int 0, .int 0, .long 0])), (ac, .inr (5, [.ref c1, .ref c2, .ref c3, .ref c4, .ref c5, .int 15])), (c1, .inl (cI, 4, .inl (cn 0))), (c2, .inl (cI, 4, .inl (cn 1))), (c3, .inl (cI, 4, .inl (cn 0))), (c4, .inl (cI, 4, .inl (cn 0))), (c5, .inl (cI, 4, .inl (cn 0)))]) [0, 1, 2, 3, 4, 5, 6, 7] (by decide) rfl
  have hKc := hK.sub (tys' := [(cI, .int)]) [0] rfl
  have hFc := va_free (wc := [(xt, .inr (12, [.ref ah, .ref xe, .ref xf])), (ah, .inr (4, [.ref ac, .ref au, .ref ab, .ref an, .ref ak, .ref ad, .int 0, .int 0, .long 0])), (ac, .inr (5, [.ref c1, .ref c2, .ref c3, .ref c4, .ref c5, .int 15])), (c1, .inl (cI, 4, .inl (cn 0))), (c2, .inl (cI, 4, .inl (cn 1))), (c3, .inl (cI, 4, .inl (cn 0))), (c4, .inl (cI, 4, .inl (cn 0))), (c5, .inl (cI, 4, .inl (cn 0)))]) hD hS hA [0, 1, 2, 3, 4, 5, 6, 7] rfl
  refine vx_calli (vx_runV (As := [.int v1]) (rest := [.int 0, .ref ou]) ⟨hx, hb, hml, hown, hts⟩ (c_X8_ticks l hl9 dC dI g xt xe xf ah ac c1 c2 c3 c4 c5 au ab an ak ad cI v1 s.heap.size) (cwV 1 hts gL_ticks_X8_ticks rfl rfl rfl (by decide +kernel) ⟨Nat.le_of_ble_eq_true rfl, Nat.le_of_ble_eq_true rfl⟩) ⟨wIn_blind, va_recv hK hP (ci := 12) (q0 := 0) rfl rfl, wIn_at hPc hKc hDc hG hS hFc⟩ rfl rfl hl.1 rfl (lv_room (Nat.le_of_ble_eq_true rfl)) dL_ticks_4 ⟨Nat.le_of_ble_eq_true rfl, Nat.le_of_ble_eq_true rfl⟩) hS (fun q _ h => hFc q h) hFc (fun q _ h => hFc q h) (fun E9 ce9 q_2 u9 t H1 locs ht hvm hx9 hB9 hz1 hk1 hS hce hcv hcl => ?_) (fun r_1 u t H1 locs ht hvm hw hB hz1 hk1 hS => ?_)
  · obtain ⟨rfl, hs9⟩ := hB9
    refine vx_catch (E := "java/lang/IndexOutOfBoundsException") (name := "java/lang/IndexOutOfBoundsException") hown [] ⟨0, 9, 12, 13⟩ [] (htab.trans rfl) (fun z hz => nomatch hz) (by decide) (by decide) hw0 (nw_use hN _ (List.mem_of_getElem? (i := 55) rfl)) hce hcv hcl ?_
    obtain ⟨hP, hD⟩ := va_join (wr := [(ou, .inl (cL, 1, .inr (.inl fo)))]) (w1 := []) hP hD [0, 1, 2, 3, 4, 5, 6, 7] [8] rfl rfl (by decide) (by decide) hk1 hFc vaP0 vaD0
    generalize H1 = H at hP hS ⊢
    have hP : va_P (dC, dI) vwCl [(ou, .inl (cL, 1, .inr (.inl fo)))] H := hP
    have hD : va_D A [(ou, .inl (cL, 1, .inr (.inl fo)))] := hD
    refine W.widen (k := 1) (n := 6) (Nat.le_of_ble_eq_true rfl) (Nat.le_of_ble_eq_true rfl) ?_
    refine lv_astore_n (lv' := [(3, .ref q_2), (0, .ref xt), (1, .int v1), (2, .ref ou)]) hx hb dL_ticks_12 rfl hl (by decide) rfl (fun ls hl => ?_)
    refine lv_iconst (v := 1) hx hb dL_ticks_13 (by decide) ?_
    have hP9 := hP.sub (ws' := [(ou, .inl (cL, 1, .inr (.inl fo)))]) [0] rfl
    have hD9 := hD.sub (ws' := [(ou, .inl (cL, 1, .inr (.inl fo)))]) [0] (by decide) rfl
    have hK9 := hK.sub (tys' := [(cI, .int), (cL, .long)]) [0, 1] rfl
    refine vx_ret ?_
    exact W.iret (v := 1) hx hb hr (fun t ht hW => ⟨⟨1, (fo), rfl, ⟨hs9.symm, (fun h9 => absurd (hs9.symm.trans h9) (by decide))⟩, wOut_at ht hW hP9 hK9 hD9⟩, hS.F ht⟩) hS.2.2 dL_ticks_14
  · obtain ⟨hP1, hK1, hD1⟩ := hB
    rw [ht] at hP1
    obtain ⟨hP, hD⟩ := va_join (wr := [(ou, .inl (cL, 1, .inr (.inl fo)))]) (w1 := []) hP hD [0, 1, 2, 3, 4, 5, 6, 7] [8] rfl rfl (by decide) (by decide) hk1 hFc hP1 hD1
    generalize H1 = H at hP hS ⊢
    have hP : va_P (dC, dI) vwCl [(ou, .inl (cL, 1, .inr (.inl fo)))] H := hP
    have hD : va_D A [(ou, .inl (cL, 1, .inr (.inl fo)))] := hD
    refine lt_ci (y := 0) hw.1 ?_
    have hs9 := hw.2
    refine W.widen (k := 1) (n := 6) (Nat.le_of_ble_eq_true rfl) (Nat.le_of_ble_eq_true rfl) ?_
    refine lv_i2l (v := 0) hx hb dL_ticks_7 (by first | rfl | decide) ?_
    refine va_last (D := (dC, dI)) hx hb hK hP hD hS 0 1 rfl rfl (by unfold vp_in; decide) dL_ticks_8 (fun H locs hP hD hS => ?_)
    have hP : va_P (dC, dI) vwCl [(ou, .inl (cL, 1, .inr (.inl (vp_updL fo 0 0))))] H := hP
    have hD : va_D A [(ou, .inl (cL, 1, .inr (.inl (vp_updL fo 0 0))))] := hD
    refine lv_goto (tgt := 15) hx hb dL_ticks_9 (by decide) ?_
    refine lv_iconst (v := 0) hx hb dL_ticks_15 (by decide) ?_
    have hP9 := hP.sub (ws' := [(ou, .inl (cL, 1, .inr (.inl (vp_updL fo 0 0))))]) [0] rfl
    have hD9 := hD.sub (ws' := [(ou, .inl (cL, 1, .inr (.inl (vp_updL fo 0 0))))]) [0] (by decide) rfl
    have hK9 := hK.sub (tys' := [(cI, .int), (cL, .long)]) [0, 1] rfl
    refine vx_ret ?_
    exact W.iret (v := 0) hx hb hr (fun t ht hW => ⟨⟨0, (vp_updL fo 0 0), rfl, ⟨hs9.symm, (fun _ => rfl)⟩, wOut_at ht hW hP9 hK9 hD9⟩, hS.F ht⟩) hS.2.2 dL_ticks_16
set_option maxHeartbeats 4000000 in
set_option maxRecDepth 100000 in
theorem c_L_count (l : Launch) (hl9 : l.stackTraces = false) (dC : Nat → ClassId) (dI : Nat → Nat → Nat) (g : Nat × Nat × Nat) (xt : Nat) (xe : Nat) (xf : Nat) (ah : Nat) (ac : Nat) (au : Nat) (t1 : Nat) (t2 : Nat) (t3 : Nat) (t4 : Nat) (t5 : Nat) (t6 : Nat) (t7 : Nat) (ab : Nat) (an : Nat) (ak : Nat) (ad : Nat) (cI : ClassId) (v1 : Int32) (fo : Nat → Int64) (ou : Nat) (cL : ClassId) (sz : Nat) : vx_Met l yL_count wsL_count ({ frames := 7, cells := 1, slots := 6, locals := 121 } : Room) (va_Pc [.ref xt, .int v1, .ref ou] (wIn dC dI g [(xt, .inr (12, [.ref ah, .ref xe, .ref xf])), (ah, .inr (4, [.ref ac, .ref au, .ref ab, .ref an, .ref ak, .ref ad, .int 0, .int 0, .long 0])), (au, .inr (10, [.ref t1, .ref t2, .ref t3, .ref t4, .ref t5, .ref t6, .ref t7, .int 0, .int 0])), (t1, .inl (cI, 4, .inl (cn 0))), (t2, .inl (cI, 4, .inl (cn 10))), (t3, .inl (cI, 4, .inl (cn 10))), (t4, .inl (cI, 4, .inl (cn (-1)))), (t5, .inl (cI, 4, .inl (cn 0))), (t6, .inl (cI, 4, .inl (cn 0))), (t7, .inl (cI, 4, .inl (cn 110))), (ou, .inl (cL, 1, .inr (.inl fo)))] [(cI, .int), (cL, .long)] sz)) (va_Qi (fun (r : Int32) (u : Nat → Int64) => r = sp_X8_count v1 ∧ (sp_X8_count v1 = 0 → u 0 = 0)) (fun (u : Nat → Int64) (t : State) => wOut dC dI [(ou, .inl (cL, 1, .inr (.inl u)))] [(cI, .int), (cL, .long)] (va_A [(xt, .inr (12, [.ref ah, .ref xe, .ref xf])), (ah, .inr (4, [.ref ac, .ref au, .ref ab, .ref an, .ref ak, .ref ad, .int 0, .int 0, .long 0])), (au, .inr (10, [.ref t1, .ref t2, .ref t3, .ref t4, .ref t5, .ref t6, .ref t7, .int 0, .int 0])), (t1, .inl (cI, 4, .inl (cn 0))), (t2, .inl (cI, 4, .inl (cn 10))), (t3, .inl (cI, 4, .inl (cn 10))), (t4, .inl (cI, 4, .inl (cn (-1)))), (t5, .inl (cI, 4, .inl (cn 0))), (t6, .inl (cI, 4, .inl (cn 0))), (t7, .inl (cI, 4, .inl (cn 110))), (ou, .inl (cL, 1, .inr (.inl fo)))] sz) t) (va_A [(xt, .inr (12, [.ref ah, .ref xe, .ref xf])), (ah, .inr (4, [.ref ac, .ref au, .ref ab, .ref an, .ref ak, .ref ad, .int 0, .int 0, .long 0])), (au, .inr (10, [.ref t1, .ref t2, .ref t3, .ref t4, .ref t5, .ref t6, .ref t7, .int 0, .int 0])), (t1, .inl (cI, 4, .inl (cn 0))), (t2, .inl (cI, 4, .inl (cn 10))), (t3, .inl (cI, 4, .inl (cn 10))), (t4, .inl (cI, 4, .inl (cn (-1)))), (t5, .inl (cI, 4, .inl (cn 0))), (t6, .inl (cI, 4, .inl (cn 0))), (t7, .inl (cI, 4, .inl (cn 110))), (ou, .inl (cL, 1, .inr (.inl fo)))] sz)) (vx_X (fun (_ : Unit) => False) (fun (_ : String) (_ : Unit) (_ : State) => True) (va_A [(xt, .inr (12, [.ref ah, .ref xe, .ref xf])), (ah, .inr (4, [.ref ac, .ref au, .ref ab, .ref an, .ref ak, .ref ad, .int 0, .int 0, .long 0])), (au, .inr (10, [.ref t1, .ref t2, .ref t3, .ref t4, .ref t5, .ref t6, .ref t7, .int 0, .int 0])), (t1, .inl (cI, 4, .inl (cn 0))), (t2, .inl (cI, 4, .inl (cn 10))), (t3, .inl (cI, 4, .inl (cn 10))), (t4, .inl (cI, 4, .inl (cn (-1)))), (t5, .inl (cI, 4, .inl (cn 0))), (t6, .inl (cI, 4, .inl (cn 0))), (t7, .inl (cI, 4, .inl (cn 110))), (ou, .inl (cL, 1, .inr (.inl fo)))] sz)) 1 6 (va_A [(xt, .inr (12, [.ref ah, .ref xe, .ref xf])), (ah, .inr (4, [.ref ac, .ref au, .ref ab, .ref an, .ref ak, .ref ad, .int 0, .int 0, .long 0])), (au, .inr (10, [.ref t1, .ref t2, .ref t3, .ref t4, .ref t5, .ref t6, .ref t7, .int 0, .int 0])), (t1, .inl (cI, 4, .inl (cn 0))), (t2, .inl (cI, 4, .inl (cn 10))), (t3, .inl (cI, 4, .inl (cn 10))), (t4, .inl (cI, 4, .inl (cn (-1)))), (t5, .inl (cI, 4, .inl (cn 0))), (t6, .inl (cI, 4, .inl (cn 0))), (t7, .inl (cI, 4, .inl (cn 110))), (ou, .inl (cL, 1, .inr (.inl fo)))] sz) := by
  refine vx_ofWH (cc := cL_count) (maxL := 4) (ret := (some .int)) (hh := [(0, 9, 12, 13)]) (by decide) rfl ?_
  intro p e s m args below meth c s₁ B hml hv
  obtain ⟨rfl, hsz, hP, hK, hD0, hG⟩ := hv
  have hx := B.exec
  have hb := B.bytes
  have hr := B.returns
  have hts := atoms_spec (ws := wsL_count) B.pre
  have hown : s.vm.findClass RL = some m.cls := findClass_of_methodNamed B.named
  have hlocks := B.notSynchronized
  have htab : c.exceptionTable.toList = tableOf [(0, 9, 12, 13)] := vx_table (x := yL_count) B (hts _ List.mem_cons_self)
  subst hsz
  have hD := hD0.self (sz := s.heap.size)
  generalize hAe : va_A [(xt, .inr (12, [.ref ah, .ref xe, .ref xf])), (ah, .inr (4, [.ref ac, .ref au, .ref ab, .ref an, .ref ak, .ref ad, .int 0, .int 0, .long 0])), (au, .inr (10, [.ref t1, .ref t2, .ref t3, .ref t4, .ref t5, .ref t6, .ref t7, .int 0, .int 0])), (t1, .inl (cI, 4, .inl (cn 0))), (t2, .inl (cI, 4, .inl (cn 10))), (t3, .inl (cI, 4, .inl (cn 10))), (t4, .inl (cI, 4, .inl (cn (-1)))), (t5, .inl (cI, 4, .inl (cn 0))), (t6, .inl (cI, 4, .inl (cn 0))), (t7, .inl (cI, 4, .inl (cn 110))), (ou, .inl (cL, 1, .inr (.inl fo)))] s.heap.size = A at hD hG ⊢
  have hN := hG.1
  have hA : ∀ q : Nat, s.heap.size ≤ q → A q := fun q h => by rw [← hAe]; exact Or.inr h
  have hS : va_S A s.heap s.heap [] := va_S.rf
  have hP : va_P (dC, dI) vwCl [(xt, .inr (12, [.ref ah, .ref xe, .ref xf])), (ah, .inr (4, [.ref ac, .ref au, .ref ab, .ref an, .ref ak, .ref ad, .int 0, .int 0, .long 0])), (au, .inr (10, [.ref t1, .ref t2, .ref t3, .ref t4, .ref t5, .ref t6, .ref t7, .int 0, .int 0])), (t1, .inl (cI, 4, .inl (cn 0))), (t2, .inl (cI, 4, .inl (cn 10))), (t3, .inl (cI, 4, .inl (cn 10))), (t4, .inl (cI, 4, .inl (cn (-1)))), (t5, .inl (cI, 4, .inl (cn 0))), (t6, .inl (cI, 4, .inl (cn 0))), (t7, .inl (cI, 4, .inl (cn 110))), (ou, .inl (cL, 1, .inr (.inl fo)))] s.heap := hP
  have hw0 : (Cond.classLink RL 13 "java/lang/IndexOutOfBoundsException").before _ s = true := hts _ (List.mem_cons_of_mem _ (List.mem_append_left _ (List.mem_append_left _ (List.mem_append_left _ (List.mem_append_left _ (List.mem_append_left _ (List.mem_of_getElem? (i := 0) rfl)))))))
  have hl := lv_entry ([.ref xt, .int v1, .ref ou]) (n := 4) (Nat.le_of_ble_eq_true rfl)
  rw [lg_entry_eq]
  generalize (lg_sl ([.ref xt, .int v1, .ref ou]) ++ List.replicate (4 - (lg_sl ([.ref xt, .int v1, .ref ou])).length) Slot.unset).toArray = ls at hl ⊢
  have hl : lv_has ls 4 [(0, .ref xt), (1, .int v1), (2, .ref ou)] := hl
  refine lv_aload_n hx hb dL_count_0 rfl (lv_at hl 2 rfl) ?_
  refine lv_iconst (v := 0) hx hb dL_count_1 (by decide) ?_
  refine lv_aload_n hx hb dL_count_2 rfl (lv_at hl 0 rfl) ?_
  refine lv_iload_n hx hb dL_count_3 rfl (lv_at hl 1 rfl) ?_
  have hPc := hP.sub (ws' := [(xt, .inr (12, [.ref ah, .ref xe, .ref xf])), (ah, .inr (4, [.ref ac, .ref au, .ref ab, .ref an, .ref ak, .ref ad, .int 0, .int 0, .long 0])), (au, .inr (10, [.ref t1, .ref t2, .ref t3, .ref t4, .ref t5, .ref t6, .ref t7, .int 0, .int 0])), (t1, .inl (cI, 4, .inl (cn 0))), (t2, .inl (cI, 4, .inl (cn 10))), (t3, .inl (cI, 4, .inl (cn 10))), (t4, .inl (cI, 4, .inl (cn (-1)))), (t5, .inl (cI, 4, .inl (cn 0))), (t6, .inl (cI, 4, .inl (cn 0))), (t7, .inl (cI, 4, .inl (cn 110)))]) [0, 1, 2, 3, 4, 5, 6, 7, 8, 9] rfl
  have hDc := hD.sub (ws' := [(xt, .inr (12, [.ref ah, .ref xe, .ref xf])), (ah, .inr (4, [.ref ac, .ref au, .ref ab, .ref an, .ref ak, .ref ad, .int 0, .int 0, .long 0])), (au, .inr (10, [.ref t1, .ref t2, .ref t3, .ref t4, .ref t5, .ref t6, .ref t7, .int 0, .int 0])), (t1, .inl (cI, 4, .inl (cn 0))), (t2, .inl (cI, 4, .inl (cn 10))), (t3, .inl (cI, 4, .inl (cn 10))), (t4, .inl (cI, 4, .inl (cn (-1)))), (t5, .inl (cI, 4, .inl (cn 0))), (t6, .inl (cI, 4, .inl (cn 0))), (t7, .inl (cI, 4, .inl (cn 110)))]) [0, 1, 2, 3, 4, 5, 6, 7, 8, 9] (by decide) rfl
  have hKc := hK.sub (tys' := [(cI, .int)]) [0] rfl
  have hFc := va_free (wc := [(xt, .inr (12, [.ref ah, .ref xe, .ref xf])), (ah, .inr (4, [.ref ac, .ref au, .ref ab, .ref an, .ref ak, .ref ad, .int 0, .int 0, .long 0])), (au, .inr (10, [.ref t1, .ref t2, .ref t3, .ref t4, .ref t5, .ref t6, .ref t7, .int 0, .int 0])), (t1, .inl (cI, 4, .inl (cn 0))), (t2, .inl (cI, 4, .inl (cn 10))), (t3, .inl (cI, 4, .inl (cn 10))), (t4, .inl (cI, 4, .inl (cn (-1)))), (t5, .inl (cI, 4, .inl (cn 0))), (t6, .inl (cI, 4, .inl (cn 0))), (t7, .inl (cI, 4, .inl (cn 110)))]) hD hS hA [0, 1, 2, 3, 4, 5, 6, 7, 8, 9] rfl
  refine vx_calli (vx_runV (As := [.int v1]) (rest := [.int 0, .ref ou]) ⟨hx, hb, hml, hown, hts⟩ (c_X8_count l hl9 dC dI g xt xe xf ah ac au t1 t2 t3 t4 t5 t6 t7 ab an ak ad cI v1 s.heap.size) (cwV 1 hts gL_count_X8_count rfl rfl rfl (by decide +kernel) ⟨Nat.le_of_ble_eq_true rfl, Nat.le_of_ble_eq_true rfl⟩) ⟨wIn_blind, va_recv hK hP (ci := 12) (q0 := 0) rfl rfl, wIn_at hPc hKc hDc hG hS hFc⟩ rfl rfl hl.1 rfl (lv_room (Nat.le_of_ble_eq_true rfl)) dL_count_4 ⟨Nat.le_of_ble_eq_true rfl, Nat.le_of_ble_eq_true rfl⟩) hS (fun q _ h => hFc q h) hFc (fun q _ h => hFc q h) (fun E9 ce9 q_2 u9 t H1 locs ht hvm hx9 hB9 hz1 hk1 hS hce hcv hcl => ?_) (fun r_1 u t H1 locs ht hvm hw hB hz1 hk1 hS => ?_)
  · obtain ⟨rfl, hs9⟩ := hB9
    refine vx_catch (E := "java/lang/IndexOutOfBoundsException") (name := "java/lang/IndexOutOfBoundsException") hown [] ⟨0, 9, 12, 13⟩ [] (htab.trans rfl) (fun z hz => nomatch hz) (by decide) (by decide) hw0 (nw_use hN _ (List.mem_of_getElem? (i := 55) rfl)) hce hcv hcl ?_
    obtain ⟨hP, hD⟩ := va_join (wr := [(ou, .inl (cL, 1, .inr (.inl fo)))]) (w1 := []) hP hD [0, 1, 2, 3, 4, 5, 6, 7, 8, 9] [10] rfl rfl (by decide) (by decide) hk1 hFc vaP0 vaD0
    generalize H1 = H at hP hS ⊢
    have hP : va_P (dC, dI) vwCl [(ou, .inl (cL, 1, .inr (.inl fo)))] H := hP
    have hD : va_D A [(ou, .inl (cL, 1, .inr (.inl fo)))] := hD
    refine W.widen (k := 1) (n := 6) (Nat.le_of_ble_eq_true rfl) (Nat.le_of_ble_eq_true rfl) ?_
    refine lv_astore_n (lv' := [(3, .ref q_2), (0, .ref xt), (1, .int v1), (2, .ref ou)]) hx hb dL_count_12 rfl hl (by decide) rfl (fun ls hl => ?_)
    refine lv_iconst (v := 1) hx hb dL_count_13 (by decide) ?_
    have hP9 := hP.sub (ws' := [(ou, .inl (cL, 1, .inr (.inl fo)))]) [0] rfl
    have hD9 := hD.sub (ws' := [(ou, .inl (cL, 1, .inr (.inl fo)))]) [0] (by decide) rfl
    have hK9 := hK.sub (tys' := [(cI, .int), (cL, .long)]) [0, 1] rfl
    refine vx_ret ?_
    exact W.iret (v := 1) hx hb hr (fun t ht hW => ⟨⟨1, (fo), rfl, ⟨hs9.symm, (fun h9 => absurd (hs9.symm.trans h9) (by decide))⟩, wOut_at ht hW hP9 hK9 hD9⟩, hS.F ht⟩) hS.2.2 dL_count_14
  · obtain ⟨hP1, hK1, hD1⟩ := hB
    rw [ht] at hP1
    obtain ⟨hP, hD⟩ := va_join (wr := [(ou, .inl (cL, 1, .inr (.inl fo)))]) (w1 := []) hP hD [0, 1, 2, 3, 4, 5, 6, 7, 8, 9] [10] rfl rfl (by decide) (by decide) hk1 hFc hP1 hD1
    generalize H1 = H at hP hS ⊢
    have hP : va_P (dC, dI) vwCl [(ou, .inl (cL, 1, .inr (.inl fo)))] H := hP
    have hD : va_D A [(ou, .inl (cL, 1, .inr (.inl fo)))] := hD
    refine lt_ci (y := 0) hw.1 ?_
    have hs9 := hw.2
    refine W.widen (k := 1) (n := 6) (Nat.le_of_ble_eq_true rfl) (Nat.le_of_ble_eq_true rfl) ?_
    refine lv_i2l (v := 0) hx hb dL_count_7 (by first | rfl | decide) ?_
    refine va_last (D := (dC, dI)) hx hb hK hP hD hS 0 1 rfl rfl (by unfold vp_in; decide) dL_count_8 (fun H locs hP hD hS => ?_)
    have hP : va_P (dC, dI) vwCl [(ou, .inl (cL, 1, .inr (.inl (vp_updL fo 0 0))))] H := hP
    have hD : va_D A [(ou, .inl (cL, 1, .inr (.inl (vp_updL fo 0 0))))] := hD
    refine lv_goto (tgt := 15) hx hb dL_count_9 (by decide) ?_
    refine lv_iconst (v := 0) hx hb dL_count_15 (by decide) ?_
    have hP9 := hP.sub (ws' := [(ou, .inl (cL, 1, .inr (.inl (vp_updL fo 0 0))))]) [0] rfl
    have hD9 := hD.sub (ws' := [(ou, .inl (cL, 1, .inr (.inl (vp_updL fo 0 0))))]) [0] (by decide) rfl
    have hK9 := hK.sub (tys' := [(cI, .int), (cL, .long)]) [0, 1] rfl
    refine vx_ret ?_
    exact W.iret (v := 0) hx hb hr (fun t ht hW => ⟨⟨0, (vp_updL fo 0 0), rfl, ⟨hs9.symm, (fun _ => rfl)⟩, wOut_at ht hW hP9 hK9 hD9⟩, hS.F ht⟩) hS.2.2 dL_count_16
set_option maxHeartbeats 4000000 in
set_option maxRecDepth 100000 in
theorem c_L_isRunning (l : Launch) (hl9 : l.stackTraces = false) (dC : Nat → ClassId) (dI : Nat → Nat → Nat) (g : Nat × Nat × Nat) (xt : Nat) (xe : Nat) (xf : Nat) (ah : Nat) (ac : Nat) (au : Nat) (t1 : Nat) (t2 : Nat) (t3 : Nat) (t4 : Nat) (t5 : Nat) (t6 : Nat) (t7 : Nat) (ab : Nat) (an : Nat) (ak : Nat) (ad : Nat) (cI : ClassId) (v1 : Int32) (fo : Nat → Int64) (ou : Nat) (cL : ClassId) (sz : Nat) : vx_Met l yL_isRunning wsL_isRunning ({ frames := 7, cells := 1, slots := 6, locals := 121 } : Room) (va_Pc [.ref xt, .int v1, .ref ou] (wIn dC dI g [(xt, .inr (12, [.ref ah, .ref xe, .ref xf])), (ah, .inr (4, [.ref ac, .ref au, .ref ab, .ref an, .ref ak, .ref ad, .int 0, .int 0, .long 0])), (au, .inr (10, [.ref t1, .ref t2, .ref t3, .ref t4, .ref t5, .ref t6, .ref t7, .int 0, .int 0])), (t1, .inl (cI, 4, .inl (cn 0))), (t2, .inl (cI, 4, .inl (cn 10))), (t3, .inl (cI, 4, .inl (cn 10))), (t4, .inl (cI, 4, .inl (cn (-1)))), (t5, .inl (cI, 4, .inl (cn 0))), (t6, .inl (cI, 4, .inl (cn 0))), (t7, .inl (cI, 4, .inl (cn 110))), (ou, .inl (cL, 1, .inr (.inl fo)))] [(cI, .int), (cL, .long)] sz)) (va_Qi (fun (r : Int32) (u : Nat → Int64) => r = sp_X8_isRunning v1 ∧ (sp_X8_isRunning v1 = 0 → u 0 = 0)) (fun (u : Nat → Int64) (t : State) => wOut dC dI [(ou, .inl (cL, 1, .inr (.inl u)))] [(cI, .int), (cL, .long)] (va_A [(xt, .inr (12, [.ref ah, .ref xe, .ref xf])), (ah, .inr (4, [.ref ac, .ref au, .ref ab, .ref an, .ref ak, .ref ad, .int 0, .int 0, .long 0])), (au, .inr (10, [.ref t1, .ref t2, .ref t3, .ref t4, .ref t5, .ref t6, .ref t7, .int 0, .int 0])), (t1, .inl (cI, 4, .inl (cn 0))), (t2, .inl (cI, 4, .inl (cn 10))), (t3, .inl (cI, 4, .inl (cn 10))), (t4, .inl (cI, 4, .inl (cn (-1)))), (t5, .inl (cI, 4, .inl (cn 0))), (t6, .inl (cI, 4, .inl (cn 0))), (t7, .inl (cI, 4, .inl (cn 110))), (ou, .inl (cL, 1, .inr (.inl fo)))] sz) t) (va_A [(xt, .inr (12, [.ref ah, .ref xe, .ref xf])), (ah, .inr (4, [.ref ac, .ref au, .ref ab, .ref an, .ref ak, .ref ad, .int 0, .int 0, .long 0])), (au, .inr (10, [.ref t1, .ref t2, .ref t3, .ref t4, .ref t5, .ref t6, .ref t7, .int 0, .int 0])), (t1, .inl (cI, 4, .inl (cn 0))), (t2, .inl (cI, 4, .inl (cn 10))), (t3, .inl (cI, 4, .inl (cn 10))), (t4, .inl (cI, 4, .inl (cn (-1)))), (t5, .inl (cI, 4, .inl (cn 0))), (t6, .inl (cI, 4, .inl (cn 0))), (t7, .inl (cI, 4, .inl (cn 110))), (ou, .inl (cL, 1, .inr (.inl fo)))] sz)) (vx_X (fun (_ : Unit) => False) (fun (_ : String) (_ : Unit) (_ : State) => True) (va_A [(xt, .inr (12, [.ref ah, .ref xe, .ref xf])), (ah, .inr (4, [.ref ac, .ref au, .ref ab, .ref an, .ref ak, .ref ad, .int 0, .int 0, .long 0])), (au, .inr (10, [.ref t1, .ref t2, .ref t3, .ref t4, .ref t5, .ref t6, .ref t7, .int 0, .int 0])), (t1, .inl (cI, 4, .inl (cn 0))), (t2, .inl (cI, 4, .inl (cn 10))), (t3, .inl (cI, 4, .inl (cn 10))), (t4, .inl (cI, 4, .inl (cn (-1)))), (t5, .inl (cI, 4, .inl (cn 0))), (t6, .inl (cI, 4, .inl (cn 0))), (t7, .inl (cI, 4, .inl (cn 110))), (ou, .inl (cL, 1, .inr (.inl fo)))] sz)) 1 6 (va_A [(xt, .inr (12, [.ref ah, .ref xe, .ref xf])), (ah, .inr (4, [.ref ac, .ref au, .ref ab, .ref an, .ref ak, .ref ad, .int 0, .int 0, .long 0])), (au, .inr (10, [.ref t1, .ref t2, .ref t3, .ref t4, .ref t5, .ref t6, .ref t7, .int 0, .int 0])), (t1, .inl (cI, 4, .inl (cn 0))), (t2, .inl (cI, 4, .inl (cn 10))), (t3, .inl (cI, 4, .inl (cn 10))), (t4, .inl (cI, 4, .inl (cn (-1)))), (t5, .inl (cI, 4, .inl (cn 0))), (t6, .inl (cI, 4, .inl (cn 0))), (t7, .inl (cI, 4, .inl (cn 110))), (ou, .inl (cL, 1, .inr (.inl fo)))] sz) := by
  refine vx_ofWH (cc := cL_isRunning) (maxL := 4) (ret := (some .int)) (hh := [(0, 16, 19, 13)]) (by decide) rfl ?_
  intro p e s m args below meth c s₁ B hml hv
  obtain ⟨rfl, hsz, hP, hK, hD0, hG⟩ := hv
  have hx := B.exec
  have hb := B.bytes
  have hr := B.returns
  have hts := atoms_spec (ws := wsL_isRunning) B.pre
  have hown : s.vm.findClass RL = some m.cls := findClass_of_methodNamed B.named
  have hlocks := B.notSynchronized
  have htab : c.exceptionTable.toList = tableOf [(0, 16, 19, 13)] := vx_table (x := yL_isRunning) B (hts _ List.mem_cons_self)
  subst hsz
  have hD := hD0.self (sz := s.heap.size)
  generalize hAe : va_A [(xt, .inr (12, [.ref ah, .ref xe, .ref xf])), (ah, .inr (4, [.ref ac, .ref au, .ref ab, .ref an, .ref ak, .ref ad, .int 0, .int 0, .long 0])), (au, .inr (10, [.ref t1, .ref t2, .ref t3, .ref t4, .ref t5, .ref t6, .ref t7, .int 0, .int 0])), (t1, .inl (cI, 4, .inl (cn 0))), (t2, .inl (cI, 4, .inl (cn 10))), (t3, .inl (cI, 4, .inl (cn 10))), (t4, .inl (cI, 4, .inl (cn (-1)))), (t5, .inl (cI, 4, .inl (cn 0))), (t6, .inl (cI, 4, .inl (cn 0))), (t7, .inl (cI, 4, .inl (cn 110))), (ou, .inl (cL, 1, .inr (.inl fo)))] s.heap.size = A at hD hG ⊢
  have hN := hG.1
  have hA : ∀ q : Nat, s.heap.size ≤ q → A q := fun q h => by rw [← hAe]; exact Or.inr h
  have hS : va_S A s.heap s.heap [] := va_S.rf
  have hP : va_P (dC, dI) vwCl [(xt, .inr (12, [.ref ah, .ref xe, .ref xf])), (ah, .inr (4, [.ref ac, .ref au, .ref ab, .ref an, .ref ak, .ref ad, .int 0, .int 0, .long 0])), (au, .inr (10, [.ref t1, .ref t2, .ref t3, .ref t4, .ref t5, .ref t6, .ref t7, .int 0, .int 0])), (t1, .inl (cI, 4, .inl (cn 0))), (t2, .inl (cI, 4, .inl (cn 10))), (t3, .inl (cI, 4, .inl (cn 10))), (t4, .inl (cI, 4, .inl (cn (-1)))), (t5, .inl (cI, 4, .inl (cn 0))), (t6, .inl (cI, 4, .inl (cn 0))), (t7, .inl (cI, 4, .inl (cn 110))), (ou, .inl (cL, 1, .inr (.inl fo)))] s.heap := hP
  have hw0 : (Cond.classLink RL 13 "java/lang/IndexOutOfBoundsException").before _ s = true := hts _ (List.mem_cons_of_mem _ (List.mem_append_left _ (List.mem_append_left _ (List.mem_append_left _ (List.mem_append_left _ (List.mem_append_left _ (List.mem_of_getElem? (i := 0) rfl)))))))
  have hl := lv_entry ([.ref xt, .int v1, .ref ou]) (n := 4) (Nat.le_of_ble_eq_true rfl)
  rw [lg_entry_eq]
  generalize (lg_sl ([.ref xt, .int v1, .ref ou]) ++ List.replicate (4 - (lg_sl ([.ref xt, .int v1, .ref ou])).length) Slot.unset).toArray = ls at hl ⊢
  have hl : lv_has ls 4 [(0, .ref xt), (1, .int v1), (2, .ref ou)] := hl
  refine lv_aload_n hx hb dL_isRunning_0 rfl (lv_at hl 2 rfl) ?_
  refine lv_iconst (v := 0) hx hb dL_isRunning_1 (by decide) ?_
  refine lv_aload_n hx hb dL_isRunning_2 rfl (lv_at hl 0 rfl) ?_
  refine lv_iload_n hx hb dL_isRunning_3 rfl (lv_at hl 1 rfl) ?_
  have hPc := hP.sub (ws' := [(xt, .inr (12, [.ref ah, .ref xe, .ref xf])), (ah, .inr (4, [.ref ac, .ref au, .ref ab, .ref an, .ref ak, .ref ad, .int 0, .int 0, .long 0])), (au, .inr (10, [.ref t1, .ref t2, .ref t3, .ref t4, .ref t5, .ref t6, .ref t7, .int 0, .int 0])), (t1, .inl (cI, 4, .inl (cn 0))), (t2, .inl (cI, 4, .inl (cn 10))), (t3, .inl (cI, 4, .inl (cn 10))), (t4, .inl (cI, 4, .inl (cn (-1)))), (t5, .inl (cI, 4, .inl (cn 0))), (t6, .inl (cI, 4, .inl (cn 0))), (t7, .inl (cI, 4, .inl (cn 110)))]) [0, 1, 2, 3, 4, 5, 6, 7, 8, 9] rfl
  have hDc := hD.sub (ws' := [(xt, .inr (12, [.ref ah, .ref xe, .ref xf])), (ah, .inr (4, [.ref ac, .ref au, .ref ab, .ref an, .ref ak, .ref ad, .int 0, .int 0, .long 0])), (au, .inr (10, [.ref t1, .ref t2, .ref t3, .ref t4, .ref t5, .ref t6, .ref t7, .int 0, .int 0])), (t1, .inl (cI, 4, .inl (cn 0))), (t2, .inl (cI, 4, .inl (cn 10))), (t3, .inl (cI, 4, .inl (cn 10))), (t4, .inl (cI, 4, .inl (cn (-1)))), (t5, .inl (cI, 4, .inl (cn 0))), (t6, .inl (cI, 4, .inl (cn 0))), (t7, .inl (cI, 4, .inl (cn 110)))]) [0, 1, 2, 3, 4, 5, 6, 7, 8, 9] (by decide) rfl
  have hKc := hK.sub (tys' := [(cI, .int)]) [0] rfl
  have hFc := va_free (wc := [(xt, .inr (12, [.ref ah, .ref xe, .ref xf])), (ah, .inr (4, [.ref ac, .ref au, .ref ab, .ref an, .ref ak, .ref ad, .int 0, .int 0, .long 0])), (au, .inr (10, [.ref t1, .ref t2, .ref t3, .ref t4, .ref t5, .ref t6, .ref t7, .int 0, .int 0])), (t1, .inl (cI, 4, .inl (cn 0))), (t2, .inl (cI, 4, .inl (cn 10))), (t3, .inl (cI, 4, .inl (cn 10))), (t4, .inl (cI, 4, .inl (cn (-1)))), (t5, .inl (cI, 4, .inl (cn 0))), (t6, .inl (cI, 4, .inl (cn 0))), (t7, .inl (cI, 4, .inl (cn 110)))]) hD hS hA [0, 1, 2, 3, 4, 5, 6, 7, 8, 9] rfl
  refine vx_calli (vx_runV (As := [.int v1]) (rest := [.int 0, .ref ou]) ⟨hx, hb, hml, hown, hts⟩ (c_X8_isRunning l hl9 dC dI g xt xe xf ah ac au t1 t2 t3 t4 t5 t6 t7 ab an ak ad cI v1 s.heap.size) (cwV 1 hts gL_isRunning_X8_isRunning rfl rfl rfl (by decide +kernel) ⟨Nat.le_of_ble_eq_true rfl, Nat.le_of_ble_eq_true rfl⟩) ⟨wIn_blind, va_recv hK hP (ci := 12) (q0 := 0) rfl rfl, wIn_at hPc hKc hDc hG hS hFc⟩ rfl rfl hl.1 rfl (lv_room (Nat.le_of_ble_eq_true rfl)) dL_isRunning_4 ⟨Nat.le_of_ble_eq_true rfl, Nat.le_of_ble_eq_true rfl⟩) hS (fun q _ h => hFc q h) hFc (fun q _ h => hFc q h) (fun E9 ce9 q_2 u9 t H1 locs ht hvm hx9 hB9 hz1 hk1 hS hce hcv hcl => ?_) (fun r_1 u t H1 locs ht hvm hw hB hz1 hk1 hS => ?_)
  · obtain ⟨rfl, hs9⟩ := hB9
    refine vx_catch (E := "java/lang/IndexOutOfBoundsException") (name := "java/lang/IndexOutOfBoundsException") hown [] ⟨0, 16, 19, 13⟩ [] (htab.trans rfl) (fun z hz => nomatch hz) (by decide) (by decide) hw0 (nw_use hN _ (List.mem_of_getElem? (i := 55) rfl)) hce hcv hcl ?_
    obtain ⟨hP, hD⟩ := va_join (wr := [(ou, .inl (cL, 1, .inr (.inl fo)))]) (w1 := []) hP hD [0, 1, 2, 3, 4, 5, 6, 7, 8, 9] [10] rfl rfl (by decide) (by decide) hk1 hFc vaP0 vaD0
    generalize H1 = H at hP hS ⊢
    have hP : va_P (dC, dI) vwCl [(ou, .inl (cL, 1, .inr (.inl fo)))] H := hP
    have hD : va_D A [(ou, .inl (cL, 1, .inr (.inl fo)))] := hD
    refine W.widen (k := 1) (n := 6) (Nat.le_of_ble_eq_true rfl) (Nat.le_of_ble_eq_true rfl) ?_
    refine lv_astore_n (lv' := [(3, .ref q_2), (0, .ref xt), (1, .int v1), (2, .ref ou)]) hx hb dL_isRunning_19 rfl hl (by decide) rfl (fun ls hl => ?_)
    refine lv_iconst (v := 1) hx hb dL_isRunning_20 (by decide) ?_
    have hP9 := hP.sub (ws' := [(ou, .inl (cL, 1, .inr (.inl fo)))]) [0] rfl
    have hD9 := hD.sub (ws' := [(ou, .inl (cL, 1, .inr (.inl fo)))]) [0] (by decide) rfl
    have hK9 := hK.sub (tys' := [(cI, .int), (cL, .long)]) [0, 1] rfl
    refine vx_ret ?_
    exact W.iret (v := 1) hx hb hr (fun t ht hW => ⟨⟨1, (fo), rfl, ⟨hs9.symm, (fun h9 => absurd (hs9.symm.trans h9) (by decide))⟩, wOut_at ht hW hP9 hK9 hD9⟩, hS.F ht⟩) hS.2.2 dL_isRunning_21
  · obtain ⟨hP1, hK1, hD1⟩ := hB
    rw [ht] at hP1
    obtain ⟨hP, hD⟩ := va_join (wr := [(ou, .inl (cL, 1, .inr (.inl fo)))]) (w1 := []) hP hD [0, 1, 2, 3, 4, 5, 6, 7, 8, 9] [10] rfl rfl (by decide) (by decide) hk1 hFc hP1 hD1
    generalize H1 = H at hP hS ⊢
    have hP : va_P (dC, dI) vwCl [(ou, .inl (cL, 1, .inr (.inl fo)))] H := hP
    have hD : va_D A [(ou, .inl (cL, 1, .inr (.inl fo)))] := hD
    refine lt_ci (y := 0) hw.1 ?_
    have hs9 := hw.2
    refine W.widen (k := 1) (n := 6) (Nat.le_of_ble_eq_true rfl) (Nat.le_of_ble_eq_true rfl) ?_
    refine lv_if_eq (tgt := 14) hx hb dL_isRunning_7 (by decide) (fun _ => ?_) (fun c => absurd (by decide) c)
    refine lv_lconst (v := 0) hx hb dL_isRunning_14 rfl ?_
    refine va_last (D := (dC, dI)) hx hb hK hP hD hS 0 1 rfl rfl (by unfold vp_in; decide) dL_isRunning_15 (fun H locs hP hD hS => ?_)
    have hP : va_P (dC, dI) vwCl [(ou, .inl (cL, 1, .inr (.inl (vp_updL fo 0 0))))] H := hP
    have hD : va_D A [(ou, .inl (cL, 1, .inr (.inl (vp_updL fo 0 0))))] := hD
    refine lv_goto (tgt := 22) hx hb dL_isRunning_16 (by decide) ?_
    refine lv_iconst (v := 0) hx hb dL_isRunning_22 (by decide) ?_
    have hP9 := hP.sub (ws' := [(ou, .inl (cL, 1, .inr (.inl (vp_updL fo 0 0))))]) [0] rfl
    have hD9 := hD.sub (ws' := [(ou, .inl (cL, 1, .inr (.inl (vp_updL fo 0 0))))]) [0] (by decide) rfl
    have hK9 := hK.sub (tys' := [(cI, .int), (cL, .long)]) [0, 1] rfl
    refine vx_ret ?_
    exact W.iret (v := 0) hx hb hr (fun t ht hW => ⟨⟨0, (vp_updL fo 0 0), rfl, ⟨hs9.symm, (fun _ => rfl)⟩, wOut_at ht hW hP9 hK9 hD9⟩, hS.F ht⟩) hS.2.2 dL_isRunning_23
set_option maxHeartbeats 4000000 in
set_option maxRecDepth 100000 in
theorem c_L_edgeTime (l : Launch) (hl9 : l.stackTraces = false) (dC : Nat → ClassId) (dI : Nat → Nat → Nat) (g : Nat × Nat × Nat) (xt : Nat) (xe : Nat) (xf : Nat) (ah : Nat) (ac : Nat) (au : Nat) (ab : Nat) (b1 : Nat) (b2 : Nat) (an : Nat) (ak : Nat) (ad : Nat) (cI : ClassId) (v1 : Int32) (fo : Nat → Int64) (ou : Nat) (cL : ClassId) (sz : Nat) : vx_Met l yL_edgeTime wsL_edgeTime ({ frames := 7, cells := 1, slots := 6, locals := 121 } : Room) (va_Pc [.ref xt, .int v1, .ref ou] (wIn dC dI g [(xt, .inr (12, [.ref ah, .ref xe, .ref xf])), (ah, .inr (4, [.ref ac, .ref au, .ref ab, .ref an, .ref ak, .ref ad, .int 0, .int 0, .long 0])), (ab, .inr (7, [.ref b1, .ref b2, .int 0, .int 0])), (b1, .inl (cI, 200, .inl (cn 0))), (b2, .inl (cI, 200, .inl (cn 0))), (ou, .inl (cL, 1, .inr (.inl fo)))] [(cI, .int), (cL, .long)] sz)) (va_Qi (fun (r : Int32) (u : Nat → Int64) => r = sp_X8_edgeTime v1) (fun (u : Nat → Int64) (t : State) => wOut dC dI [(ou, .inl (cL, 1, .inr (.inl u)))] [(cI, .int), (cL, .long)] (va_A [(xt, .inr (12, [.ref ah, .ref xe, .ref xf])), (ah, .inr (4, [.ref ac, .ref au, .ref ab, .ref an, .ref ak, .ref ad, .int 0, .int 0, .long 0])), (ab, .inr (7, [.ref b1, .ref b2, .int 0, .int 0])), (b1, .inl (cI, 200, .inl (cn 0))), (b2, .inl (cI, 200, .inl (cn 0))), (ou, .inl (cL, 1, .inr (.inl fo)))] sz) t) (va_A [(xt, .inr (12, [.ref ah, .ref xe, .ref xf])), (ah, .inr (4, [.ref ac, .ref au, .ref ab, .ref an, .ref ak, .ref ad, .int 0, .int 0, .long 0])), (ab, .inr (7, [.ref b1, .ref b2, .int 0, .int 0])), (b1, .inl (cI, 200, .inl (cn 0))), (b2, .inl (cI, 200, .inl (cn 0))), (ou, .inl (cL, 1, .inr (.inl fo)))] sz)) (vx_X (fun (_ : Unit) => False) (fun (_ : String) (_ : Unit) (_ : State) => True) (va_A [(xt, .inr (12, [.ref ah, .ref xe, .ref xf])), (ah, .inr (4, [.ref ac, .ref au, .ref ab, .ref an, .ref ak, .ref ad, .int 0, .int 0, .long 0])), (ab, .inr (7, [.ref b1, .ref b2, .int 0, .int 0])), (b1, .inl (cI, 200, .inl (cn 0))), (b2, .inl (cI, 200, .inl (cn 0))), (ou, .inl (cL, 1, .inr (.inl fo)))] sz)) 1 6 (va_A [(xt, .inr (12, [.ref ah, .ref xe, .ref xf])), (ah, .inr (4, [.ref ac, .ref au, .ref ab, .ref an, .ref ak, .ref ad, .int 0, .int 0, .long 0])), (ab, .inr (7, [.ref b1, .ref b2, .int 0, .int 0])), (b1, .inl (cI, 200, .inl (cn 0))), (b2, .inl (cI, 200, .inl (cn 0))), (ou, .inl (cL, 1, .inr (.inl fo)))] sz) := by
  refine vx_ofWH (cc := cL_edgeTime) (maxL := 4) (ret := (some .int)) (hh := [(0, 9, 12, 63)]) (by decide) rfl ?_
  intro p e s m args below meth c s₁ B hml hv
  obtain ⟨rfl, hsz, hP, hK, hD0, hG⟩ := hv
  have hx := B.exec
  have hb := B.bytes
  have hr := B.returns
  have hts := atoms_spec (ws := wsL_edgeTime) B.pre
  have hown : s.vm.findClass RL = some m.cls := findClass_of_methodNamed B.named
  have hlocks := B.notSynchronized
  have htab : c.exceptionTable.toList = tableOf [(0, 9, 12, 63)] := vx_table (x := yL_edgeTime) B (hts _ List.mem_cons_self)
  subst hsz
  have hD := hD0.self (sz := s.heap.size)
  generalize hAe : va_A [(xt, .inr (12, [.ref ah, .ref xe, .ref xf])), (ah, .inr (4, [.ref ac, .ref au, .ref ab, .ref an, .ref ak, .ref ad, .int 0, .int 0, .long 0])), (ab, .inr (7, [.ref b1, .ref b2, .int 0, .int 0])), (b1, .inl (cI, 200, .inl (cn 0))), (b2, .inl (cI, 200, .inl (cn 0))), (ou, .inl (cL, 1, .inr (.inl fo)))] s.heap.size = A at hD hG ⊢
  have hN := hG.1
  have hA : ∀ q : Nat, s.heap.size ≤ q → A q := fun q h => by rw [← hAe]; exact Or.inr h
  have hS : va_S A s.heap s.heap [] := va_S.rf
  have hP : va_P (dC, dI) vwCl [(xt, .inr (12, [.ref ah, .ref xe, .ref xf])), (ah, .inr (4, [.ref ac, .ref au, .ref ab, .ref an, .ref ak, .ref ad, .int 0, .int 0, .long 0])), (ab, .inr (7, [.ref b1, .ref b2, .int 0, .int 0])), (b1, .inl (cI, 200, .inl (cn 0))), (b2, .inl (cI, 200, .inl (cn 0))), (ou, .inl (cL, 1, .inr (.inl fo)))] s.heap := hP
  have hw0 : (Cond.classLink RL 63 "java/util/NoSuchElementException").before _ s = true := hts _ (List.mem_cons_of_mem _ (List.mem_append_left _ (List.mem_append_left _ (List.mem_append_left _ (List.mem_append_left _ (List.mem_append_left _ (List.mem_of_getElem? (i := 0) rfl)))))))
  have hl := lv_entry ([.ref xt, .int v1, .ref ou]) (n := 4) (Nat.le_of_ble_eq_true rfl)
  rw [lg_entry_eq]
  generalize (lg_sl ([.ref xt, .int v1, .ref ou]) ++ List.replicate (4 - (lg_sl ([.ref xt, .int v1, .ref ou])).length) Slot.unset).toArray = ls at hl ⊢
  have hl : lv_has ls 4 [(0, .ref xt), (1, .int v1), (2, .ref ou)] := hl
  refine lv_aload_n hx hb dL_edgeTime_0 rfl (lv_at hl 2 rfl) ?_
  refine lv_iconst (v := 0) hx hb dL_edgeTime_1 (by decide) ?_
  refine lv_aload_n hx hb dL_edgeTime_2 rfl (lv_at hl 0 rfl) ?_
  refine lv_iload_n hx hb dL_edgeTime_3 rfl (lv_at hl 1 rfl) ?_
  have hPc := hP.sub (ws' := [(xt, .inr (12, [.ref ah, .ref xe, .ref xf])), (ah, .inr (4, [.ref ac, .ref au, .ref ab, .ref an, .ref ak, .ref ad, .int 0, .int 0, .long 0])), (ab, .inr (7, [.ref b1, .ref b2, .int 0, .int 0])), (b1, .inl (cI, 200, .inl (cn 0))), (b2, .inl (cI, 200, .inl (cn 0)))]) [0, 1, 2, 3, 4] rfl
  have hDc := hD.sub (ws' := [(xt, .inr (12, [.ref ah, .ref xe, .ref xf])), (ah, .inr (4, [.ref ac, .ref au, .ref ab, .ref an, .ref ak, .ref ad, .int 0, .int 0, .long 0])), (ab, .inr (7, [.ref b1, .ref b2, .int 0, .int 0])), (b1, .inl (cI, 200, .inl (cn 0))), (b2, .inl (cI, 200, .inl (cn 0)))]) [0, 1, 2, 3, 4] (by decide) rfl
  have hKc := hK.sub (tys' := [(cI, .int)]) [0] rfl
  have hFc := va_free (wc := [(xt, .inr (12, [.ref ah, .ref xe, .ref xf])), (ah, .inr (4, [.ref ac, .ref au, .ref ab, .ref an, .ref ak, .ref ad, .int 0, .int 0, .long 0])), (ab, .inr (7, [.ref b1, .ref b2, .int 0, .int 0])), (b1, .inl (cI, 200, .inl (cn 0))), (b2, .inl (cI, 200, .inl (cn 0)))]) hD hS hA [0, 1, 2, 3, 4] rfl
  refine vx_calli (vx_runV (As := [.int v1]) (rest := [.int 0, .ref ou]) ⟨hx, hb, hml, hown, hts⟩ (c_X8_edgeTime l hl9 dC dI g xt xe xf ah ac au ab b1 b2 an ak ad cI v1 s.heap.size) (cwV 1 hts gL_edgeTime_X8_edgeTime rfl rfl rfl (by decide +kernel) ⟨Nat.le_of_ble_eq_true rfl, Nat.le_of_ble_eq_true rfl⟩) ⟨wIn_blind, va_recv hK hP (ci := 12) (q0 := 0) rfl rfl, wIn_at hPc hKc hDc hG hS hFc⟩ rfl rfl hl.1 rfl (lv_room (Nat.le_of_ble_eq_true rfl)) dL_edgeTime_4 ⟨Nat.le_of_ble_eq_true rfl, Nat.le_of_ble_eq_true rfl⟩) hS (fun q _ h => hFc q h) hFc (fun q _ h => hFc q h) (fun E9 ce9 q_2 u9 t H1 locs ht hvm hx9 hB9 hz1 hk1 hS hce hcv hcl => ?_) (fun r_1 u t H1 locs ht hvm hw hB hz1 hk1 hS => ?_)
  · obtain ⟨rfl, hs9⟩ := hB9
    refine vx_catch (E := "java/util/NoSuchElementException") (name := "java/util/NoSuchElementException") hown [] ⟨0, 9, 12, 63⟩ [] (htab.trans rfl) (fun z hz => nomatch hz) (by decide) (by decide) hw0 (nw_use hN _ (List.mem_of_getElem? (i := 56) rfl)) hce hcv hcl ?_
    obtain ⟨hP, hD⟩ := va_join (wr := [(ou, .inl (cL, 1, .inr (.inl fo)))]) (w1 := []) hP hD [0, 1, 2, 3, 4] [5] rfl rfl (by decide) (by decide) hk1 hFc vaP0 vaD0
    generalize H1 = H at hP hS ⊢
    have hP : va_P (dC, dI) vwCl [(ou, .inl (cL, 1, .inr (.inl fo)))] H := hP
    have hD : va_D A [(ou, .inl (cL, 1, .inr (.inl fo)))] := hD
    refine W.widen (k := 1) (n := 6) (Nat.le_of_ble_eq_true rfl) (Nat.le_of_ble_eq_true rfl) ?_
    refine lv_astore_n (lv' := [(3, .ref q_2), (0, .ref xt), (1, .int v1), (2, .ref ou)]) hx hb dL_edgeTime_12 rfl hl (by decide) rfl (fun ls hl => ?_)
    refine lv_iconst (v := 1) hx hb dL_edgeTime_13 (by decide) ?_
    have hP9 := hP.sub (ws' := [(ou, .inl (cL, 1, .inr (.inl fo)))]) [0] rfl
    have hD9 := hD.sub (ws' := [(ou, .inl (cL, 1, .inr (.inl fo)))]) [0] (by decide) rfl
    have hK9 := hK.sub (tys' := [(cI, .int), (cL, .long)]) [0, 1] rfl
    refine vx_ret ?_
    exact W.iret (v := 1) hx hb hr (fun t ht hW => ⟨⟨1, (fo), rfl, hs9.symm, wOut_at ht hW hP9 hK9 hD9⟩, hS.F ht⟩) hS.2.2 dL_edgeTime_14
  · exact hw.elim
set_option maxHeartbeats 4000000 in
set_option maxRecDepth 100000 in
theorem c_L_edgePin (l : Launch) (hl9 : l.stackTraces = false) (dC : Nat → ClassId) (dI : Nat → Nat → Nat) (g : Nat × Nat × Nat) (xt : Nat) (xe : Nat) (xf : Nat) (ah : Nat) (ac : Nat) (au : Nat) (ab : Nat) (b1 : Nat) (b2 : Nat) (an : Nat) (ak : Nat) (ad : Nat) (cI : ClassId) (v1 : Int32) (fo : Nat → Int64) (ou : Nat) (cL : ClassId) (sz : Nat) : vx_Met l yL_edgePin wsL_edgePin ({ frames := 7, cells := 1, slots := 6, locals := 121 } : Room) (va_Pc [.ref xt, .int v1, .ref ou] (wIn dC dI g [(xt, .inr (12, [.ref ah, .ref xe, .ref xf])), (ah, .inr (4, [.ref ac, .ref au, .ref ab, .ref an, .ref ak, .ref ad, .int 0, .int 0, .long 0])), (ab, .inr (7, [.ref b1, .ref b2, .int 0, .int 0])), (b1, .inl (cI, 200, .inl (cn 0))), (b2, .inl (cI, 200, .inl (cn 0))), (ou, .inl (cL, 1, .inr (.inl fo)))] [(cI, .int), (cL, .long)] sz)) (va_Qi (fun (r : Int32) (u : Nat → Int64) => r = sp_X8_edgePin v1) (fun (u : Nat → Int64) (t : State) => wOut dC dI [(ou, .inl (cL, 1, .inr (.inl u)))] [(cI, .int), (cL, .long)] (va_A [(xt, .inr (12, [.ref ah, .ref xe, .ref xf])), (ah, .inr (4, [.ref ac, .ref au, .ref ab, .ref an, .ref ak, .ref ad, .int 0, .int 0, .long 0])), (ab, .inr (7, [.ref b1, .ref b2, .int 0, .int 0])), (b1, .inl (cI, 200, .inl (cn 0))), (b2, .inl (cI, 200, .inl (cn 0))), (ou, .inl (cL, 1, .inr (.inl fo)))] sz) t) (va_A [(xt, .inr (12, [.ref ah, .ref xe, .ref xf])), (ah, .inr (4, [.ref ac, .ref au, .ref ab, .ref an, .ref ak, .ref ad, .int 0, .int 0, .long 0])), (ab, .inr (7, [.ref b1, .ref b2, .int 0, .int 0])), (b1, .inl (cI, 200, .inl (cn 0))), (b2, .inl (cI, 200, .inl (cn 0))), (ou, .inl (cL, 1, .inr (.inl fo)))] sz)) (vx_X (fun (_ : Unit) => False) (fun (_ : String) (_ : Unit) (_ : State) => True) (va_A [(xt, .inr (12, [.ref ah, .ref xe, .ref xf])), (ah, .inr (4, [.ref ac, .ref au, .ref ab, .ref an, .ref ak, .ref ad, .int 0, .int 0, .long 0])), (ab, .inr (7, [.ref b1, .ref b2, .int 0, .int 0])), (b1, .inl (cI, 200, .inl (cn 0))), (b2, .inl (cI, 200, .inl (cn 0))), (ou, .inl (cL, 1, .inr (.inl fo)))] sz)) 1 6 (va_A [(xt, .inr (12, [.ref ah, .ref xe, .ref xf])), (ah, .inr (4, [.ref ac, .ref au, .ref ab, .ref an, .ref ak, .ref ad, .int 0, .int 0, .long 0])), (ab, .inr (7, [.ref b1, .ref b2, .int 0, .int 0])), (b1, .inl (cI, 200, .inl (cn 0))), (b2, .inl (cI, 200, .inl (cn 0))), (ou, .inl (cL, 1, .inr (.inl fo)))] sz) := by
  refine vx_ofWH (cc := cL_edgePin) (maxL := 4) (ret := (some .int)) (hh := [(0, 9, 12, 63)]) (by decide) rfl ?_
  intro p e s m args below meth c s₁ B hml hv
  obtain ⟨rfl, hsz, hP, hK, hD0, hG⟩ := hv
  have hx := B.exec
  have hb := B.bytes
  have hr := B.returns
  have hts := atoms_spec (ws := wsL_edgePin) B.pre
  have hown : s.vm.findClass RL = some m.cls := findClass_of_methodNamed B.named
  have hlocks := B.notSynchronized
  have htab : c.exceptionTable.toList = tableOf [(0, 9, 12, 63)] := vx_table (x := yL_edgePin) B (hts _ List.mem_cons_self)
  subst hsz
  have hD := hD0.self (sz := s.heap.size)
  generalize hAe : va_A [(xt, .inr (12, [.ref ah, .ref xe, .ref xf])), (ah, .inr (4, [.ref ac, .ref au, .ref ab, .ref an, .ref ak, .ref ad, .int 0, .int 0, .long 0])), (ab, .inr (7, [.ref b1, .ref b2, .int 0, .int 0])), (b1, .inl (cI, 200, .inl (cn 0))), (b2, .inl (cI, 200, .inl (cn 0))), (ou, .inl (cL, 1, .inr (.inl fo)))] s.heap.size = A at hD hG ⊢
  have hN := hG.1
  have hA : ∀ q : Nat, s.heap.size ≤ q → A q := fun q h => by rw [← hAe]; exact Or.inr h
  have hS : va_S A s.heap s.heap [] := va_S.rf
  have hP : va_P (dC, dI) vwCl [(xt, .inr (12, [.ref ah, .ref xe, .ref xf])), (ah, .inr (4, [.ref ac, .ref au, .ref ab, .ref an, .ref ak, .ref ad, .int 0, .int 0, .long 0])), (ab, .inr (7, [.ref b1, .ref b2, .int 0, .int 0])), (b1, .inl (cI, 200, .inl (cn 0))), (b2, .inl (cI, 200, .inl (cn 0))), (ou, .inl (cL, 1, .inr (.inl fo)))] s.heap := hP
  have hw0 : (Cond.classLink RL 63 "java/util/NoSuchElementException").before _ s = true := hts _ (List.mem_cons_of_mem _ (List.mem_append_left _ (List.mem_append_left _ (List.mem_append_left _ (List.mem_append_left _ (List.mem_append_left _ (List.mem_of_getElem? (i := 0) rfl)))))))
  have hl := lv_entry ([.ref xt, .int v1, .ref ou]) (n := 4) (Nat.le_of_ble_eq_true rfl)
  rw [lg_entry_eq]
  generalize (lg_sl ([.ref xt, .int v1, .ref ou]) ++ List.replicate (4 - (lg_sl ([.ref xt, .int v1, .ref ou])).length) Slot.unset).toArray = ls at hl ⊢
  have hl : lv_has ls 4 [(0, .ref xt), (1, .int v1), (2, .ref ou)] := hl
  refine lv_aload_n hx hb dL_edgePin_0 rfl (lv_at hl 2 rfl) ?_
  refine lv_iconst (v := 0) hx hb dL_edgePin_1 (by decide) ?_
  refine lv_aload_n hx hb dL_edgePin_2 rfl (lv_at hl 0 rfl) ?_
  refine lv_iload_n hx hb dL_edgePin_3 rfl (lv_at hl 1 rfl) ?_
  have hPc := hP.sub (ws' := [(xt, .inr (12, [.ref ah, .ref xe, .ref xf])), (ah, .inr (4, [.ref ac, .ref au, .ref ab, .ref an, .ref ak, .ref ad, .int 0, .int 0, .long 0])), (ab, .inr (7, [.ref b1, .ref b2, .int 0, .int 0])), (b1, .inl (cI, 200, .inl (cn 0))), (b2, .inl (cI, 200, .inl (cn 0)))]) [0, 1, 2, 3, 4] rfl
  have hDc := hD.sub (ws' := [(xt, .inr (12, [.ref ah, .ref xe, .ref xf])), (ah, .inr (4, [.ref ac, .ref au, .ref ab, .ref an, .ref ak, .ref ad, .int 0, .int 0, .long 0])), (ab, .inr (7, [.ref b1, .ref b2, .int 0, .int 0])), (b1, .inl (cI, 200, .inl (cn 0))), (b2, .inl (cI, 200, .inl (cn 0)))]) [0, 1, 2, 3, 4] (by decide) rfl
  have hKc := hK.sub (tys' := [(cI, .int)]) [0] rfl
  have hFc := va_free (wc := [(xt, .inr (12, [.ref ah, .ref xe, .ref xf])), (ah, .inr (4, [.ref ac, .ref au, .ref ab, .ref an, .ref ak, .ref ad, .int 0, .int 0, .long 0])), (ab, .inr (7, [.ref b1, .ref b2, .int 0, .int 0])), (b1, .inl (cI, 200, .inl (cn 0))), (b2, .inl (cI, 200, .inl (cn 0)))]) hD hS hA [0, 1, 2, 3, 4] rfl
  refine vx_calli (vx_runV (As := [.int v1]) (rest := [.int 0, .ref ou]) ⟨hx, hb, hml, hown, hts⟩ (c_X8_edgePin l hl9 dC dI g xt xe xf ah ac au ab b1 b2 an ak ad cI v1 s.heap.size) (cwV 1 hts gL_edgePin_X8_edgePin rfl rfl rfl (by decide +kernel) ⟨Nat.le_of_ble_eq_true rfl, Nat.le_of_ble_eq_true rfl⟩) ⟨wIn_blind, va_recv hK hP (ci := 12) (q0 := 0) rfl rfl, wIn_at hPc hKc hDc hG hS hFc⟩ rfl rfl hl.1 rfl (lv_room (Nat.le_of_ble_eq_true rfl)) dL_edgePin_4 ⟨Nat.le_of_ble_eq_true rfl, Nat.le_of_ble_eq_true rfl⟩) hS (fun q _ h => hFc q h) hFc (fun q _ h => hFc q h) (fun E9 ce9 q_2 u9 t H1 locs ht hvm hx9 hB9 hz1 hk1 hS hce hcv hcl => ?_) (fun r_1 u t H1 locs ht hvm hw hB hz1 hk1 hS => ?_)
  · obtain ⟨rfl, hs9⟩ := hB9
    refine vx_catch (E := "java/util/NoSuchElementException") (name := "java/util/NoSuchElementException") hown [] ⟨0, 9, 12, 63⟩ [] (htab.trans rfl) (fun z hz => nomatch hz) (by decide) (by decide) hw0 (nw_use hN _ (List.mem_of_getElem? (i := 56) rfl)) hce hcv hcl ?_
    obtain ⟨hP, hD⟩ := va_join (wr := [(ou, .inl (cL, 1, .inr (.inl fo)))]) (w1 := []) hP hD [0, 1, 2, 3, 4] [5] rfl rfl (by decide) (by decide) hk1 hFc vaP0 vaD0
    generalize H1 = H at hP hS ⊢
    have hP : va_P (dC, dI) vwCl [(ou, .inl (cL, 1, .inr (.inl fo)))] H := hP
    have hD : va_D A [(ou, .inl (cL, 1, .inr (.inl fo)))] := hD
    refine W.widen (k := 1) (n := 6) (Nat.le_of_ble_eq_true rfl) (Nat.le_of_ble_eq_true rfl) ?_
    refine lv_astore_n (lv' := [(3, .ref q_2), (0, .ref xt), (1, .int v1), (2, .ref ou)]) hx hb dL_edgePin_12 rfl hl (by decide) rfl (fun ls hl => ?_)
    refine lv_iconst (v := 1) hx hb dL_edgePin_13 (by decide) ?_
    have hP9 := hP.sub (ws' := [(ou, .inl (cL, 1, .inr (.inl fo)))]) [0] rfl
    have hD9 := hD.sub (ws' := [(ou, .inl (cL, 1, .inr (.inl fo)))]) [0] (by decide) rfl
    have hK9 := hK.sub (tys' := [(cI, .int), (cL, .long)]) [0, 1] rfl
    refine vx_ret ?_
    exact W.iret (v := 1) hx hb hr (fun t ht hW => ⟨⟨1, (fo), rfl, hs9.symm, wOut_at ht hW hP9 hK9 hD9⟩, hS.F ht⟩) hS.2.2 dL_edgePin_14
  · exact hw.elim
set_option maxHeartbeats 4000000 in
set_option maxRecDepth 100000 in
theorem c_L_isRequested (l : Launch) (hl9 : l.stackTraces = false) (dC : Nat → ClassId) (dI : Nat → Nat → Nat) (g : Nat × Nat × Nat) (xt : Nat) (xe : Nat) (xf : Nat) (ah : Nat) (ac : Nat) (au : Nat) (ab : Nat) (an : Nat) (n1 : Nat) (n2 : Nat) (n3 : Nat) (n4 : Nat) (n5 : Nat) (ak : Nat) (ad : Nat) (cI : ClassId) (v1 : Int32) (fo : Nat → Int64) (ou : Nat) (cL : ClassId) (sz : Nat) : vx_Met l yL_isRequested wsL_isRequested ({ frames := 7, cells := 1, slots := 6, locals := 121 } : Room) (va_Pc [.ref xt, .int v1, .ref ou] (wIn dC dI g [(xt, .inr (12, [.ref ah, .ref xe, .ref xf])), (ah, .inr (4, [.ref ac, .ref au, .ref ab, .ref an, .ref ak, .ref ad, .int 0, .int 0, .long 0])), (an, .inr (6, [.ref n1, .ref n2, .ref n3, .ref n4, .ref n5, .int 0, .int 0])), (n1, .inl (cI, 8, .inl (cn 7))), (n2, .inl (cI, 8, .inl (cn 1))), (n3, .inl (cI, 8, .inl (cn 110))), (n4, .inl (cI, 8, .inl (cn 0))), (n5, .inl (cI, 8, .inl (cn 0))), (ou, .inl (cL, 1, .inr (.inl fo)))] [(cI, .int), (cL, .long)] sz)) (va_Qi (fun (r : Int32) (u : Nat → Int64) => r = sp_X8_isRequested v1 ∧ (sp_X8_isRequested v1 = 0 → u 0 = 0)) (fun (u : Nat → Int64) (t : State) => wOut dC dI [(ou, .inl (cL, 1, .inr (.inl u)))] [(cI, .int), (cL, .long)] (va_A [(xt, .inr (12, [.ref ah, .ref xe, .ref xf])), (ah, .inr (4, [.ref ac, .ref au, .ref ab, .ref an, .ref ak, .ref ad, .int 0, .int 0, .long 0])), (an, .inr (6, [.ref n1, .ref n2, .ref n3, .ref n4, .ref n5, .int 0, .int 0])), (n1, .inl (cI, 8, .inl (cn 7))), (n2, .inl (cI, 8, .inl (cn 1))), (n3, .inl (cI, 8, .inl (cn 110))), (n4, .inl (cI, 8, .inl (cn 0))), (n5, .inl (cI, 8, .inl (cn 0))), (ou, .inl (cL, 1, .inr (.inl fo)))] sz) t) (va_A [(xt, .inr (12, [.ref ah, .ref xe, .ref xf])), (ah, .inr (4, [.ref ac, .ref au, .ref ab, .ref an, .ref ak, .ref ad, .int 0, .int 0, .long 0])), (an, .inr (6, [.ref n1, .ref n2, .ref n3, .ref n4, .ref n5, .int 0, .int 0])), (n1, .inl (cI, 8, .inl (cn 7))), (n2, .inl (cI, 8, .inl (cn 1))), (n3, .inl (cI, 8, .inl (cn 110))), (n4, .inl (cI, 8, .inl (cn 0))), (n5, .inl (cI, 8, .inl (cn 0))), (ou, .inl (cL, 1, .inr (.inl fo)))] sz)) (vx_X (fun (_ : Unit) => False) (fun (_ : String) (_ : Unit) (_ : State) => True) (va_A [(xt, .inr (12, [.ref ah, .ref xe, .ref xf])), (ah, .inr (4, [.ref ac, .ref au, .ref ab, .ref an, .ref ak, .ref ad, .int 0, .int 0, .long 0])), (an, .inr (6, [.ref n1, .ref n2, .ref n3, .ref n4, .ref n5, .int 0, .int 0])), (n1, .inl (cI, 8, .inl (cn 7))), (n2, .inl (cI, 8, .inl (cn 1))), (n3, .inl (cI, 8, .inl (cn 110))), (n4, .inl (cI, 8, .inl (cn 0))), (n5, .inl (cI, 8, .inl (cn 0))), (ou, .inl (cL, 1, .inr (.inl fo)))] sz)) 1 6 (va_A [(xt, .inr (12, [.ref ah, .ref xe, .ref xf])), (ah, .inr (4, [.ref ac, .ref au, .ref ab, .ref an, .ref ak, .ref ad, .int 0, .int 0, .long 0])), (an, .inr (6, [.ref n1, .ref n2, .ref n3, .ref n4, .ref n5, .int 0, .int 0])), (n1, .inl (cI, 8, .inl (cn 7))), (n2, .inl (cI, 8, .inl (cn 1))), (n3, .inl (cI, 8, .inl (cn 110))), (n4, .inl (cI, 8, .inl (cn 0))), (n5, .inl (cI, 8, .inl (cn 0))), (ou, .inl (cL, 1, .inr (.inl fo)))] sz) := by
  refine vx_ofWH (cc := cL_isRequested) (maxL := 4) (ret := (some .int)) (hh := [(0, 16, 19, 13)]) (by decide) rfl ?_
  intro p e s m args below meth c s₁ B hml hv
  obtain ⟨rfl, hsz, hP, hK, hD0, hG⟩ := hv
  have hx := B.exec
  have hb := B.bytes
  have hr := B.returns
  have hts := atoms_spec (ws := wsL_isRequested) B.pre
  have hown : s.vm.findClass RL = some m.cls := findClass_of_methodNamed B.named
  have hlocks := B.notSynchronized
  have htab : c.exceptionTable.toList = tableOf [(0, 16, 19, 13)] := vx_table (x := yL_isRequested) B (hts _ List.mem_cons_self)
  subst hsz
  have hD := hD0.self (sz := s.heap.size)
  generalize hAe : va_A [(xt, .inr (12, [.ref ah, .ref xe, .ref xf])), (ah, .inr (4, [.ref ac, .ref au, .ref ab, .ref an, .ref ak, .ref ad, .int 0, .int 0, .long 0])), (an, .inr (6, [.ref n1, .ref n2, .ref n3, .ref n4, .ref n5, .int 0, .int 0])), (n1, .inl (cI, 8, .inl (cn 7))), (n2, .inl (cI, 8, .inl (cn 1))), (n3, .inl (cI, 8, .inl (cn 110))), (n4, .inl (cI, 8, .inl (cn 0))), (n5, .inl (cI, 8, .inl (cn 0))), (ou, .inl (cL, 1, .inr (.inl fo)))] s.heap.size = A at hD hG ⊢
  have hN := hG.1
  have hA : ∀ q : Nat, s.heap.size ≤ q → A q := fun q h => by rw [← hAe]; exact Or.inr h
  have hS : va_S A s.heap s.heap [] := va_S.rf
  have hP : va_P (dC, dI) vwCl [(xt, .inr (12, [.ref ah, .ref xe, .ref xf])), (ah, .inr (4, [.ref ac, .ref au, .ref ab, .ref an, .ref ak, .ref ad, .int 0, .int 0, .long 0])), (an, .inr (6, [.ref n1, .ref n2, .ref n3, .ref n4, .ref n5, .int 0, .int 0])), (n1, .inl (cI, 8, .inl (cn 7))), (n2, .inl (cI, 8, .inl (cn 1))), (n3, .inl (cI, 8, .inl (cn 110))), (n4, .inl (cI, 8, .inl (cn 0))), (n5, .inl (cI, 8, .inl (cn 0))), (ou, .inl (cL, 1, .inr (.inl fo)))] s.heap := hP
  have hw0 : (Cond.classLink RL 13 "java/lang/IndexOutOfBoundsException").before _ s = true := hts _ (List.mem_cons_of_mem _ (List.mem_append_left _ (List.mem_append_left _ (List.mem_append_left _ (List.mem_append_left _ (List.mem_append_left _ (List.mem_of_getElem? (i := 0) rfl)))))))
  have hl := lv_entry ([.ref xt, .int v1, .ref ou]) (n := 4) (Nat.le_of_ble_eq_true rfl)
  rw [lg_entry_eq]
  generalize (lg_sl ([.ref xt, .int v1, .ref ou]) ++ List.replicate (4 - (lg_sl ([.ref xt, .int v1, .ref ou])).length) Slot.unset).toArray = ls at hl ⊢
  have hl : lv_has ls 4 [(0, .ref xt), (1, .int v1), (2, .ref ou)] := hl
  refine lv_aload_n hx hb dL_isRequested_0 rfl (lv_at hl 2 rfl) ?_
  refine lv_iconst (v := 0) hx hb dL_isRequested_1 (by decide) ?_
  refine lv_aload_n hx hb dL_isRequested_2 rfl (lv_at hl 0 rfl) ?_
  refine lv_iload_n hx hb dL_isRequested_3 rfl (lv_at hl 1 rfl) ?_
  have hPc := hP.sub (ws' := [(xt, .inr (12, [.ref ah, .ref xe, .ref xf])), (ah, .inr (4, [.ref ac, .ref au, .ref ab, .ref an, .ref ak, .ref ad, .int 0, .int 0, .long 0])), (an, .inr (6, [.ref n1, .ref n2, .ref n3, .ref n4, .ref n5, .int 0, .int 0])), (n1, .inl (cI, 8, .inl (cn 7))), (n2, .inl (cI, 8, .inl (cn 1))), (n3, .inl (cI, 8, .inl (cn 110))), (n4, .inl (cI, 8, .inl (cn 0))), (n5, .inl (cI, 8, .inl (cn 0)))]) [0, 1, 2, 3, 4, 5, 6, 7] rfl
  have hDc := hD.sub (ws' := [(xt, .inr (12, [.ref ah, .ref xe, .ref xf])), (ah, .inr (4, [.ref ac, .ref au, .ref ab, .ref an, .ref ak, .ref ad, .int 0, .int 0, .long 0])), (an, .inr (6, [.ref n1, .ref n2, .ref n3, .ref n4, .ref n5, .int 0, .int 0])), (n1, .inl (cI, 8, .inl (cn 7))), (n2, .inl (cI, 8, .inl (cn 1))), (n3, .inl (cI, 8, .inl (cn 110))), (n4, .inl (cI, 8, .inl (cn 0))), (n5, .inl (cI, 8, .inl (cn 0)))]) [0, 1, 2, 3, 4, 5, 6, 7] (by decide) rfl
  have hKc := hK.sub (tys' := [(cI, .int)]) [0] rfl
  have hFc := va_free (wc := [(xt, .inr (12, [.ref ah, .ref xe, .ref xf])), (ah, .inr (4, [.ref ac, .ref au, .ref ab, .ref an, .ref ak, .ref ad, .int 0, .int 0, .long 0])), (an, .inr (6, [.ref n1, .ref n2, .ref n3, .ref n4, .ref n5, .int 0, .int 0])), (n1, .inl (cI, 8, .inl (cn 7))), (n2, .inl (cI, 8, .inl (cn 1))), (n3, .inl (cI, 8, .inl (cn 110))), (n4, .inl (cI, 8, .inl (cn 0))), (n5, .inl (cI, 8, .inl (cn 0)))]) hD hS hA [0, 1, 2, 3, 4, 5, 6, 7] rfl
  refine vx_calli (vx_runV (As := [.int v1]) (rest := [.int 0, .ref ou]) ⟨hx, hb, hml, hown, hts⟩ (c_X8_isRequested l hl9 dC dI g xt xe xf ah ac au ab an n1 n2 n3 n4 n5 ak ad cI v1 s.heap.size) (cwV 1 hts gL_isRequested_X8_isRequested rfl rfl rfl (by decide +kernel) ⟨Nat.le_of_ble_eq_true rfl, Nat.le_of_ble_eq_true rfl⟩) ⟨wIn_blind, va_recv hK hP (ci := 12) (q0 := 0) rfl rfl, wIn_at hPc hKc hDc hG hS hFc⟩ rfl rfl hl.1 rfl (lv_room (Nat.le_of_ble_eq_true rfl)) dL_isRequested_4 ⟨Nat.le_of_ble_eq_true rfl, Nat.le_of_ble_eq_true rfl⟩) hS (fun q _ h => hFc q h) hFc (fun q _ h => hFc q h) (fun E9 ce9 q_2 u9 t H1 locs ht hvm hx9 hB9 hz1 hk1 hS hce hcv hcl => ?_) (fun r_1 u t H1 locs ht hvm hw hB hz1 hk1 hS => ?_)
  · obtain ⟨rfl, hs9⟩ := hB9
    refine vx_catch (E := "java/lang/IndexOutOfBoundsException") (name := "java/lang/IndexOutOfBoundsException") hown [] ⟨0, 16, 19, 13⟩ [] (htab.trans rfl) (fun z hz => nomatch hz) (by decide) (by decide) hw0 (nw_use hN _ (List.mem_of_getElem? (i := 55) rfl)) hce hcv hcl ?_
    obtain ⟨hP, hD⟩ := va_join (wr := [(ou, .inl (cL, 1, .inr (.inl fo)))]) (w1 := []) hP hD [0, 1, 2, 3, 4, 5, 6, 7] [8] rfl rfl (by decide) (by decide) hk1 hFc vaP0 vaD0
    generalize H1 = H at hP hS ⊢
    have hP : va_P (dC, dI) vwCl [(ou, .inl (cL, 1, .inr (.inl fo)))] H := hP
    have hD : va_D A [(ou, .inl (cL, 1, .inr (.inl fo)))] := hD
    refine W.widen (k := 1) (n := 6) (Nat.le_of_ble_eq_true rfl) (Nat.le_of_ble_eq_true rfl) ?_
    refine lv_astore_n (lv' := [(3, .ref q_2), (0, .ref xt), (1, .int v1), (2, .ref ou)]) hx hb dL_isRequested_19 rfl hl (by decide) rfl (fun ls hl => ?_)
    refine lv_iconst (v := 1) hx hb dL_isRequested_20 (by decide) ?_
    have hP9 := hP.sub (ws' := [(ou, .inl (cL, 1, .inr (.inl fo)))]) [0] rfl
    have hD9 := hD.sub (ws' := [(ou, .inl (cL, 1, .inr (.inl fo)))]) [0] (by decide) rfl
    have hK9 := hK.sub (tys' := [(cI, .int), (cL, .long)]) [0, 1] rfl
    refine vx_ret ?_
    exact W.iret (v := 1) hx hb hr (fun t ht hW => ⟨⟨1, (fo), rfl, ⟨hs9.symm, (fun h9 => absurd (hs9.symm.trans h9) (by decide))⟩, wOut_at ht hW hP9 hK9 hD9⟩, hS.F ht⟩) hS.2.2 dL_isRequested_21
  · obtain ⟨hP1, hK1, hD1⟩ := hB
    rw [ht] at hP1
    obtain ⟨hP, hD⟩ := va_join (wr := [(ou, .inl (cL, 1, .inr (.inl fo)))]) (w1 := []) hP hD [0, 1, 2, 3, 4, 5, 6, 7] [8] rfl rfl (by decide) (by decide) hk1 hFc hP1 hD1
    generalize H1 = H at hP hS ⊢
    have hP : va_P (dC, dI) vwCl [(ou, .inl (cL, 1, .inr (.inl fo)))] H := hP
    have hD : va_D A [(ou, .inl (cL, 1, .inr (.inl fo)))] := hD
    refine lt_ci (y := 0) hw.1 ?_
    have hs9 := hw.2
    refine W.widen (k := 1) (n := 6) (Nat.le_of_ble_eq_true rfl) (Nat.le_of_ble_eq_true rfl) ?_
    refine lv_if_eq (tgt := 14) hx hb dL_isRequested_7 (by decide) (fun _ => ?_) (fun c => absurd (by decide) c)
    refine lv_lconst (v := 0) hx hb dL_isRequested_14 rfl ?_
    refine va_last (D := (dC, dI)) hx hb hK hP hD hS 0 1 rfl rfl (by unfold vp_in; decide) dL_isRequested_15 (fun H locs hP hD hS => ?_)
    have hP : va_P (dC, dI) vwCl [(ou, .inl (cL, 1, .inr (.inl (vp_updL fo 0 0))))] H := hP
    have hD : va_D A [(ou, .inl (cL, 1, .inr (.inl (vp_updL fo 0 0))))] := hD
    refine lv_goto (tgt := 22) hx hb dL_isRequested_16 (by decide) ?_
    refine lv_iconst (v := 0) hx hb dL_isRequested_22 (by decide) ?_
    have hP9 := hP.sub (ws' := [(ou, .inl (cL, 1, .inr (.inl (vp_updL fo 0 0))))]) [0] rfl
    have hD9 := hD.sub (ws' := [(ou, .inl (cL, 1, .inr (.inl (vp_updL fo 0 0))))]) [0] (by decide) rfl
    have hK9 := hK.sub (tys' := [(cI, .int), (cL, .long)]) [0, 1] rfl
    refine vx_ret ?_
    exact W.iret (v := 0) hx hb hr (fun t ht hW => ⟨⟨0, (vp_updL fo 0 0), rfl, ⟨hs9.symm, (fun _ => rfl)⟩, wOut_at ht hW hP9 hK9 hD9⟩, hS.F ht⟩) hS.2.2 dL_isRequested_23
set_option maxHeartbeats 4000000 in
set_option maxRecDepth 100000 in
theorem c_L_handled (l : Launch) (hl9 : l.stackTraces = false) (dC : Nat → ClassId) (dI : Nat → Nat → Nat) (g : Nat × Nat × Nat) (xt : Nat) (xe : Nat) (xf : Nat) (ah : Nat) (ac : Nat) (au : Nat) (ab : Nat) (an : Nat) (n1 : Nat) (n2 : Nat) (n3 : Nat) (n4 : Nat) (n5 : Nat) (ak : Nat) (ad : Nat) (cI : ClassId) (v1 : Int32) (fo : Nat → Int64) (ou : Nat) (cL : ClassId) (sz : Nat) : vx_Met l yL_handled wsL_handled ({ frames := 7, cells := 1, slots := 6, locals := 121 } : Room) (va_Pc [.ref xt, .int v1, .ref ou] (wIn dC dI g [(xt, .inr (12, [.ref ah, .ref xe, .ref xf])), (ah, .inr (4, [.ref ac, .ref au, .ref ab, .ref an, .ref ak, .ref ad, .int 0, .int 0, .long 0])), (an, .inr (6, [.ref n1, .ref n2, .ref n3, .ref n4, .ref n5, .int 0, .int 0])), (n1, .inl (cI, 8, .inl (cn 7))), (n2, .inl (cI, 8, .inl (cn 1))), (n3, .inl (cI, 8, .inl (cn 110))), (n4, .inl (cI, 8, .inl (cn 0))), (n5, .inl (cI, 8, .inl (cn 0))), (ou, .inl (cL, 1, .inr (.inl fo)))] [(cI, .int), (cL, .long)] sz)) (va_Qi (fun (r : Int32) (u : Nat → Int64) => r = sp_X8_handled v1 ∧ (sp_X8_handled v1 = 0 → u 0 = 0)) (fun (u : Nat → Int64) (t : State) => wOut dC dI [(ou, .inl (cL, 1, .inr (.inl u)))] [(cI, .int), (cL, .long)] (va_A [(xt, .inr (12, [.ref ah, .ref xe, .ref xf])), (ah, .inr (4, [.ref ac, .ref au, .ref ab, .ref an, .ref ak, .ref ad, .int 0, .int 0, .long 0])), (an, .inr (6, [.ref n1, .ref n2, .ref n3, .ref n4, .ref n5, .int 0, .int 0])), (n1, .inl (cI, 8, .inl (cn 7))), (n2, .inl (cI, 8, .inl (cn 1))), (n3, .inl (cI, 8, .inl (cn 110))), (n4, .inl (cI, 8, .inl (cn 0))), (n5, .inl (cI, 8, .inl (cn 0))), (ou, .inl (cL, 1, .inr (.inl fo)))] sz) t) (va_A [(xt, .inr (12, [.ref ah, .ref xe, .ref xf])), (ah, .inr (4, [.ref ac, .ref au, .ref ab, .ref an, .ref ak, .ref ad, .int 0, .int 0, .long 0])), (an, .inr (6, [.ref n1, .ref n2, .ref n3, .ref n4, .ref n5, .int 0, .int 0])), (n1, .inl (cI, 8, .inl (cn 7))), (n2, .inl (cI, 8, .inl (cn 1))), (n3, .inl (cI, 8, .inl (cn 110))), (n4, .inl (cI, 8, .inl (cn 0))), (n5, .inl (cI, 8, .inl (cn 0))), (ou, .inl (cL, 1, .inr (.inl fo)))] sz)) (vx_X (fun (_ : Unit) => False) (fun (_ : String) (_ : Unit) (_ : State) => True) (va_A [(xt, .inr (12, [.ref ah, .ref xe, .ref xf])), (ah, .inr (4, [.ref ac, .ref au, .ref ab, .ref an, .ref ak, .ref ad, .int 0, .int 0, .long 0])), (an, .inr (6, [.ref n1, .ref n2, .ref n3, .ref n4, .ref n5, .int 0, .int 0])), (n1, .inl (cI, 8, .inl (cn 7))), (n2, .inl (cI, 8, .inl (cn 1))), (n3, .inl (cI, 8, .inl (cn 110))), (n4, .inl (cI, 8, .inl (cn 0))), (n5, .inl (cI, 8, .inl (cn 0))), (ou, .inl (cL, 1, .inr (.inl fo)))] sz)) 1 6 (va_A [(xt, .inr (12, [.ref ah, .ref xe, .ref xf])), (ah, .inr (4, [.ref ac, .ref au, .ref ab, .ref an, .ref ak, .ref ad, .int 0, .int 0, .long 0])), (an, .inr (6, [.ref n1, .ref n2, .ref n3, .ref n4, .ref n5, .int 0, .int 0])), (n1, .inl (cI, 8, .inl (cn 7))), (n2, .inl (cI, 8, .inl (cn 1))), (n3, .inl (cI, 8, .inl (cn 110))), (n4, .inl (cI, 8, .inl (cn 0))), (n5, .inl (cI, 8, .inl (cn 0))), (ou, .inl (cL, 1, .inr (.inl fo)))] sz) := by
  refine vx_ofWH (cc := cL_handled) (maxL := 4) (ret := (some .int)) (hh := [(0, 9, 12, 13)]) (by decide) rfl ?_
  intro p e s m args below meth c s₁ B hml hv
  obtain ⟨rfl, hsz, hP, hK, hD0, hG⟩ := hv
  have hx := B.exec
  have hb := B.bytes
  have hr := B.returns
  have hts := atoms_spec (ws := wsL_handled) B.pre
  have hown : s.vm.findClass RL = some m.cls := findClass_of_methodNamed B.named
  have hlocks := B.notSynchronized
  have htab : c.exceptionTable.toList = tableOf [(0, 9, 12, 13)] := vx_table (x := yL_handled) B (hts _ List.mem_cons_self)
  subst hsz
  have hD := hD0.self (sz := s.heap.size)
  generalize hAe : va_A [(xt, .inr (12, [.ref ah, .ref xe, .ref xf])), (ah, .inr (4, [.ref ac, .ref au, .ref ab, .ref an, .ref ak, .ref ad, .int 0, .int 0, .long 0])), (an, .inr (6, [.ref n1, .ref n2, .ref n3, .ref n4, .ref n5, .int 0, .int 0])), (n1, .inl (cI, 8, .inl (cn 7))), (n2, .inl (cI, 8, .inl (cn 1))), (n3, .inl (cI, 8, .inl (cn 110))), (n4, .inl (cI, 8, .inl (cn 0))), (n5, .inl (cI, 8, .inl (cn 0))), (ou, .inl (cL, 1, .inr (.inl fo)))] s.heap.size = A at hD hG ⊢
  have hN := hG.1
  have hA : ∀ q : Nat, s.heap.size ≤ q → A q := fun q h => by rw [← hAe]; exact Or.inr h
  have hS : va_S A s.heap s.heap [] := va_S.rf
  have hP : va_P (dC, dI) vwCl [(xt, .inr (12, [.ref ah, .ref xe, .ref xf])), (ah, .inr (4, [.ref ac, .ref au, .ref ab, .ref an, .ref ak, .ref ad, .int 0, .int 0, .long 0])), (an, .inr (6, [.ref n1, .ref n2, .ref n3, .ref n4, .ref n5, .int 0, .int 0])), (n1, .inl (cI, 8, .inl (cn 7))), (n2, .inl (cI, 8, .inl (cn 1))), (n3, .inl (cI, 8, .inl (cn 110))), (n4, .inl (cI, 8, .inl (cn 0))), (n5, .inl (cI, 8, .inl (cn 0))), (ou, .inl (cL, 1, .inr (.inl fo)))] s.heap := hP
  have hw0 : (Cond.classLink RL 13 "java/lang/IndexOutOfBoundsException").before _ s = true := hts _ (List.mem_cons_of_mem _ (List.mem_append_left _ (List.mem_append_left _ (List.mem_append_left _ (List.mem_append_left _ (List.mem_append_left _ (List.mem_of_getElem? (i := 0) rfl)))))))
  have hl := lv_entry ([.ref xt, .int v1, .ref ou]) (n := 4) (Nat.le_of_ble_eq_true rfl)
  rw [lg_entry_eq]
  generalize (lg_sl ([.ref xt, .int v1, .ref ou]) ++ List.replicate (4 - (lg_sl ([.ref xt, .int v1, .ref ou])).length) Slot.unset).toArray = ls at hl ⊢
  have hl : lv_has ls 4 [(0, .ref xt), (1, .int v1), (2, .ref ou)] := hl
  refine lv_aload_n hx hb dL_handled_0 rfl (lv_at hl 2 rfl) ?_
  refine lv_iconst (v := 0) hx hb dL_handled_1 (by decide) ?_
  refine lv_aload_n hx hb dL_handled_2 rfl (lv_at hl 0 rfl) ?_
  refine lv_iload_n hx hb dL_handled_3 rfl (lv_at hl 1 rfl) ?_
  have hPc := hP.sub (ws' := [(xt, .inr (12, [.ref ah, .ref xe, .ref xf])), (ah, .inr (4, [.ref ac, .ref au, .ref ab, .ref an, .ref ak, .ref ad, .int 0, .int 0, .long 0])), (an, .inr (6, [.ref n1, .ref n2, .ref n3, .ref n4, .ref n5, .int 0, .int 0])), (n1, .inl (cI, 8, .inl (cn 7))), (n2, .inl (cI, 8, .inl (cn 1))), (n3, .inl (cI, 8, .inl (cn 110))), (n4, .inl (cI, 8, .inl (cn 0))), (n5, .inl (cI, 8, .inl (cn 0)))]) [0, 1, 2, 3, 4, 5, 6, 7] rfl
  have hDc := hD.sub (ws' := [(xt, .inr (12, [.ref ah, .ref xe, .ref xf])), (ah, .inr (4, [.ref ac, .ref au, .ref ab, .ref an, .ref ak, .ref ad, .int 0, .int 0, .long 0])), (an, .inr (6, [.ref n1, .ref n2, .ref n3, .ref n4, .ref n5, .int 0, .int 0])), (n1, .inl (cI, 8, .inl (cn 7))), (n2, .inl (cI, 8, .inl (cn 1))), (n3, .inl (cI, 8, .inl (cn 110))), (n4, .inl (cI, 8, .inl (cn 0))), (n5, .inl (cI, 8, .inl (cn 0)))]) [0, 1, 2, 3, 4, 5, 6, 7] (by decide) rfl
  have hKc := hK.sub (tys' := [(cI, .int)]) [0] rfl
  have hFc := va_free (wc := [(xt, .inr (12, [.ref ah, .ref xe, .ref xf])), (ah, .inr (4, [.ref ac, .ref au, .ref ab, .ref an, .ref ak, .ref ad, .int 0, .int 0, .long 0])), (an, .inr (6, [.ref n1, .ref n2, .ref n3, .ref n4, .ref n5, .int 0, .int 0])), (n1, .inl (cI, 8, .inl (cn 7))), (n2, .inl (cI, 8, .inl (cn 1))), (n3, .inl (cI, 8, .inl (cn 110))), (n4, .inl (cI, 8, .inl (cn 0))), (n5, .inl (cI, 8, .inl (cn 0)))]) hD hS hA [0, 1, 2, 3, 4, 5, 6, 7] rfl
  refine vx_calli (vx_runV (As := [.int v1]) (rest := [.int 0, .ref ou]) ⟨hx, hb, hml, hown, hts⟩ (c_X8_handled l hl9 dC dI g xt xe xf ah ac au ab an n1 n2 n3 n4 n5 ak ad cI v1 s.heap.size) (cwV 1 hts gL_handled_X8_handled rfl rfl rfl (by decide +kernel) ⟨Nat.le_of_ble_eq_true rfl, Nat.le_of_ble_eq_true rfl⟩) ⟨wIn_blind, va_recv hK hP (ci := 12) (q0 := 0) rfl rfl, wIn_at hPc hKc hDc hG hS hFc⟩ rfl rfl hl.1 rfl (lv_room (Nat.le_of_ble_eq_true rfl)) dL_handled_4 ⟨Nat.le_of_ble_eq_true rfl, Nat.le_of_ble_eq_true rfl⟩) hS (fun q _ h => hFc q h) hFc (fun q _ h => hFc q h) (fun E9 ce9 q_2 u9 t H1 locs ht hvm hx9 hB9 hz1 hk1 hS hce hcv hcl => ?_) (fun r_1 u t H1 locs ht hvm hw hB hz1 hk1 hS => ?_)
  · obtain ⟨rfl, hs9⟩ := hB9
    refine vx_catch (E := "java/lang/IndexOutOfBoundsException") (name := "java/lang/IndexOutOfBoundsException") hown [] ⟨0, 9, 12, 13⟩ [] (htab.trans rfl) (fun z hz => nomatch hz) (by decide) (by decide) hw0 (nw_use hN _ (List.mem_of_getElem? (i := 55) rfl)) hce hcv hcl ?_
    obtain ⟨hP, hD⟩ := va_join (wr := [(ou, .inl (cL, 1, .inr (.inl fo)))]) (w1 := []) hP hD [0, 1, 2, 3, 4, 5, 6, 7] [8] rfl rfl (by decide) (by decide) hk1 hFc vaP0 vaD0
    generalize H1 = H at hP hS ⊢
    have hP : va_P (dC, dI) vwCl [(ou, .inl (cL, 1, .inr (.inl fo)))] H := hP
    have hD : va_D A [(ou, .inl (cL, 1, .inr (.inl fo)))] := hD
    refine W.widen (k := 1) (n := 6) (Nat.le_of_ble_eq_true rfl) (Nat.le_of_ble_eq_true rfl) ?_
    refine lv_astore_n (lv' := [(3, .ref q_2), (0, .ref xt), (1, .int v1), (2, .ref ou)]) hx hb dL_handled_12 rfl hl (by decide) rfl (fun ls hl => ?_)
    refine lv_iconst (v := 1) hx hb dL_handled_13 (by decide) ?_
    have hP9 := hP.sub (ws' := [(ou, .inl (cL, 1, .inr (.inl fo)))]) [0] rfl
    have hD9 := hD.sub (ws' := [(ou, .inl (cL, 1, .inr (.inl fo)))]) [0] (by decide) rfl
    have hK9 := hK.sub (tys' := [(cI, .int), (cL, .long)]) [0, 1] rfl
    refine vx_ret ?_
    exact W.iret (v := 1) hx hb hr (fun t ht hW => ⟨⟨1, (fo), rfl, ⟨hs9.symm, (fun h9 => absurd (hs9.symm.trans h9) (by decide))⟩, wOut_at ht hW hP9 hK9 hD9⟩, hS.F ht⟩) hS.2.2 dL_handled_14
  · obtain ⟨hP1, hK1, hD1⟩ := hB
    rw [ht] at hP1
    obtain ⟨hP, hD⟩ := va_join (wr := [(ou, .inl (cL, 1, .inr (.inl fo)))]) (w1 := []) hP hD [0, 1, 2, 3, 4, 5, 6, 7] [8] rfl rfl (by decide) (by decide) hk1 hFc hP1 hD1
    generalize H1 = H at hP hS ⊢
    have hP : va_P (dC, dI) vwCl [(ou, .inl (cL, 1, .inr (.inl fo)))] H := hP
    have hD : va_D A [(ou, .inl (cL, 1, .inr (.inl fo)))] := hD
    refine lt_ci (y := 0) hw.1 ?_
    have hs9 := hw.2
    refine W.widen (k := 1) (n := 6) (Nat.le_of_ble_eq_true rfl) (Nat.le_of_ble_eq_true rfl) ?_
    refine lv_i2l (v := 0) hx hb dL_handled_7 (by first | rfl | decide) ?_
    refine va_last (D := (dC, dI)) hx hb hK hP hD hS 0 1 rfl rfl (by unfold vp_in; decide) dL_handled_8 (fun H locs hP hD hS => ?_)
    have hP : va_P (dC, dI) vwCl [(ou, .inl (cL, 1, .inr (.inl (vp_updL fo 0 0))))] H := hP
    have hD : va_D A [(ou, .inl (cL, 1, .inr (.inl (vp_updL fo 0 0))))] := hD
    refine lv_goto (tgt := 15) hx hb dL_handled_9 (by decide) ?_
    refine lv_iconst (v := 0) hx hb dL_handled_15 (by decide) ?_
    have hP9 := hP.sub (ws' := [(ou, .inl (cL, 1, .inr (.inl (vp_updL fo 0 0))))]) [0] rfl
    have hD9 := hD.sub (ws' := [(ou, .inl (cL, 1, .inr (.inl (vp_updL fo 0 0))))]) [0] (by decide) rfl
    have hK9 := hK.sub (tys' := [(cI, .int), (cL, .long)]) [0, 1] rfl
    refine vx_ret ?_
    exact W.iret (v := 0) hx hb hr (fun t ht hW => ⟨⟨0, (vp_updL fo 0 0), rfl, ⟨hs9.symm, (fun _ => rfl)⟩, wOut_at ht hW hP9 hK9 hD9⟩, hS.F ht⟩) hS.2.2 dL_handled_16
set_option maxHeartbeats 4000000 in
set_option maxRecDepth 100000 in
theorem c_L_setHandler (l : Launch) (hl9 : l.stackTraces = false) (dC : Nat → ClassId) (dI : Nat → Nat → Nat) (g : Nat × Nat × Nat) (xt : Nat) (xe : Nat) (xf : Nat) (ah : Nat) (ac : Nat) (au : Nat) (ab : Nat) (an : Nat) (n1 : Nat) (n2 : Nat) (n3 : Nat) (n4 : Nat) (n5 : Nat) (ak : Nat) (ad : Nat) (cI : ClassId) (v1 : Int32) (v2 : Int32) (v3 : Int32) (v4 : Int32) (fo : Nat → Int64) (ou : Nat) (cL : ClassId) (sz : Nat) : vx_Met l yL_setHandler wsL_setHandler ({ frames := 7, cells := 1, slots := 6, locals := 126 } : Room) (va_Pc [.ref xt, .int v1, .int v2, .int v3, .int v4, .ref ou] (wIn dC dI g [(xt, .inr (12, [.ref ah, .ref xe, .ref xf])), (ah, .inr (4, [.ref ac, .ref au, .ref ab, .ref an, .ref ak, .ref ad, .int 0, .int 0, .long 0])), (an, .inr (6, [.ref n1, .ref n2, .ref n3, .ref n4, .ref n5, .int 0, .int 0])), (n1, .inl (cI, 8, .inl (cn 7))), (n2, .inl (cI, 8, .inl (cn 1))), (n3, .inl (cI, 8, .inl (cn 110))), (n4, .inl (cI, 8, .inl (cn 0))), (n5, .inl (cI, 8, .inl (cn 0))), (ou, .inl (cL, 1, .inr (.inl fo)))] [(cI, .int), (cL, .long)] sz)) (va_Qi (fun (r : Int32) (u : Nat → Int64) => r = sp_X8_setHandler v1 v2 v3 v4 ∧ (sp_X8_setHandler v1 v2 v3 v4 = 0 → u 0 = 1)) (fun (u : Nat → Int64) (t : State) => wOut dC dI [(ou, .inl (cL, 1, .inr (.inl u)))] [(cI, .int), (cL, .long)] (va_A [(xt, .inr (12, [.ref ah, .ref xe, .ref xf])), (ah, .inr (4, [.ref ac, .ref au, .ref ab, .ref an, .ref ak, .ref ad, .int 0, .int 0, .long 0])), (an, .inr (6, [.ref n1, .ref n2, .ref n3, .ref n4, .ref n5, .int 0, .int 0])), (n1, .inl (cI, 8, .inl (cn 7))), (n2, .inl (cI, 8, .inl (cn 1))), (n3, .inl (cI, 8, .inl (cn 110))), (n4, .inl (cI, 8, .inl (cn 0))), (n5, .inl (cI, 8, .inl (cn 0))), (ou, .inl (cL, 1, .inr (.inl fo)))] sz) t) (va_A [(xt, .inr (12, [.ref ah, .ref xe, .ref xf])), (ah, .inr (4, [.ref ac, .ref au, .ref ab, .ref an, .ref ak, .ref ad, .int 0, .int 0, .long 0])), (an, .inr (6, [.ref n1, .ref n2, .ref n3, .ref n4, .ref n5, .int 0, .int 0])), (n1, .inl (cI, 8, .inl (cn 7))), (n2, .inl (cI, 8, .inl (cn 1))), (n3, .inl (cI, 8, .inl (cn 110))), (n4, .inl (cI, 8, .inl (cn 0))), (n5, .inl (cI, 8, .inl (cn 0))), (ou, .inl (cL, 1, .inr (.inl fo)))] sz)) (vx_X (fun (_ : Unit) => False) (fun (_ : String) (_ : Unit) (_ : State) => True) (va_A [(xt, .inr (12, [.ref ah, .ref xe, .ref xf])), (ah, .inr (4, [.ref ac, .ref au, .ref ab, .ref an, .ref ak, .ref ad, .int 0, .int 0, .long 0])), (an, .inr (6, [.ref n1, .ref n2, .ref n3, .ref n4, .ref n5, .int 0, .int 0])), (n1, .inl (cI, 8, .inl (cn 7))), (n2, .inl (cI, 8, .inl (cn 1))), (n3, .inl (cI, 8, .inl (cn 110))), (n4, .inl (cI, 8, .inl (cn 0))), (n5, .inl (cI, 8, .inl (cn 0))), (ou, .inl (cL, 1, .inr (.inl fo)))] sz)) 1 6 (va_A [(xt, .inr (12, [.ref ah, .ref xe, .ref xf])), (ah, .inr (4, [.ref ac, .ref au, .ref ab, .ref an, .ref ak, .ref ad, .int 0, .int 0, .long 0])), (an, .inr (6, [.ref n1, .ref n2, .ref n3, .ref n4, .ref n5, .int 0, .int 0])), (n1, .inl (cI, 8, .inl (cn 7))), (n2, .inl (cI, 8, .inl (cn 1))), (n3, .inl (cI, 8, .inl (cn 110))), (n4, .inl (cI, 8, .inl (cn 0))), (n5, .inl (cI, 8, .inl (cn 0))), (ou, .inl (cL, 1, .inr (.inl fo)))] sz) := by
  refine vx_ofWH (cc := cL_setHandler) (maxL := 7) (ret := (some .int)) (hh := [(0, 14, 17, 13), (0, 14, 21, 15)]) (by decide) rfl ?_
  intro p e s m args below meth c s₁ B hml hv
  obtain ⟨rfl, hsz, hP, hK, hD0, hG⟩ := hv
  have hx := B.exec
  have hb := B.bytes
  have hr := B.returns
  have hts := atoms_spec (ws := wsL_setHandler) B.pre
  have hown : s.vm.findClass RL = some m.cls := findClass_of_methodNamed B.named
  have hlocks := B.notSynchronized
  have htab : c.exceptionTable.toList = tableOf [(0, 14, 17, 13), (0, 14, 21, 15)] := vx_table (x := yL_setHandler) B (hts _ List.mem_cons_self)
  subst hsz
  have hD := hD0.self (sz := s.heap.size)
  generalize hAe : va_A [(xt, .inr (12, [.ref ah, .ref xe, .ref xf])), (ah, .inr (4, [.ref ac, .ref au, .ref ab, .ref an, .ref ak, .ref ad, .int 0, .int 0, .long 0])), (an, .inr (6, [.ref n1, .ref n2, .ref n3, .ref n4, .ref n5, .int 0, .int 0])), (n1, .inl (cI, 8, .inl (cn 7))), (n2, .inl (cI, 8, .inl (cn 1))), (n3, .inl (cI, 8, .inl (cn 110))), (n4, .inl (cI, 8, .inl (cn 0))), (n5, .inl (cI, 8, .inl (cn 0))), (ou, .inl (cL, 1, .inr (.inl fo)))] s.heap.size = A at hD hG ⊢
  have hN := hG.1
  have hA : ∀ q : Nat, s.heap.size ≤ q → A q := fun q h => by rw [← hAe]; exact Or.inr h
  have hS : va_S A s.heap s.heap [] := va_S.rf
  have hP : va_P (dC, dI) vwCl [(xt, .inr (12, [.ref ah, .ref xe, .ref xf])), (ah, .inr (4, [.ref ac, .ref au, .ref ab, .ref an, .ref ak, .ref ad, .int 0, .int 0, .long 0])), (an, .inr (6, [.ref n1, .ref n2, .ref n3, .ref n4, .ref n5, .int 0, .int 0])), (n1, .inl (cI, 8, .inl (cn 7))), (n2, .inl (cI, 8, .inl (cn 1))), (n3, .inl (cI, 8, .inl (cn 110))), (n4, .inl (cI, 8, .inl (cn 0))), (n5, .inl (cI, 8, .inl (cn 0))), (ou, .inl (cL, 1, .inr (.inl fo)))] s.heap := hP
  have hw0 : (Cond.classLink RL 13 "java/lang/IndexOutOfBoundsException").before _ s = true := hts _ (List.mem_cons_of_mem _ (List.mem_append_left _ (List.mem_append_left _ (List.mem_append_left _ (List.mem_append_left _ (List.mem_append_left _ (List.mem_append_left _ (List.mem_of_getElem? (i := 0) rfl))))))))
  have hw1 : (Cond.classLink RL 15 "java/lang/IllegalArgumentException").before _ s = true := hts _ (List.mem_cons_of_mem _ (List.mem_append_left _ (List.mem_append_left _ (List.mem_append_left _ (List.mem_append_left _ (List.mem_append_left _ (List.mem_append_left _ (List.mem_of_getElem? (i := 1) rfl))))))))
  have hl := lv_entry ([.ref xt, .int v1, .int v2, .int v3, .int v4, .ref ou]) (n := 7) (Nat.le_of_ble_eq_true rfl)
  rw [lg_entry_eq]
  generalize (lg_sl ([.ref xt, .int v1, .int v2, .int v3, .int v4, .ref ou]) ++ List.replicate (7 - (lg_sl ([.ref xt, .int v1, .int v2, .int v3, .int v4, .ref ou])).length) Slot.unset).toArray = ls at hl ⊢
  have hl : lv_has ls 7 [(0, .ref xt), (1, .int v1), (2, .int v2), (3, .int v3), (4, .int v4), (5, .ref ou)] := hl
  refine lv_aload hx hb dL_setHandler_0 (lv_at hl 5 rfl) ?_
  refine lv_iconst (v := 0) hx hb dL_setHandler_2 (by decide) ?_
  refine lv_aload_n hx hb dL_setHandler_3 rfl (lv_at hl 0 rfl) ?_
  refine lv_iload_n hx hb dL_setHandler_4 rfl (lv_at hl 1 rfl) ?_
  refine lv_iload_n hx hb dL_setHandler_5 rfl (lv_at hl 2 rfl) ?_
  refine lv_iload_n hx hb dL_setHandler_6 rfl (lv_at hl 3 rfl) ?_
  refine lv_iload hx hb dL_setHandler_7 (lv_at hl 4 rfl) ?_
  have hPc := hP.sub (ws' := [(xt, .inr (12, [.ref ah, .ref xe, .ref xf])), (ah, .inr (4, [.ref ac, .ref au, .ref ab, .ref an, .ref ak, .ref ad, .int 0, .int 0, .long 0])), (an, .inr (6, [.ref n1, .ref n2, .ref n3, .ref n4, .ref n5, .int 0, .int 0])), (n1, .inl (cI, 8, .inl (cn 7))), (n2, .inl (cI, 8, .inl (cn 1))), (n3, .inl (cI, 8, .inl (cn 110))), (n4, .inl (cI, 8, .inl (cn 0))), (n5, .inl (cI, 8, .inl (cn 0)))]) [0, 1, 2, 3, 4, 5, 6, 7] rfl
  have hDc := hD.sub (ws' := [(xt, .inr (12, [.ref ah, .ref xe, .ref xf])), (ah, .inr (4, [.ref ac, .ref au, .ref ab, .ref an, .ref ak, .ref ad, .int 0, .int 0, .long 0])), (an, .inr (6, [.ref n1, .ref n2, .ref n3, .ref n4, .ref n5, .int 0, .int 0])), (n1, .inl (cI, 8, .inl (cn 7))), (n2, .inl (cI, 8, .inl (cn 1))), (n3, .inl (cI, 8, .inl (cn 110))), (n4, .inl (cI, 8, .inl (cn 0))), (n5, .inl (cI, 8, .inl (cn 0)))]) [0, 1, 2, 3, 4, 5, 6, 7] (by decide) rfl
  have hKc := hK.sub (tys' := [(cI, .int)]) [0] rfl
  have hFc := va_free (wc := [(xt, .inr (12, [.ref ah, .ref xe, .ref xf])), (ah, .inr (4, [.ref ac, .ref au, .ref ab, .ref an, .ref ak, .ref ad, .int 0, .int 0, .long 0])), (an, .inr (6, [.ref n1, .ref n2, .ref n3, .ref n4, .ref n5, .int 0, .int 0])), (n1, .inl (cI, 8, .inl (cn 7))), (n2, .inl (cI, 8, .inl (cn 1))), (n3, .inl (cI, 8, .inl (cn 110))), (n4, .inl (cI, 8, .inl (cn 0))), (n5, .inl (cI, 8, .inl (cn 0)))]) hD hS hA [0, 1, 2, 3, 4, 5, 6, 7] rfl
  refine vx_calli (vx_runV (As := [.int v1, .int v2, .int v3, .int v4]) (rest := [.int 0, .ref ou]) ⟨hx, hb, hml, hown, hts⟩ (c_X8_setHandler l hl9 dC dI g xt xe xf ah ac au ab an n1 n2 n3 n4 n5 ak ad cI v1 v2 v3 v4 s.heap.size) (cwV 4 hts gL_setHandler_X8_setHandler rfl rfl rfl (by decide +kernel) ⟨Nat.le_of_ble_eq_true rfl, Nat.le_of_ble_eq_true rfl⟩) ⟨wIn_blind, va_recv hK hP (ci := 12) (q0 := 0) rfl rfl, wIn_at hPc hKc hDc hG hS hFc⟩ rfl rfl hl.1 rfl (lv_room (Nat.le_of_ble_eq_true rfl)) dL_setHandler_9 ⟨Nat.le_of_ble_eq_true rfl, Nat.le_of_ble_eq_true rfl⟩) hS (fun q _ h => hFc q h) hFc (fun q _ h => hFc q h) (fun E9 ce9 q_2 u9 t H1 locs ht hvm hx9 hB9 hz1 hk1 hS hce hcv hcl => ?_) (fun r_1 u t H1 locs ht hvm hw hB hz1 hk1 hS => ?_)
  · rcases hB9 with ⟨rfl, hs9⟩ | ⟨rfl, hs9⟩
    · refine vx_catch (E := "java/lang/IndexOutOfBoundsException") (name := "java/lang/IndexOutOfBoundsException") hown [] ⟨0, 14, 17, 13⟩ [⟨0, 14, 21, 15⟩] (htab.trans rfl) (fun z hz => nomatch hz) (by decide) (by decide) hw0 (nw_use hN _ (List.mem_of_getElem? (i := 55) rfl)) hce hcv hcl ?_
      obtain ⟨hP, hD⟩ := va_join (wr := [(ou, .inl (cL, 1, .inr (.inl fo)))]) (w1 := []) hP hD [0, 1, 2, 3, 4, 5, 6, 7] [8] rfl rfl (by decide) (by decide) hk1 hFc vaP0 vaD0
      generalize H1 = H at hP hS ⊢
      have hP : va_P (dC, dI) vwCl [(ou, .inl (cL, 1, .inr (.inl fo)))] H := hP
      have hD : va_D A [(ou, .inl (cL, 1, .inr (.inl fo)))] := hD
      refine W.widen (k := 1) (n := 6) (Nat.le_of_ble_eq_true rfl) (Nat.le_of_ble_eq_true rfl) ?_
      refine lv_astore (lv' := [(6, .ref q_2), (0, .ref xt), (1, .int v1), (2, .int v2), (3, .int v3), (4, .int v4), (5, .ref ou)]) hx hb dL_setHandler_17 hl (by decide) rfl (fun ls hl => ?_)
      refine lv_iconst (v := 1) hx hb dL_setHandler_19 (by decide) ?_
      have hP9 := hP.sub (ws' := [(ou, .inl (cL, 1, .inr (.inl fo)))]) [0] rfl
      have hD9 := hD.sub (ws' := [(ou, .inl (cL, 1, .inr (.inl fo)))]) [0] (by decide) rfl
      have hK9 := hK.sub (tys' := [(cI, .int), (cL, .long)]) [0, 1] rfl
      refine vx_ret ?_
      exact W.iret (v := 1) hx hb hr (fun t ht hW => ⟨⟨1, (fo), rfl, ⟨hs9.symm, (fun h9 => absurd (hs9.symm.trans h9) (by decide))⟩, wOut_at ht hW hP9 hK9 hD9⟩, hS.F ht⟩) hS.2.2 dL_setHandler_20
    · refine vx_catch (E := "java/lang/IllegalArgumentException") (name := "java/lang/IllegalArgumentException") hown [⟨0, 14, 17, 13⟩] ⟨0, 14, 21, 15⟩ [] (htab.trans rfl) (List.forall_mem_cons.2 ⟨Or.inr ⟨by decide, "java/lang/IndexOutOfBoundsException", hw0, (hG.2.2.2.2.2.2.2.2.2.2.1 _ (List.mem_of_getElem? (i := 3) rfl))⟩, (fun z hz => nomatch hz)⟩) (by decide) (by decide) hw1 (nw_use hN _ (List.mem_of_getElem? (i := 54) rfl)) hce hcv hcl ?_
      obtain ⟨hP, hD⟩ := va_join (wr := [(ou, .inl (cL, 1, .inr (.inl fo)))]) (w1 := []) hP hD [0, 1, 2, 3, 4, 5, 6, 7] [8] rfl rfl (by decide) (by decide) hk1 hFc vaP0 vaD0
      generalize H1 = H at hP hS ⊢
      have hP : va_P (dC, dI) vwCl [(ou, .inl (cL, 1, .inr (.inl fo)))] H := hP
      have hD : va_D A [(ou, .inl (cL, 1, .inr (.inl fo)))] := hD
      refine W.widen (k := 1) (n := 6) (Nat.le_of_ble_eq_true rfl) (Nat.le_of_ble_eq_true rfl) ?_
      refine lv_astore (lv' := [(6, .ref q_2), (0, .ref xt), (1, .int v1), (2, .int v2), (3, .int v3), (4, .int v4), (5, .ref ou)]) hx hb dL_setHandler_21 hl (by decide) rfl (fun ls hl => ?_)
      refine lv_iconst (v := 2) hx hb dL_setHandler_23 (by decide) ?_
      have hP9 := hP.sub (ws' := [(ou, .inl (cL, 1, .inr (.inl fo)))]) [0] rfl
      have hD9 := hD.sub (ws' := [(ou, .inl (cL, 1, .inr (.inl fo)))]) [0] (by decide) rfl
      have hK9 := hK.sub (tys' := [(cI, .int), (cL, .long)]) [0, 1] rfl
      refine vx_ret ?_
      exact W.iret (v := 2) hx hb hr (fun t ht hW => ⟨⟨2, (fo), rfl, ⟨hs9.symm, (fun h9 => absurd (hs9.symm.trans h9) (by decide))⟩, wOut_at ht hW hP9 hK9 hD9⟩, hS.F ht⟩) hS.2.2 dL_setHandler_24
  · obtain ⟨hP1, hK1, hD1⟩ := hB
    rw [ht] at hP1
    obtain ⟨hP, hD⟩ := va_join (wr := [(ou, .inl (cL, 1, .inr (.inl fo)))]) (w1 := []) hP hD [0, 1, 2, 3, 4, 5, 6, 7] [8] rfl rfl (by decide) (by decide) hk1 hFc hP1 hD1
    generalize H1 = H at hP hS ⊢
    have hP : va_P (dC, dI) vwCl [(ou, .inl (cL, 1, .inr (.inl fo)))] H := hP
    have hD : va_D A [(ou, .inl (cL, 1, .inr (.inl fo)))] := hD
    refine lt_ci (y := 1) hw.1 ?_
    have hs9 := hw.2
    refine W.widen (k := 1) (n := 6) (Nat.le_of_ble_eq_true rfl) (Nat.le_of_ble_eq_true rfl) ?_
    refine lv_i2l (v := 1) hx hb dL_setHandler_12 (by first | rfl | decide) ?_
    refine va_last (D := (dC, dI)) hx hb hK hP hD hS 0 1 rfl rfl (by unfold vp_in; decide) dL_setHandler_13 (fun H locs hP hD hS => ?_)
    have hP : va_P (dC, dI) vwCl [(ou, .inl (cL, 1, .inr (.inl (vp_updL fo 0 1))))] H := hP
    have hD : va_D A [(ou, .inl (cL, 1, .inr (.inl (vp_updL fo 0 1))))] := hD
    refine lv_goto (tgt := 25) hx hb dL_setHandler_14 (by decide) ?_
    refine lv_iconst (v := 0) hx hb dL_setHandler_25 (by decide) ?_
    have hP9 := hP.sub (ws' := [(ou, .inl (cL, 1, .inr (.inl (vp_updL fo 0 1))))]) [0] rfl
    have hD9 := hD.sub (ws' := [(ou, .inl (cL, 1, .inr (.inl (vp_updL fo 0 1))))]) [0] (by decide) rfl
    have hK9 := hK.sub (tys' := [(cI, .int), (cL, .long)]) [0, 1] rfl
    refine vx_ret ?_
    exact W.iret (v := 0) hx hb hr (fun t ht hW => ⟨⟨0, (vp_updL fo 0 1), rfl, ⟨hs9.symm, (fun _ => rfl)⟩, wOut_at ht hW hP9 hK9 hD9⟩, hS.F ht⟩) hS.2.2 dL_setHandler_26
set_option maxHeartbeats 4000000 in
set_option maxRecDepth 100000 in
theorem c_L_setPin (l : Launch) (hl9 : l.stackTraces = false) (dC : Nat → ClassId) (dI : Nat → Nat → Nat) (g : Nat × Nat × Nat) (xt : Nat) (xe : Nat) (xf : Nat) (ah : Nat) (ac : Nat) (au : Nat) (t1 : Nat) (t2 : Nat) (t3 : Nat) (t4 : Nat) (t5 : Nat) (t6 : Nat) (t7 : Nat) (ab : Nat) (an : Nat) (ak : Nat) (ad : Nat) (cI : ClassId) (v1 : Int32) (v2 : Int32) (v3 : Int32) (fo : Nat → Int64) (ou : Nat) (cL : ClassId) (sz : Nat) : vx_Met l yL_setPin wsL_setPin ({ frames := 7, cells := 1, slots := 6, locals := 124 } : Room) (va_Pc [.ref xt, .int v1, .int v2, .int v3, .ref ou] (wIn dC dI g [(xt, .inr (12, [.ref ah, .ref xe, .ref xf])), (ah, .inr (4, [.ref ac, .ref au, .ref ab, .ref an, .ref ak, .ref ad, .int 0, .int 0, .long 0])), (au, .inr (10, [.ref t1, .ref t2, .ref t3, .ref t4, .ref t5, .ref t6, .ref t7, .int 0, .int 0])), (t1, .inl (cI, 4, .inl (cn 0))), (t2, .inl (cI, 4, .inl (cn 10))), (t3, .inl (cI, 4, .inl (cn 10))), (t4, .inl (cI, 4, .inl (cn (-1)))), (t5, .inl (cI, 4, .inl (cn 0))), (t6, .inl (cI, 4, .inl (cn 0))), (t7, .inl (cI, 4, .inl (cn 110))), (ou, .inl (cL, 1, .inr (.inl fo)))] [(cI, .int), (cL, .long)] sz)) (va_Qi (fun (r : Int32) (u : Nat → Int64) => r = sp_X8_setPin v1 v2 v3 ∧ (sp_X8_setPin v1 v2 v3 = 0 → u 0 = 110)) (fun (u : Nat → Int64) (t : State) => wOut dC dI [(ou, .inl (cL, 1, .inr (.inl u)))] [(cI, .int), (cL, .long)] (va_A [(xt, .inr (12, [.ref ah, .ref xe, .ref xf])), (ah, .inr (4, [.ref ac, .ref au, .ref ab, .ref an, .ref ak, .ref ad, .int 0, .int 0, .long 0])), (au, .inr (10, [.ref t1, .ref t2, .ref t3, .ref t4, .ref t5, .ref t6, .ref t7, .int 0, .int 0])), (t1, .inl (cI, 4, .inl (cn 0))), (t2, .inl (cI, 4, .inl (cn 10))), (t3, .inl (cI, 4, .inl (cn 10))), (t4, .inl (cI, 4, .inl (cn (-1)))), (t5, .inl (cI, 4, .inl (cn 0))), (t6, .inl (cI, 4, .inl (cn 0))), (t7, .inl (cI, 4, .inl (cn 110))), (ou, .inl (cL, 1, .inr (.inl fo)))] sz) t) (va_A [(xt, .inr (12, [.ref ah, .ref xe, .ref xf])), (ah, .inr (4, [.ref ac, .ref au, .ref ab, .ref an, .ref ak, .ref ad, .int 0, .int 0, .long 0])), (au, .inr (10, [.ref t1, .ref t2, .ref t3, .ref t4, .ref t5, .ref t6, .ref t7, .int 0, .int 0])), (t1, .inl (cI, 4, .inl (cn 0))), (t2, .inl (cI, 4, .inl (cn 10))), (t3, .inl (cI, 4, .inl (cn 10))), (t4, .inl (cI, 4, .inl (cn (-1)))), (t5, .inl (cI, 4, .inl (cn 0))), (t6, .inl (cI, 4, .inl (cn 0))), (t7, .inl (cI, 4, .inl (cn 110))), (ou, .inl (cL, 1, .inr (.inl fo)))] sz)) (vx_X (fun (_ : Unit) => False) (fun (_ : String) (_ : Unit) (_ : State) => True) (va_A [(xt, .inr (12, [.ref ah, .ref xe, .ref xf])), (ah, .inr (4, [.ref ac, .ref au, .ref ab, .ref an, .ref ak, .ref ad, .int 0, .int 0, .long 0])), (au, .inr (10, [.ref t1, .ref t2, .ref t3, .ref t4, .ref t5, .ref t6, .ref t7, .int 0, .int 0])), (t1, .inl (cI, 4, .inl (cn 0))), (t2, .inl (cI, 4, .inl (cn 10))), (t3, .inl (cI, 4, .inl (cn 10))), (t4, .inl (cI, 4, .inl (cn (-1)))), (t5, .inl (cI, 4, .inl (cn 0))), (t6, .inl (cI, 4, .inl (cn 0))), (t7, .inl (cI, 4, .inl (cn 110))), (ou, .inl (cL, 1, .inr (.inl fo)))] sz)) 1 6 (va_A [(xt, .inr (12, [.ref ah, .ref xe, .ref xf])), (ah, .inr (4, [.ref ac, .ref au, .ref ab, .ref an, .ref ak, .ref ad, .int 0, .int 0, .long 0])), (au, .inr (10, [.ref t1, .ref t2, .ref t3, .ref t4, .ref t5, .ref t6, .ref t7, .int 0, .int 0])), (t1, .inl (cI, 4, .inl (cn 0))), (t2, .inl (cI, 4, .inl (cn 10))), (t3, .inl (cI, 4, .inl (cn 10))), (t4, .inl (cI, 4, .inl (cn (-1)))), (t5, .inl (cI, 4, .inl (cn 0))), (t6, .inl (cI, 4, .inl (cn 0))), (t7, .inl (cI, 4, .inl (cn 110))), (ou, .inl (cL, 1, .inr (.inl fo)))] sz) := by
  refine vx_ofWH (cc := cL_setPin) (maxL := 6) (ret := (some .int)) (hh := [(0, 12, 15, 13), (0, 12, 19, 15)]) (by decide) rfl ?_
  intro p e s m args below meth c s₁ B hml hv
  obtain ⟨rfl, hsz, hP, hK, hD0, hG⟩ := hv
  have hx := B.exec
  have hb := B.bytes
  have hr := B.returns
  have hts := atoms_spec (ws := wsL_setPin) B.pre
  have hown : s.vm.findClass RL = some m.cls := findClass_of_methodNamed B.named
  have hlocks := B.notSynchronized
  have htab : c.exceptionTable.toList = tableOf [(0, 12, 15, 13), (0, 12, 19, 15)] := vx_table (x := yL_setPin) B (hts _ List.mem_cons_self)
  subst hsz
  have hD := hD0.self (sz := s.heap.size)
  generalize hAe : va_A [(xt, .inr (12, [.ref ah, .ref xe, .ref xf])), (ah, .inr (4, [.ref ac, .ref au, .ref ab, .ref an, .ref ak, .ref ad, .int 0, .int 0, .long 0])), (au, .inr (10, [.ref t1, .ref t2, .ref t3, .ref t4, .ref t5, .ref t6, .ref t7, .int 0, .int 0])), (t1, .inl (cI, 4, .inl (cn 0))), (t2, .inl (cI, 4, .inl (cn 10))), (t3, .inl (cI, 4, .inl (cn 10))), (t4, .inl (cI, 4, .inl (cn (-1)))), (t5, .inl (cI, 4, .inl (cn 0))), (t6, .inl (cI, 4, .inl (cn 0))), (t7, .inl (cI, 4, .inl (cn 110))), (ou, .inl (cL, 1, .inr (.inl fo)))] s.heap.size = A at hD hG ⊢
  have hN := hG.1
  have hA : ∀ q : Nat, s.heap.size ≤ q → A q := fun q h => by rw [← hAe]; exact Or.inr h
  have hS : va_S A s.heap s.heap [] := va_S.rf
  have hP : va_P (dC, dI) vwCl [(xt, .inr (12, [.ref ah, .ref xe, .ref xf])), (ah, .inr (4, [.ref ac, .ref au, .ref ab, .ref an, .ref ak, .ref ad, .int 0, .int 0, .long 0])), (au, .inr (10, [.ref t1, .ref t2, .ref t3, .ref t4, .ref t5, .ref t6, .ref t7, .int 0, .int 0])), (t1, .inl (cI, 4, .inl (cn 0))), (t2, .inl (cI, 4, .inl (cn 10))), (t3, .inl (cI, 4, .inl (cn 10))), (t4, .inl (cI, 4, .inl (cn (-1)))), (t5, .inl (cI, 4, .inl (cn 0))), (t6, .inl (cI, 4, .inl (cn 0))), (t7, .inl (cI, 4, .inl (cn 110))), (ou, .inl (cL, 1, .inr (.inl fo)))] s.heap := hP
  have hw0 : (Cond.classLink RL 13 "java/lang/IndexOutOfBoundsException").before _ s = true := hts _ (List.mem_cons_of_mem _ (List.mem_append_left _ (List.mem_append_left _ (List.mem_append_left _ (List.mem_append_left _ (List.mem_append_left _ (List.mem_append_left _ (List.mem_of_getElem? (i := 0) rfl))))))))
  have hw1 : (Cond.classLink RL 15 "java/lang/IllegalArgumentException").before _ s = true := hts _ (List.mem_cons_of_mem _ (List.mem_append_left _ (List.mem_append_left _ (List.mem_append_left _ (List.mem_append_left _ (List.mem_append_left _ (List.mem_append_left _ (List.mem_of_getElem? (i := 1) rfl))))))))
  have hl := lv_entry ([.ref xt, .int v1, .int v2, .int v3, .ref ou]) (n := 6) (Nat.le_of_ble_eq_true rfl)
  rw [lg_entry_eq]
  generalize (lg_sl ([.ref xt, .int v1, .int v2, .int v3, .ref ou]) ++ List.replicate (6 - (lg_sl ([.ref xt, .int v1, .int v2, .int v3, .ref ou])).length) Slot.unset).toArray = ls at hl ⊢
  have hl : lv_has ls 6 [(0, .ref xt), (1, .int v1), (2, .int v2), (3, .int v3), (4, .ref ou)] := hl
  refine lv_aload hx hb dL_setPin_0 (lv_at hl 4 rfl) ?_
  refine lv_iconst (v := 0) hx hb dL_setPin_2 (by decide) ?_
  refine lv_aload_n hx hb dL_setPin_3 rfl (lv_at hl 0 rfl) ?_
  refine lv_iload_n hx hb dL_setPin_4 rfl (lv_at hl 1 rfl) ?_
  refine lv_iload_n hx hb dL_setPin_5 rfl (lv_at hl 2 rfl) ?_
  refine lv_iload_n hx hb dL_setPin_6 rfl (lv_at hl 3 rfl) ?_
  have hPc := hP.sub (ws' := [(xt, .inr (12, [.ref ah, .ref xe, .ref xf])), (ah, .inr (4, [.ref ac, .ref au, .ref ab, .ref an, .ref ak, .ref ad, .int 0, .int 0, .long 0])), (au, .inr (10, [.ref t1, .ref t2, .ref t3, .ref t4, .ref t5, .ref t6, .ref t7, .int 0, .int 0])), (t1, .inl (cI, 4, .inl (cn 0))), (t2, .inl (cI, 4, .inl (cn 10))), (t3, .inl (cI, 4, .inl (cn 10))), (t4, .inl (cI, 4, .inl (cn (-1)))), (t5, .inl (cI, 4, .inl (cn 0))), (t6, .inl (cI, 4, .inl (cn 0))), (t7, .inl (cI, 4, .inl (cn 110)))]) [0, 1, 2, 3, 4, 5, 6, 7, 8, 9] rfl
  have hDc := hD.sub (ws' := [(xt, .inr (12, [.ref ah, .ref xe, .ref xf])), (ah, .inr (4, [.ref ac, .ref au, .ref ab, .ref an, .ref ak, .ref ad, .int 0, .int 0, .long 0])), (au, .inr (10, [.ref t1, .ref t2, .ref t3, .ref t4, .ref t5, .ref t6, .ref t7, .int 0, .int 0])), (t1, .inl (cI, 4, .inl (cn 0))), (t2, .inl (cI, 4, .inl (cn 10))), (t3, .inl (cI, 4, .inl (cn 10))), (t4, .inl (cI, 4, .inl (cn (-1)))), (t5, .inl (cI, 4, .inl (cn 0))), (t6, .inl (cI, 4, .inl (cn 0))), (t7, .inl (cI, 4, .inl (cn 110)))]) [0, 1, 2, 3, 4, 5, 6, 7, 8, 9] (by decide) rfl
  have hKc := hK.sub (tys' := [(cI, .int)]) [0] rfl
  have hFc := va_free (wc := [(xt, .inr (12, [.ref ah, .ref xe, .ref xf])), (ah, .inr (4, [.ref ac, .ref au, .ref ab, .ref an, .ref ak, .ref ad, .int 0, .int 0, .long 0])), (au, .inr (10, [.ref t1, .ref t2, .ref t3, .ref t4, .ref t5, .ref t6, .ref t7, .int 0, .int 0])), (t1, .inl (cI, 4, .inl (cn 0))), (t2, .inl (cI, 4, .inl (cn 10))), (t3, .inl (cI, 4, .inl (cn 10))), (t4, .inl (cI, 4, .inl (cn (-1)))), (t5, .inl (cI, 4, .inl (cn 0))), (t6, .inl (cI, 4, .inl (cn 0))), (t7, .inl (cI, 4, .inl (cn 110)))]) hD hS hA [0, 1, 2, 3, 4, 5, 6, 7, 8, 9] rfl
  refine vx_calli (vx_runV (As := [.int v1, .int v2, .int v3]) (rest := [.int 0, .ref ou]) ⟨hx, hb, hml, hown, hts⟩ (c_X8_setPin l hl9 dC dI g xt xe xf ah ac au t1 t2 t3 t4 t5 t6 t7 ab an ak ad cI v1 v2 v3 s.heap.size) (cwV 3 hts gL_setPin_X8_setPin rfl rfl rfl (by decide +kernel) ⟨Nat.le_of_ble_eq_true rfl, Nat.le_of_ble_eq_true rfl⟩) ⟨wIn_blind, va_recv hK hP (ci := 12) (q0 := 0) rfl rfl, wIn_at hPc hKc hDc hG hS hFc⟩ rfl rfl hl.1 rfl (lv_room (Nat.le_of_ble_eq_true rfl)) dL_setPin_7 ⟨Nat.le_of_ble_eq_true rfl, Nat.le_of_ble_eq_true rfl⟩) hS (fun q _ h => hFc q h) hFc (fun q _ h => hFc q h) (fun E9 ce9 q_2 u9 t H1 locs ht hvm hx9 hB9 hz1 hk1 hS hce hcv hcl => ?_) (fun r_1 u t H1 locs ht hvm hw hB hz1 hk1 hS => ?_)
  · rcases hB9 with ⟨rfl, hs9⟩ | ⟨rfl, hs9⟩
    · refine vx_catch (E := "java/lang/IndexOutOfBoundsException") (name := "java/lang/IndexOutOfBoundsException") hown [] ⟨0, 12, 15, 13⟩ [⟨0, 12, 19, 15⟩] (htab.trans rfl) (fun z hz => nomatch hz) (by decide) (by decide) hw0 (nw_use hN _ (List.mem_of_getElem? (i := 55) rfl)) hce hcv hcl ?_
      obtain ⟨hP, hD⟩ := va_join (wr := [(ou, .inl (cL, 1, .inr (.inl fo)))]) (w1 := []) hP hD [0, 1, 2, 3, 4, 5, 6, 7, 8, 9] [10] rfl rfl (by decide) (by decide) hk1 hFc vaP0 vaD0
      generalize H1 = H at hP hS ⊢
      have hP : va_P (dC, dI) vwCl [(ou, .inl (cL, 1, .inr (.inl fo)))] H := hP
      have hD : va_D A [(ou, .inl (cL, 1, .inr (.inl fo)))] := hD
      refine W.widen (k := 1) (n := 6) (Nat.le_of_ble_eq_true rfl) (Nat.le_of_ble_eq_true rfl) ?_
      refine lv_astore (lv' := [(5, .ref q_2), (0, .ref xt), (1, .int v1), (2, .int v2), (3, .int v3), (4, .ref ou)]) hx hb dL_setPin_15 hl (by decide) rfl (fun ls hl => ?_)
      refine lv_iconst (v := 1) hx hb dL_setPin_17 (by decide) ?_
      have hP9 := hP.sub (ws' := [(ou, .inl (cL, 1, .inr (.inl fo)))]) [0] rfl
      have hD9 := hD.sub (ws' := [(ou, .inl (cL, 1, .inr (.inl fo)))]) [0] (by decide) rfl
      have hK9 := hK.sub (tys' := [(cI, .int), (cL, .long)]) [0, 1] rfl
      refine vx_ret ?_
      exact W.iret (v := 1) hx hb hr (fun t ht hW => ⟨⟨1, (fo), rfl, ⟨hs9.symm, (fun h9 => absurd (hs9.symm.trans h9) (by decide))⟩, wOut_at ht hW hP9 hK9 hD9⟩, hS.F ht⟩) hS.2.2 dL_setPin_18
    · refine vx_catch (E := "java/lang/IllegalArgumentException") (name := "java/lang/IllegalArgumentException") hown [⟨0, 12, 15, 13⟩] ⟨0, 12, 19, 15⟩ [] (htab.trans rfl) (List.forall_mem_cons.2 ⟨Or.inr ⟨by decide, "java/lang/IndexOutOfBoundsException", hw0, (hG.2.2.2.2.2.2.2.2.2.2.1 _ (List.mem_of_getElem? (i := 3) rfl))⟩, (fun z hz => nomatch hz)⟩) (by decide) (by decide) hw1 (nw_use hN _ (List.mem_of_getElem? (i := 54) rfl)) hce hcv hcl ?_
      obtain ⟨hP, hD⟩ := va_join (wr := [(ou, .inl (cL, 1, .inr (.inl fo)))]) (w1 := []) hP hD [0, 1, 2, 3, 4, 5, 6, 7, 8, 9] [10] rfl rfl (by decide) (by decide) hk1 hFc vaP0 vaD0
      generalize H1 = H at hP hS ⊢
      have hP : va_P (dC, dI) vwCl [(ou, .inl (cL, 1, .inr (.inl fo)))] H := hP
      have hD : va_D A [(ou, .inl (cL, 1, .inr (.inl fo)))] := hD
      refine W.widen (k := 1) (n := 6) (Nat.le_of_ble_eq_true rfl) (Nat.le_of_ble_eq_true rfl) ?_
      refine lv_astore (lv' := [(5, .ref q_2), (0, .ref xt), (1, .int v1), (2, .int v2), (3, .int v3), (4, .ref ou)]) hx hb dL_setPin_19 hl (by decide) rfl (fun ls hl => ?_)
      refine lv_iconst (v := 2) hx hb dL_setPin_21 (by decide) ?_
      have hP9 := hP.sub (ws' := [(ou, .inl (cL, 1, .inr (.inl fo)))]) [0] rfl
      have hD9 := hD.sub (ws' := [(ou, .inl (cL, 1, .inr (.inl fo)))]) [0] (by decide) rfl
      have hK9 := hK.sub (tys' := [(cI, .int), (cL, .long)]) [0, 1] rfl
      refine vx_ret ?_
      exact W.iret (v := 2) hx hb hr (fun t ht hW => ⟨⟨2, (fo), rfl, ⟨hs9.symm, (fun h9 => absurd (hs9.symm.trans h9) (by decide))⟩, wOut_at ht hW hP9 hK9 hD9⟩, hS.F ht⟩) hS.2.2 dL_setPin_22
  · obtain ⟨hP1, hK1, hD1⟩ := hB
    rw [ht] at hP1
    obtain ⟨hP, hD⟩ := va_join (wr := [(ou, .inl (cL, 1, .inr (.inl fo)))]) (w1 := []) hP hD [0, 1, 2, 3, 4, 5, 6, 7, 8, 9] [10] rfl rfl (by decide) (by decide) hk1 hFc hP1 hD1
    generalize H1 = H at hP hS ⊢
    have hP : va_P (dC, dI) vwCl [(ou, .inl (cL, 1, .inr (.inl fo)))] H := hP
    have hD : va_D A [(ou, .inl (cL, 1, .inr (.inl fo)))] := hD
    refine lt_ci (y := 110) hw.1 ?_
    have hs9 := hw.2
    refine W.widen (k := 1) (n := 6) (Nat.le_of_ble_eq_true rfl) (Nat.le_of_ble_eq_true rfl) ?_
    refine lv_i2l (v := 110) hx hb dL_setPin_10 (by first | rfl | decide) ?_
    refine va_last (D := (dC, dI)) hx hb hK hP hD hS 0 1 rfl rfl (by unfold vp_in; decide) dL_setPin_11 (fun H locs hP hD hS => ?_)
    have hP : va_P (dC, dI) vwCl [(ou, .inl (cL, 1, .inr (.inl (vp_updL fo 0 110))))] H := hP
    have hD : va_D A [(ou, .inl (cL, 1, .inr (.inl (vp_updL fo 0 110))))] := hD
    refine lv_goto (tgt := 23) hx hb dL_setPin_12 (by decide) ?_
    refine lv_iconst (v := 0) hx hb dL_setPin_23 (by decide) ?_
    have hP9 := hP.sub (ws' := [(ou, .inl (cL, 1, .inr (.inl (vp_updL fo 0 110))))]) [0] rfl
    have hD9 := hD.sub (ws' := [(ou, .inl (cL, 1, .inr (.inl (vp_updL fo 0 110))))]) [0] (by decide) rfl
    have hK9 := hK.sub (tys' := [(cI, .int), (cL, .long)]) [0, 1] rfl
    refine vx_ret ?_
    exact W.iret (v := 0) hx hb hr (fun t ht hW => ⟨⟨0, (vp_updL fo 0 110), rfl, ⟨hs9.symm, (fun _ => rfl)⟩, wOut_at ht hW hP9 hK9 hD9⟩, hS.F ht⟩) hS.2.2 dL_setPin_24
set_option maxHeartbeats 4000000 in
set_option maxRecDepth 100000 in
theorem c_L_toEvent (l : Launch) (hl9 : l.stackTraces = false) (dC : Nat → ClassId) (dI : Nat → Nat → Nat) (g : Nat × Nat × Nat) (xt : Nat) (xe : Nat) (xf : Nat) (ah : Nat) (ac : Nat) (au : Nat) (t1 : Nat) (t2 : Nat) (t3 : Nat) (t4 : Nat) (t5 : Nat) (t6 : Nat) (t7 : Nat) (ab : Nat) (an : Nat) (n1 : Nat) (n2 : Nat) (n3 : Nat) (n4 : Nat) (n5 : Nat) (ar : Nat) (ak : Nat) (ad : Nat) (cI : ClassId) (fo : Nat → Int64) (ou : Nat) (cL : ClassId) (sz : Nat) : vx_Met l yL_toEvent wsL_toEvent ({ frames := 7, cells := 1, slots := 6, locals := 121 } : Room) (va_Pc [.ref xt, .ref ou] (wIn dC dI g [(xt, .inr (12, [.ref ah, .ref xe, .ref xf])), (ah, .inr (4, [.ref ac, .ref au, .ref ab, .ref an, .ref ak, .ref ad, .int 0, .int 0, .long 0])), (au, .inr (10, [.ref t1, .ref t2, .ref t3, .ref t4, .ref t5, .ref t6, .ref t7, .int 0, .int 0])), (an, .inr (6, [.ref n1, .ref n2, .ref n3, .ref n4, .ref n5, .int 0, .int 0])), (ak, .inr (8, [.ref ar, .int 105, .int 0, .int (-1), .int 0, .int 0, .int 0])), (ad, .inr (11, [.int (-1), .int 0, .int 0, .int 0, .int 0, .int 0])), (ou, .inl (cL, 1, .inr (.inl fo)))] [(cI, .int), (cL, .long)] sz)) (va_Qi (fun (r : Int32) (u : Nat → Int64) => r = sp_X8_toEvent) (fun (u : Nat → Int64) (t : State) => wOut dC dI [(ou, .inl (cL, 1, .inr (.inl u)))] [(cI, .int), (cL, .long)] (va_A [(xt, .inr (12, [.ref ah, .ref xe, .ref xf])), (ah, .inr (4, [.ref ac, .ref au, .ref ab, .ref an, .ref ak, .ref ad, .int 0, .int 0, .long 0])), (au, .inr (10, [.ref t1, .ref t2, .ref t3, .ref t4, .ref t5, .ref t6, .ref t7, .int 0, .int 0])), (an, .inr (6, [.ref n1, .ref n2, .ref n3, .ref n4, .ref n5, .int 0, .int 0])), (ak, .inr (8, [.ref ar, .int 105, .int 0, .int (-1), .int 0, .int 0, .int 0])), (ad, .inr (11, [.int (-1), .int 0, .int 0, .int 0, .int 0, .int 0])), (ou, .inl (cL, 1, .inr (.inl fo)))] sz) t) (va_A [(xt, .inr (12, [.ref ah, .ref xe, .ref xf])), (ah, .inr (4, [.ref ac, .ref au, .ref ab, .ref an, .ref ak, .ref ad, .int 0, .int 0, .long 0])), (au, .inr (10, [.ref t1, .ref t2, .ref t3, .ref t4, .ref t5, .ref t6, .ref t7, .int 0, .int 0])), (an, .inr (6, [.ref n1, .ref n2, .ref n3, .ref n4, .ref n5, .int 0, .int 0])), (ak, .inr (8, [.ref ar, .int 105, .int 0, .int (-1), .int 0, .int 0, .int 0])), (ad, .inr (11, [.int (-1), .int 0, .int 0, .int 0, .int 0, .int 0])), (ou, .inl (cL, 1, .inr (.inl fo)))] sz)) (vx_X (fun (_ : Unit) => False) (fun (_ : String) (_ : Unit) (_ : State) => True) (va_A [(xt, .inr (12, [.ref ah, .ref xe, .ref xf])), (ah, .inr (4, [.ref ac, .ref au, .ref ab, .ref an, .ref ak, .ref ad, .int 0, .int 0, .long 0])), (au, .inr (10, [.ref t1, .ref t2, .ref t3, .ref t4, .ref t5, .ref t6, .ref t7, .int 0, .int 0])), (an, .inr (6, [.ref n1, .ref n2, .ref n3, .ref n4, .ref n5, .int 0, .int 0])), (ak, .inr (8, [.ref ar, .int 105, .int 0, .int (-1), .int 0, .int 0, .int 0])), (ad, .inr (11, [.int (-1), .int 0, .int 0, .int 0, .int 0, .int 0])), (ou, .inl (cL, 1, .inr (.inl fo)))] sz)) 1 6 (va_A [(xt, .inr (12, [.ref ah, .ref xe, .ref xf])), (ah, .inr (4, [.ref ac, .ref au, .ref ab, .ref an, .ref ak, .ref ad, .int 0, .int 0, .long 0])), (au, .inr (10, [.ref t1, .ref t2, .ref t3, .ref t4, .ref t5, .ref t6, .ref t7, .int 0, .int 0])), (an, .inr (6, [.ref n1, .ref n2, .ref n3, .ref n4, .ref n5, .int 0, .int 0])), (ak, .inr (8, [.ref ar, .int 105, .int 0, .int (-1), .int 0, .int 0, .int 0])), (ad, .inr (11, [.int (-1), .int 0, .int 0, .int 0, .int 0, .int 0])), (ou, .inl (cL, 1, .inr (.inl fo)))] sz) := by
  refine vx_ofWH (cc := cL_toEvent) (maxL := 3) (ret := (some .int)) (hh := [(0, 8, 11, 63)]) (by decide) rfl ?_
  intro p e s m args below meth c s₁ B hml hv
  obtain ⟨rfl, hsz, hP, hK, hD0, hG⟩ := hv
  have hx := B.exec
  have hb := B.bytes
  have hr := B.returns
  have hts := atoms_spec (ws := wsL_toEvent) B.pre
  have hown : s.vm.findClass RL = some m.cls := findClass_of_methodNamed B.named
  have hlocks := B.notSynchronized
  have htab : c.exceptionTable.toList = tableOf [(0, 8, 11, 63)] := vx_table (x := yL_toEvent) B (hts _ List.mem_cons_self)
  subst hsz
  have hD := hD0.self (sz := s.heap.size)
  generalize hAe : va_A [(xt, .inr (12, [.ref ah, .ref xe, .ref xf])), (ah, .inr (4, [.ref ac, .ref au, .ref ab, .ref an, .ref ak, .ref ad, .int 0, .int 0, .long 0])), (au, .inr (10, [.ref t1, .ref t2, .ref t3, .ref t4, .ref t5, .ref t6, .ref t7, .int 0, .int 0])), (an, .inr (6, [.ref n1, .ref n2, .ref n3, .ref n4, .ref n5, .int 0, .int 0])), (ak, .inr (8, [.ref ar, .int 105, .int 0, .int (-1), .int 0, .int 0, .int 0])), (ad, .inr (11, [.int (-1), .int 0, .int 0, .int 0, .int 0, .int 0])), (ou, .inl (cL, 1, .inr (.inl fo)))] s.heap.size = A at hD hG ⊢
  have hN := hG.1
  have hA : ∀ q : Nat, s.heap.size ≤ q → A q := fun q h => by rw [← hAe]; exact Or.inr h
  have hS : va_S A s.heap s.heap [] := va_S.rf
  have hP : va_P (dC, dI) vwCl [(xt, .inr (12, [.ref ah, .ref xe, .ref xf])), (ah, .inr (4, [.ref ac, .ref au, .ref ab, .ref an, .ref ak, .ref ad, .int 0, .int 0, .long 0])), (au, .inr (10, [.ref t1, .ref t2, .ref t3, .ref t4, .ref t5, .ref t6, .ref t7, .int 0, .int 0])), (an, .inr (6, [.ref n1, .ref n2, .ref n3, .ref n4, .ref n5, .int 0, .int 0])), (ak, .inr (8, [.ref ar, .int 105, .int 0, .int (-1), .int 0, .int 0, .int 0])), (ad, .inr (11, [.int (-1), .int 0, .int 0, .int 0, .int 0, .int 0])), (ou, .inl (cL, 1, .inr (.inl fo)))] s.heap := hP
  have hw0 : (Cond.classLink RL 63 "java/util/NoSuchElementException").before _ s = true := hts _ (List.mem_cons_of_mem _ (List.mem_append_left _ (List.mem_append_left _ (List.mem_append_left _ (List.mem_append_left _ (List.mem_append_left _ (List.mem_append_left _ (List.mem_append_left _ (List.mem_append_left _ (List.mem_append_left _ (List.mem_append_left _ (List.mem_append_left _ (List.mem_of_getElem? (i := 0) rfl)))))))))))))
  have hl := lv_entry ([.ref xt, .ref ou]) (n := 3) (Nat.le_of_ble_eq_true rfl)
  rw [lg_entry_eq]
  generalize (lg_sl ([.ref xt, .ref ou]) ++ List.replicate (3 - (lg_sl ([.ref xt, .ref ou])).length) Slot.unset).toArray = ls at hl ⊢
  have hl : lv_has ls 3 [(0, .ref xt), (1, .ref ou)] := hl
  refine lv_aload_n hx hb dL_toEvent_0 rfl (lv_at hl 1 rfl) ?_
  refine lv_iconst (v := 0) hx hb dL_toEvent_1 (by decide) ?_
  refine lv_aload_n hx hb dL_toEvent_2 rfl (lv_at hl 0 rfl) ?_
  have hPc := hP.sub (ws' := [(xt, .inr (12, [.ref ah, .ref xe, .ref xf])), (ah, .inr (4, [.ref ac, .ref au, .ref ab, .ref an, .ref ak, .ref ad, .int 0, .int 0, .long 0])), (au, .inr (10, [.ref t1, .ref t2, .ref t3, .ref t4, .ref t5, .ref t6, .ref t7, .int 0, .int 0])), (an, .inr (6, [.ref n1, .ref n2, .ref n3, .ref n4, .ref n5, .int 0, .int 0])), (ak, .inr (8, [.ref ar, .int 105, .int 0, .int (-1), .int 0, .int 0, .int 0])), (ad, .inr (11, [.int (-1), .int 0, .int 0, .int 0, .int 0, .int 0]))]) [0, 1, 2, 3, 4, 5] rfl
  have hDc := hD.sub (ws' := [(xt, .inr (12, [.ref ah, .ref xe, .ref xf])), (ah, .inr (4, [.ref ac, .ref au, .ref ab, .ref an, .ref ak, .ref ad, .int 0, .int 0, .long 0])), (au, .inr (10, [.ref t1, .ref t2, .ref t3, .ref t4, .ref t5, .ref t6, .ref t7, .int 0, .int 0])), (an, .inr (6, [.ref n1, .ref n2, .ref n3, .ref n4, .ref n5, .int 0, .int 0])), (ak, .inr (8, [.ref ar, .int 105, .int 0, .int (-1), .int 0, .int 0, .int 0])), (ad, .inr (11, [.int (-1), .int 0, .int 0, .int 0, .int 0, .int 0]))]) [0, 1, 2, 3, 4, 5] (by decide) rfl
  have hKc := hK.sub (tys' := [(cI, .int)]) [0] rfl
  have hFc := va_free (wc := [(xt, .inr (12, [.ref ah, .ref xe, .ref xf])), (ah, .inr (4, [.ref ac, .ref au, .ref ab, .ref an, .ref ak, .ref ad, .int 0, .int 0, .long 0])), (au, .inr (10, [.ref t1, .ref t2, .ref t3, .ref t4, .ref t5, .ref t6, .ref t7, .int 0, .int 0])), (an, .inr (6, [.ref n1, .ref n2, .ref n3, .ref n4, .ref n5, .int 0, .int 0])), (ak, .inr (8, [.ref ar, .int 105, .int 0, .int (-1), .int 0, .int 0, .int 0])), (ad, .inr (11, [.int (-1), .int 0, .int 0, .int 0, .int 0, .int 0]))]) hD hS hA [0, 1, 2, 3, 4, 5] rfl
  refine vx_calli (vx_runV (As := []) (rest := [.int 0, .ref ou]) ⟨hx, hb, hml, hown, hts⟩ (c_X8_toEvent l hl9 dC dI g xt xe xf ah ac au t1 t2 t3 t4 t5 t6 t7 ab an n1 n2 n3 n4 n5 ar ak ad cI s.heap.size) (cwV 0 hts gL_toEvent_X8_toEvent rfl rfl rfl (by decide +kernel) ⟨Nat.le_of_ble_eq_true rfl, Nat.le_of_ble_eq_true rfl⟩) ⟨wIn_blind, va_recv hK hP (ci := 12) (q0 := 0) rfl rfl, wIn_at hPc hKc hDc hG hS hFc⟩ rfl rfl hl.1 rfl (lv_room (Nat.le_of_ble_eq_true rfl)) dL_toEvent_3 ⟨Nat.le_of_ble_eq_true rfl, Nat.le_of_ble_eq_true rfl⟩) hS (fun q _ h => hFc q h) hFc (fun q _ h => hFc q h) (fun E9 ce9 q_2 u9 t H1 locs ht hvm hx9 hB9 hz1 hk1 hS hce hcv hcl => ?_) (fun r_1 u t H1 locs ht hvm hw hB hz1 hk1 hS => ?_)
  · obtain ⟨rfl, hs9⟩ := hB9
    refine vx_catch (E := "java/util/NoSuchElementException") (name := "java/util/NoSuchElementException") hown [] ⟨0, 8, 11, 63⟩ [] (htab.trans rfl) (fun z hz => nomatch hz) (by decide) (by decide) hw0 (nw_use hN _ (List.mem_of_getElem? (i := 56) rfl)) hce hcv hcl ?_
    obtain ⟨hP, hD⟩ := va_join (wr := [(ou, .inl (cL, 1, .inr (.inl fo)))]) (w1 := []) hP hD [0, 1, 2, 3, 4, 5] [6] rfl rfl (by decide) (by decide) hk1 hFc vaP0 vaD0
    generalize H1 = H at hP hS ⊢
    have hP : va_P (dC, dI) vwCl [(ou, .inl (cL, 1, .inr (.inl fo)))] H := hP
    have hD : va_D A [(ou, .inl (cL, 1, .inr (.inl fo)))] := hD
    refine W.widen (k := 1) (n := 6) (Nat.le_of_ble_eq_true rfl) (Nat.le_of_ble_eq_true rfl) ?_
    refine lv_astore_n (lv' := [(2, .ref q_2), (0, .ref xt), (1, .ref ou)]) hx hb dL_toEvent_11 rfl hl (by decide) rfl (fun ls hl => ?_)
    refine lv_iconst (v := 1) hx hb dL_toEvent_12 (by decide) ?_
    have hP9 := hP.sub (ws' := [(ou, .inl (cL, 1, .inr (.inl fo)))]) [0] rfl
    have hD9 := hD.sub (ws' := [(ou, .inl (cL, 1, .inr (.inl fo)))]) [0] (by decide) rfl
    have hK9 := hK.sub (tys' := [(cI, .int), (cL, .long)]) [0, 1] rfl
    refine vx_ret ?_
    exact W.iret (v := 1) hx hb hr (fun t ht hW => ⟨⟨1, (fo), rfl, hs9.symm, wOut_at ht hW hP9 hK9 hD9⟩, hS.F ht⟩) hS.2.2 dL_toEvent_13
  · exact hw.elim
set_option maxHeartbeats 4000000 in
set_option maxRecDepth 100000 in
theorem c_L_onTop (l : Launch) (hl9 : l.stackTraces = false) (dC : Nat → ClassId) (dI : Nat → Nat → Nat) (g : Nat × Nat × Nat) (xt : Nat) (xe : Nat) (xf : Nat) (ah : Nat) (ac : Nat) (au : Nat) (ab : Nat) (an : Nat) (ar : Nat) (r1 : Nat) (r2 : Nat) (ak : Nat) (ad : Nat) (cI : ClassId) (fo : Nat → Int64) (ou : Nat) (cL : ClassId) (sz : Nat) : vx_Met l yL_onTop wsL_onTop ({ frames := 7, cells := 1, slots := 6, locals := 121 } : Room) (va_Pc [.ref xt, .ref ou] (wIn dC dI g [(xt, .inr (12, [.ref ah, .ref xe, .ref xf])), (ah, .inr (4, [.ref ac, .ref au, .ref ab, .ref an, .ref ak, .ref ad, .int 0, .int 0, .long 0])), (ak, .inr (8, [.ref ar, .int 105, .int 0, .int (-1), .int 0, .int 0, .int 0])), (ar, .inr (9, [.ref r1, .ref r2, .int 0])), (ou, .inl (cL, 1, .inr (.inl fo)))] [(cI, .int), (cL, .long)] sz)) (va_Qi (fun (r : Int32) (u : Nat → Int64) => r = sp_X8_onTop) (fun (u : Nat → Int64) (t : State) => wOut dC dI [(ou, .inl (cL, 1, .inr (.inl u)))] [(cI, .int), (cL, .long)] (va_A [(xt, .inr (12, [.ref ah, .ref xe, .ref xf])), (ah, .inr (4, [.ref ac, .ref au, .ref ab, .ref an, .ref ak, .ref ad, .int 0, .int 0, .long 0])), (ak, .inr (8, [.ref ar, .int 105, .int 0, .int (-1), .int 0, .int 0, .int 0])), (ar, .inr (9, [.ref r1, .ref r2, .int 0])), (ou, .inl (cL, 1, .inr (.inl fo)))] sz) t) (va_A [(xt, .inr (12, [.ref ah, .ref xe, .ref xf])), (ah, .inr (4, [.ref ac, .ref au, .ref ab, .ref an, .ref ak, .ref ad, .int 0, .int 0, .long 0])), (ak, .inr (8, [.ref ar, .int 105, .int 0, .int (-1), .int 0, .int 0, .int 0])), (ar, .inr (9, [.ref r1, .ref r2, .int 0])), (ou, .inl (cL, 1, .inr (.inl fo)))] sz)) (vx_X (fun (_ : Unit) => False) (fun (_ : String) (_ : Unit) (_ : State) => True) (va_A [(xt, .inr (12, [.ref ah, .ref xe, .ref xf])), (ah, .inr (4, [.ref ac, .ref au, .ref ab, .ref an, .ref ak, .ref ad, .int 0, .int 0, .long 0])), (ak, .inr (8, [.ref ar, .int 105, .int 0, .int (-1), .int 0, .int 0, .int 0])), (ar, .inr (9, [.ref r1, .ref r2, .int 0])), (ou, .inl (cL, 1, .inr (.inl fo)))] sz)) 1 6 (va_A [(xt, .inr (12, [.ref ah, .ref xe, .ref xf])), (ah, .inr (4, [.ref ac, .ref au, .ref ab, .ref an, .ref ak, .ref ad, .int 0, .int 0, .long 0])), (ak, .inr (8, [.ref ar, .int 105, .int 0, .int (-1), .int 0, .int 0, .int 0])), (ar, .inr (9, [.ref r1, .ref r2, .int 0])), (ou, .inl (cL, 1, .inr (.inl fo)))] sz) := by
  refine vx_ofWH (cc := cL_onTop) (maxL := 3) (ret := (some .int)) (hh := [(0, 8, 11, 63)]) (by decide) rfl ?_
  intro p e s m args below meth c s₁ B hml hv
  obtain ⟨rfl, hsz, hP, hK, hD0, hG⟩ := hv
  have hx := B.exec
  have hb := B.bytes
  have hr := B.returns
  have hts := atoms_spec (ws := wsL_onTop) B.pre
  have hown : s.vm.findClass RL = some m.cls := findClass_of_methodNamed B.named
  have hlocks := B.notSynchronized
  have htab : c.exceptionTable.toList = tableOf [(0, 8, 11, 63)] := vx_table (x := yL_onTop) B (hts _ List.mem_cons_self)
  subst hsz
  have hD := hD0.self (sz := s.heap.size)
  generalize hAe : va_A [(xt, .inr (12, [.ref ah, .ref xe, .ref xf])), (ah, .inr (4, [.ref ac, .ref au, .ref ab, .ref an, .ref ak, .ref ad, .int 0, .int 0, .long 0])), (ak, .inr (8, [.ref ar, .int 105, .int 0, .int (-1), .int 0, .int 0, .int 0])), (ar, .inr (9, [.ref r1, .ref r2, .int 0])), (ou, .inl (cL, 1, .inr (.inl fo)))] s.heap.size = A at hD hG ⊢
  have hN := hG.1
  have hA : ∀ q : Nat, s.heap.size ≤ q → A q := fun q h => by rw [← hAe]; exact Or.inr h
  have hS : va_S A s.heap s.heap [] := va_S.rf
  have hP : va_P (dC, dI) vwCl [(xt, .inr (12, [.ref ah, .ref xe, .ref xf])), (ah, .inr (4, [.ref ac, .ref au, .ref ab, .ref an, .ref ak, .ref ad, .int 0, .int 0, .long 0])), (ak, .inr (8, [.ref ar, .int 105, .int 0, .int (-1), .int 0, .int 0, .int 0])), (ar, .inr (9, [.ref r1, .ref r2, .int 0])), (ou, .inl (cL, 1, .inr (.inl fo)))] s.heap := hP
  have hw0 : (Cond.classLink RL 63 "java/util/NoSuchElementException").before _ s = true := hts _ (List.mem_cons_of_mem _ (List.mem_append_left _ (List.mem_append_left _ (List.mem_append_left _ (List.mem_append_left _ (List.mem_append_left _ (List.mem_append_left _ (List.mem_of_getElem? (i := 0) rfl))))))))
  have hl := lv_entry ([.ref xt, .ref ou]) (n := 3) (Nat.le_of_ble_eq_true rfl)
  rw [lg_entry_eq]
  generalize (lg_sl ([.ref xt, .ref ou]) ++ List.replicate (3 - (lg_sl ([.ref xt, .ref ou])).length) Slot.unset).toArray = ls at hl ⊢
  have hl : lv_has ls 3 [(0, .ref xt), (1, .ref ou)] := hl
  refine lv_aload_n hx hb dL_onTop_0 rfl (lv_at hl 1 rfl) ?_
  refine lv_iconst (v := 0) hx hb dL_onTop_1 (by decide) ?_
  refine lv_aload_n hx hb dL_onTop_2 rfl (lv_at hl 0 rfl) ?_
  have hPc := hP.sub (ws' := [(xt, .inr (12, [.ref ah, .ref xe, .ref xf])), (ah, .inr (4, [.ref ac, .ref au, .ref ab, .ref an, .ref ak, .ref ad, .int 0, .int 0, .long 0])), (ak, .inr (8, [.ref ar, .int 105, .int 0, .int (-1), .int 0, .int 0, .int 0])), (ar, .inr (9, [.ref r1, .ref r2, .int 0]))]) [0, 1, 2, 3] rfl
  have hDc := hD.sub (ws' := [(xt, .inr (12, [.ref ah, .ref xe, .ref xf])), (ah, .inr (4, [.ref ac, .ref au, .ref ab, .ref an, .ref ak, .ref ad, .int 0, .int 0, .long 0])), (ak, .inr (8, [.ref ar, .int 105, .int 0, .int (-1), .int 0, .int 0, .int 0])), (ar, .inr (9, [.ref r1, .ref r2, .int 0]))]) [0, 1, 2, 3] (by decide) rfl
  have hKc := hK.sub (tys' := [(cI, .int)]) [0] rfl
  have hFc := va_free (wc := [(xt, .inr (12, [.ref ah, .ref xe, .ref xf])), (ah, .inr (4, [.ref ac, .ref au, .ref ab, .ref an, .ref ak, .ref ad, .int 0, .int 0, .long 0])), (ak, .inr (8, [.ref ar, .int 105, .int 0, .int (-1), .int 0, .int 0, .int 0])), (ar, .inr (9, [.ref r1, .ref r2, .int 0]))]) hD hS hA [0, 1, 2, 3] rfl
  refine vx_calli (vx_runV (As := []) (rest := [.int 0, .ref ou]) ⟨hx, hb, hml, hown, hts⟩ (c_X8_onTop l hl9 dC dI g xt xe xf ah ac au ab an ar r1 r2 ak ad cI s.heap.size) (cwV 0 hts gL_onTop_X8_onTop rfl rfl rfl (by decide +kernel) ⟨Nat.le_of_ble_eq_true rfl, Nat.le_of_ble_eq_true rfl⟩) ⟨wIn_blind, va_recv hK hP (ci := 12) (q0 := 0) rfl rfl, wIn_at hPc hKc hDc hG hS hFc⟩ rfl rfl hl.1 rfl (lv_room (Nat.le_of_ble_eq_true rfl)) dL_onTop_3 ⟨Nat.le_of_ble_eq_true rfl, Nat.le_of_ble_eq_true rfl⟩) hS (fun q _ h => hFc q h) hFc (fun q _ h => hFc q h) (fun E9 ce9 q_2 u9 t H1 locs ht hvm hx9 hB9 hz1 hk1 hS hce hcv hcl => ?_) (fun r_1 u t H1 locs ht hvm hw hB hz1 hk1 hS => ?_)
  · obtain ⟨rfl, hs9⟩ := hB9
    refine vx_catch (E := "java/util/NoSuchElementException") (name := "java/util/NoSuchElementException") hown [] ⟨0, 8, 11, 63⟩ [] (htab.trans rfl) (fun z hz => nomatch hz) (by decide) (by decide) hw0 (nw_use hN _ (List.mem_of_getElem? (i := 56) rfl)) hce hcv hcl ?_
    obtain ⟨hP, hD⟩ := va_join (wr := [(ou, .inl (cL, 1, .inr (.inl fo)))]) (w1 := []) hP hD [0, 1, 2, 3] [4] rfl rfl (by decide) (by decide) hk1 hFc vaP0 vaD0
    generalize H1 = H at hP hS ⊢
    have hP : va_P (dC, dI) vwCl [(ou, .inl (cL, 1, .inr (.inl fo)))] H := hP
    have hD : va_D A [(ou, .inl (cL, 1, .inr (.inl fo)))] := hD
    refine W.widen (k := 1) (n := 6) (Nat.le_of_ble_eq_true rfl) (Nat.le_of_ble_eq_true rfl) ?_
    refine lv_astore_n (lv' := [(2, .ref q_2), (0, .ref xt), (1, .ref ou)]) hx hb dL_onTop_11 rfl hl (by decide) rfl (fun ls hl => ?_)
    refine lv_iconst (v := 1) hx hb dL_onTop_12 (by decide) ?_
    have hP9 := hP.sub (ws' := [(ou, .inl (cL, 1, .inr (.inl fo)))]) [0] rfl
    have hD9 := hD.sub (ws' := [(ou, .inl (cL, 1, .inr (.inl fo)))]) [0] (by decide) rfl
    have hK9 := hK.sub (tys' := [(cI, .int), (cL, .long)]) [0, 1] rfl
    refine vx_ret ?_
    exact W.iret (v := 1) hx hb hr (fun t ht hW => ⟨⟨1, (fo), rfl, hs9.symm, wOut_at ht hW hP9 hK9 hD9⟩, hS.F ht⟩) hS.2.2 dL_onTop_13
  · exact hw.elim
set_option maxHeartbeats 4000000 in
set_option maxRecDepth 100000 in
theorem c_L_lastReset (l : Launch) (hl9 : l.stackTraces = false) (dC : Nat → ClassId) (dI : Nat → Nat → Nat) (g : Nat × Nat × Nat) (xt : Nat) (xe : Nat) (xf : Nat) (ah : Nat) (ac : Nat) (au : Nat) (ab : Nat) (an : Nat) (ak : Nat) (ad : Nat) (cI : ClassId) (fo : Nat → Int64) (ou : Nat) (cL : ClassId) (sz : Nat) : vx_Met l yL_lastReset wsL_lastReset ({ frames := 7, cells := 1, slots := 6, locals := 120 } : Room) (va_Pc [.ref xt, .ref ou] (wIn dC dI g [(xt, .inr (12, [.ref ah, .ref xe, .ref xf])), (ah, .inr (4, [.ref ac, .ref au, .ref ab, .ref an, .ref ak, .ref ad, .int 0, .int 0, .long 0])), (ad, .inr (11, [.int (-1), .int 0, .int 0, .int 0, .int 0, .int 0])), (ou, .inl (cL, 1, .inr (.inl fo)))] [(cI, .int), (cL, .long)] sz)) (va_Qi (fun (r : Int32) (u : Nat → Int64) => r = sp_X8_lastReset) (fun (u : Nat → Int64) (t : State) => wOut dC dI [(ou, .inl (cL, 1, .inr (.inl u)))] [(cI, .int), (cL, .long)] (va_A [(xt, .inr (12, [.ref ah, .ref xe, .ref xf])), (ah, .inr (4, [.ref ac, .ref au, .ref ab, .ref an, .ref ak, .ref ad, .int 0, .int 0, .long 0])), (ad, .inr (11, [.int (-1), .int 0, .int 0, .int 0, .int 0, .int 0])), (ou, .inl (cL, 1, .inr (.inl fo)))] sz) t) (va_A [(xt, .inr (12, [.ref ah, .ref xe, .ref xf])), (ah, .inr (4, [.ref ac, .ref au, .ref ab, .ref an, .ref ak, .ref ad, .int 0, .int 0, .long 0])), (ad, .inr (11, [.int (-1), .int 0, .int 0, .int 0, .int 0, .int 0])), (ou, .inl (cL, 1, .inr (.inl fo)))] sz)) (vx_X (fun (_ : Unit) => False) (fun (_ : String) (_ : Unit) (_ : State) => True) (va_A [(xt, .inr (12, [.ref ah, .ref xe, .ref xf])), (ah, .inr (4, [.ref ac, .ref au, .ref ab, .ref an, .ref ak, .ref ad, .int 0, .int 0, .long 0])), (ad, .inr (11, [.int (-1), .int 0, .int 0, .int 0, .int 0, .int 0])), (ou, .inl (cL, 1, .inr (.inl fo)))] sz)) 1 6 (va_A [(xt, .inr (12, [.ref ah, .ref xe, .ref xf])), (ah, .inr (4, [.ref ac, .ref au, .ref ab, .ref an, .ref ak, .ref ad, .int 0, .int 0, .long 0])), (ad, .inr (11, [.int (-1), .int 0, .int 0, .int 0, .int 0, .int 0])), (ou, .inl (cL, 1, .inr (.inl fo)))] sz) := by
  refine vx_ofWH (cc := cL_lastReset) (maxL := 3) (ret := (some .int)) (hh := [(0, 8, 11, 63)]) (by decide) rfl ?_
  intro p e s m args below meth c s₁ B hml hv
  obtain ⟨rfl, hsz, hP, hK, hD0, hG⟩ := hv
  have hx := B.exec
  have hb := B.bytes
  have hr := B.returns
  have hts := atoms_spec (ws := wsL_lastReset) B.pre
  have hown : s.vm.findClass RL = some m.cls := findClass_of_methodNamed B.named
  have hlocks := B.notSynchronized
  have htab : c.exceptionTable.toList = tableOf [(0, 8, 11, 63)] := vx_table (x := yL_lastReset) B (hts _ List.mem_cons_self)
  subst hsz
  have hD := hD0.self (sz := s.heap.size)
  generalize hAe : va_A [(xt, .inr (12, [.ref ah, .ref xe, .ref xf])), (ah, .inr (4, [.ref ac, .ref au, .ref ab, .ref an, .ref ak, .ref ad, .int 0, .int 0, .long 0])), (ad, .inr (11, [.int (-1), .int 0, .int 0, .int 0, .int 0, .int 0])), (ou, .inl (cL, 1, .inr (.inl fo)))] s.heap.size = A at hD hG ⊢
  have hN := hG.1
  have hA : ∀ q : Nat, s.heap.size ≤ q → A q := fun q h => by rw [← hAe]; exact Or.inr h
  have hS : va_S A s.heap s.heap [] := va_S.rf
  have hP : va_P (dC, dI) vwCl [(xt, .inr (12, [.ref ah, .ref xe, .ref xf])), (ah, .inr (4, [.ref ac, .ref au, .ref ab, .ref an, .ref ak, .ref ad, .int 0, .int 0, .long 0])), (ad, .inr (11, [.int (-1), .int 0, .int 0, .int 0, .int 0, .int 0])), (ou, .inl (cL, 1, .inr (.inl fo)))] s.heap := hP
  have hw0 : (Cond.classLink RL 63 "java/util/NoSuchElementException").before _ s = true := hts _ (List.mem_cons_of_mem _ (List.mem_append_left _ (List.mem_append_left _ (List.mem_append_left _ (List.mem_append_left _ (List.mem_append_left _ (List.mem_of_getElem? (i := 0) rfl)))))))
  have hl := lv_entry ([.ref xt, .ref ou]) (n := 3) (Nat.le_of_ble_eq_true rfl)
  rw [lg_entry_eq]
  generalize (lg_sl ([.ref xt, .ref ou]) ++ List.replicate (3 - (lg_sl ([.ref xt, .ref ou])).length) Slot.unset).toArray = ls at hl ⊢
  have hl : lv_has ls 3 [(0, .ref xt), (1, .ref ou)] := hl
  refine lv_aload_n hx hb dL_lastReset_0 rfl (lv_at hl 1 rfl) ?_
  refine lv_iconst (v := 0) hx hb dL_lastReset_1 (by decide) ?_
  refine lv_aload_n hx hb dL_lastReset_2 rfl (lv_at hl 0 rfl) ?_
  have hPc := hP.sub (ws' := [(xt, .inr (12, [.ref ah, .ref xe, .ref xf])), (ah, .inr (4, [.ref ac, .ref au, .ref ab, .ref an, .ref ak, .ref ad, .int 0, .int 0, .long 0])), (ad, .inr (11, [.int (-1), .int 0, .int 0, .int 0, .int 0, .int 0]))]) [0, 1, 2] rfl
  have hDc := hD.sub (ws' := [(xt, .inr (12, [.ref ah, .ref xe, .ref xf])), (ah, .inr (4, [.ref ac, .ref au, .ref ab, .ref an, .ref ak, .ref ad, .int 0, .int 0, .long 0])), (ad, .inr (11, [.int (-1), .int 0, .int 0, .int 0, .int 0, .int 0]))]) [0, 1, 2] (by decide) rfl
  have hKc := hK.sub (tys' := [(cI, .int)]) [0] rfl
  have hFc := va_free (wc := [(xt, .inr (12, [.ref ah, .ref xe, .ref xf])), (ah, .inr (4, [.ref ac, .ref au, .ref ab, .ref an, .ref ak, .ref ad, .int 0, .int 0, .long 0])), (ad, .inr (11, [.int (-1), .int 0, .int 0, .int 0, .int 0, .int 0]))]) hD hS hA [0, 1, 2] rfl
  refine vx_calli (vx_runV (As := []) (rest := [.int 0, .ref ou]) ⟨hx, hb, hml, hown, hts⟩ (c_X8_lastReset l hl9 dC dI g xt xe xf ah ac au ab an ak ad cI s.heap.size) (cwV 0 hts gL_lastReset_X8_lastReset rfl rfl rfl (by decide +kernel) ⟨Nat.le_of_ble_eq_true rfl, Nat.le_of_ble_eq_true rfl⟩) ⟨wIn_blind, va_recv hK hP (ci := 12) (q0 := 0) rfl rfl, wIn_at hPc hKc hDc hG hS hFc⟩ rfl rfl hl.1 rfl (lv_room (Nat.le_of_ble_eq_true rfl)) dL_lastReset_3 ⟨Nat.le_of_ble_eq_true rfl, Nat.le_of_ble_eq_true rfl⟩) hS (fun q _ h => hFc q h) hFc (fun q _ h => hFc q h) (fun E9 ce9 q_2 u9 t H1 locs ht hvm hx9 hB9 hz1 hk1 hS hce hcv hcl => ?_) (fun r_1 u t H1 locs ht hvm hw hB hz1 hk1 hS => ?_)
  · obtain ⟨rfl, hs9⟩ := hB9
    refine vx_catch (E := "java/util/NoSuchElementException") (name := "java/util/NoSuchElementException") hown [] ⟨0, 8, 11, 63⟩ [] (htab.trans rfl) (fun z hz => nomatch hz) (by decide) (by decide) hw0 (nw_use hN _ (List.mem_of_getElem? (i := 56) rfl)) hce hcv hcl ?_
    obtain ⟨hP, hD⟩ := va_join (wr := [(ou, .inl (cL, 1, .inr (.inl fo)))]) (w1 := []) hP hD [0, 1, 2] [3] rfl rfl (by decide) (by decide) hk1 hFc vaP0 vaD0
    generalize H1 = H at hP hS ⊢
    have hP : va_P (dC, dI) vwCl [(ou, .inl (cL, 1, .inr (.inl fo)))] H := hP
    have hD : va_D A [(ou, .inl (cL, 1, .inr (.inl fo)))] := hD
    refine W.widen (k := 1) (n := 6) (Nat.le_of_ble_eq_true rfl) (Nat.le_of_ble_eq_true rfl) ?_
    refine lv_astore_n (lv' := [(2, .ref q_2), (0, .ref xt), (1, .ref ou)]) hx hb dL_lastReset_11 rfl hl (by decide) rfl (fun ls hl => ?_)
    refine lv_iconst (v := 1) hx hb dL_lastReset_12 (by decide) ?_
    have hP9 := hP.sub (ws' := [(ou, .inl (cL, 1, .inr (.inl fo)))]) [0] rfl
    have hD9 := hD.sub (ws' := [(ou, .inl (cL, 1, .inr (.inl fo)))]) [0] (by decide) rfl
    have hK9 := hK.sub (tys' := [(cI, .int), (cL, .long)]) [0, 1] rfl
    refine vx_ret ?_
    exact W.iret (v := 1) hx hb hr (fun t ht hW => ⟨⟨1, (fo), rfl, hs9.symm, wOut_at ht hW hP9 hK9 hD9⟩, hS.F ht⟩) hS.2.2 dL_lastReset_13
  · exact hw.elim
set_option maxHeartbeats 4000000 in
set_option maxRecDepth 100000 in
theorem c_L_asleepShare (l : Launch) (hl9 : l.stackTraces = false) (dC : Nat → ClassId) (dI : Nat → Nat → Nat) (g : Nat × Nat × Nat) (xt : Nat) (xe : Nat) (xf : Nat) (ah : Nat) (ac : Nat) (au : Nat) (ab : Nat) (an : Nat) (ak : Nat) (ad : Nat) (cI : ClassId) (fo : Nat → UInt64) (ou : Nat) (cD : ClassId) (sz : Nat) : vx_Met l yL_asleepShare wsL_asleepShare ({ frames := 7, cells := 1, slots := 6, locals := 120 } : Room) (va_Pc [.ref xt, .ref ou] (wIn dC dI g [(xt, .inr (12, [.ref ah, .ref xe, .ref xf])), (ah, .inr (4, [.ref ac, .ref au, .ref ab, .ref an, .ref ak, .ref ad, .int 0, .int 0, .long 0])), (ou, .inl (cD, 1, .inr (.inr (.inr (.inl fo)))))] [(cI, .int), (cD, .double)] sz)) (va_Qi (fun (r : Int32) (u : Nat → UInt64) => r = sp_X8_asleepShare) (fun (u : Nat → UInt64) (t : State) => wOut dC dI [(ou, .inl (cD, 1, .inr (.inr (.inr (.inl u)))))] [(cI, .int), (cD, .double)] (va_A [(xt, .inr (12, [.ref ah, .ref xe, .ref xf])), (ah, .inr (4, [.ref ac, .ref au, .ref ab, .ref an, .ref ak, .ref ad, .int 0, .int 0, .long 0])), (ou, .inl (cD, 1, .inr (.inr (.inr (.inl fo)))))] sz) t) (va_A [(xt, .inr (12, [.ref ah, .ref xe, .ref xf])), (ah, .inr (4, [.ref ac, .ref au, .ref ab, .ref an, .ref ak, .ref ad, .int 0, .int 0, .long 0])), (ou, .inl (cD, 1, .inr (.inr (.inr (.inl fo)))))] sz)) (vx_X (fun (_ : Unit) => False) (fun (_ : String) (_ : Unit) (_ : State) => True) (va_A [(xt, .inr (12, [.ref ah, .ref xe, .ref xf])), (ah, .inr (4, [.ref ac, .ref au, .ref ab, .ref an, .ref ak, .ref ad, .int 0, .int 0, .long 0])), (ou, .inl (cD, 1, .inr (.inr (.inr (.inl fo)))))] sz)) 1 6 (va_A [(xt, .inr (12, [.ref ah, .ref xe, .ref xf])), (ah, .inr (4, [.ref ac, .ref au, .ref ab, .ref an, .ref ak, .ref ad, .int 0, .int 0, .long 0])), (ou, .inl (cD, 1, .inr (.inr (.inr (.inl fo)))))] sz) := by
  refine vx_ofWH (cc := cL_asleepShare) (maxL := 3) (ret := (some .int)) (hh := [(0, 8, 11, 96)]) (by decide) rfl ?_
  intro p e s m args below meth c s₁ B hml hv
  obtain ⟨rfl, hsz, hP, hK, hD0, hG⟩ := hv
  have hx := B.exec
  have hb := B.bytes
  have hr := B.returns
  have hts := atoms_spec (ws := wsL_asleepShare) B.pre
  have hown : s.vm.findClass RL = some m.cls := findClass_of_methodNamed B.named
  have hlocks := B.notSynchronized
  have htab : c.exceptionTable.toList = tableOf [(0, 8, 11, 96)] := vx_table (x := yL_asleepShare) B (hts _ List.mem_cons_self)
  subst hsz
  have hD := hD0.self (sz := s.heap.size)
  generalize hAe : va_A [(xt, .inr (12, [.ref ah, .ref xe, .ref xf])), (ah, .inr (4, [.ref ac, .ref au, .ref ab, .ref an, .ref ak, .ref ad, .int 0, .int 0, .long 0])), (ou, .inl (cD, 1, .inr (.inr (.inr (.inl fo)))))] s.heap.size = A at hD hG ⊢
  have hN := hG.1
  have hA : ∀ q : Nat, s.heap.size ≤ q → A q := fun q h => by rw [← hAe]; exact Or.inr h
  have hS : va_S A s.heap s.heap [] := va_S.rf
  have hP : va_P (dC, dI) vwCl [(xt, .inr (12, [.ref ah, .ref xe, .ref xf])), (ah, .inr (4, [.ref ac, .ref au, .ref ab, .ref an, .ref ak, .ref ad, .int 0, .int 0, .long 0])), (ou, .inl (cD, 1, .inr (.inr (.inr (.inl fo)))))] s.heap := hP
  have hw0 : (Cond.classLink RL 96 "java/lang/ArithmeticException").before _ s = true := hts _ (List.mem_cons_of_mem _ (List.mem_append_left _ (List.mem_append_left _ (List.mem_append_left _ (List.mem_append_left _ (List.mem_of_getElem? (i := 0) rfl))))))
  have hl := lv_entry ([.ref xt, .ref ou]) (n := 3) (Nat.le_of_ble_eq_true rfl)
  rw [lg_entry_eq]
  generalize (lg_sl ([.ref xt, .ref ou]) ++ List.replicate (3 - (lg_sl ([.ref xt, .ref ou])).length) Slot.unset).toArray = ls at hl ⊢
  have hl : lv_has ls 3 [(0, .ref xt), (1, .ref ou)] := hl
  refine lv_aload_n hx hb dL_asleepShare_0 rfl (lv_at hl 1 rfl) ?_
  refine lv_iconst (v := 0) hx hb dL_asleepShare_1 (by decide) ?_
  refine lv_aload_n hx hb dL_asleepShare_2 rfl (lv_at hl 0 rfl) ?_
  have hPc := hP.sub (ws' := [(xt, .inr (12, [.ref ah, .ref xe, .ref xf])), (ah, .inr (4, [.ref ac, .ref au, .ref ab, .ref an, .ref ak, .ref ad, .int 0, .int 0, .long 0]))]) [0, 1] rfl
  have hDc := hD.sub (ws' := [(xt, .inr (12, [.ref ah, .ref xe, .ref xf])), (ah, .inr (4, [.ref ac, .ref au, .ref ab, .ref an, .ref ak, .ref ad, .int 0, .int 0, .long 0]))]) [0, 1] (by decide) rfl
  have hKc := hK.sub (tys' := [(cI, .int)]) [0] rfl
  have hFc := va_free (wc := [(xt, .inr (12, [.ref ah, .ref xe, .ref xf])), (ah, .inr (4, [.ref ac, .ref au, .ref ab, .ref an, .ref ak, .ref ad, .int 0, .int 0, .long 0]))]) hD hS hA [0, 1] rfl
  refine vx_calli (vx_runV (As := []) (rest := [.int 0, .ref ou]) ⟨hx, hb, hml, hown, hts⟩ (c_X8_asleepShare l hl9 dC dI g xt xe xf ah ac au ab an ak ad cI s.heap.size) (cwV 0 hts gL_asleepShare_X8_asleepShare rfl rfl rfl (by decide +kernel) ⟨Nat.le_of_ble_eq_true rfl, Nat.le_of_ble_eq_true rfl⟩) ⟨wIn_blind, va_recv hK hP (ci := 12) (q0 := 0) rfl rfl, wIn_at hPc hKc hDc hG hS hFc⟩ rfl rfl hl.1 rfl (lv_room (Nat.le_of_ble_eq_true rfl)) dL_asleepShare_3 ⟨Nat.le_of_ble_eq_true rfl, Nat.le_of_ble_eq_true rfl⟩) hS (fun q _ h => hFc q h) hFc (fun q _ h => hFc q h) (fun E9 ce9 q_2 u9 t H1 locs ht hvm hx9 hB9 hz1 hk1 hS hce hcv hcl => ?_) (fun r_1 u t H1 locs ht hvm hw hB hz1 hk1 hS => ?_)
  · obtain ⟨rfl, hs9⟩ := hB9
    refine vx_catch (E := "java/lang/ArithmeticException") (name := "java/lang/ArithmeticException") hown [] ⟨0, 8, 11, 96⟩ [] (htab.trans rfl) (fun z hz => nomatch hz) (by decide) (by decide) hw0 (nw_use hN _ (List.mem_of_getElem? (i := 53) rfl)) hce hcv hcl ?_
    obtain ⟨hP, hD⟩ := va_join (wr := [(ou, .inl (cD, 1, .inr (.inr (.inr (.inl fo)))))]) (w1 := []) hP hD [0, 1] [2] rfl rfl (by decide) (by decide) hk1 hFc vaP0 vaD0
    generalize H1 = H at hP hS ⊢
    have hP : va_P (dC, dI) vwCl [(ou, .inl (cD, 1, .inr (.inr (.inr (.inl fo)))))] H := hP
    have hD : va_D A [(ou, .inl (cD, 1, .inr (.inr (.inr (.inl fo)))))] := hD
    refine W.widen (k := 1) (n := 6) (Nat.le_of_ble_eq_true rfl) (Nat.le_of_ble_eq_true rfl) ?_
    refine lv_astore_n (lv' := [(2, .ref q_2), (0, .ref xt), (1, .ref ou)]) hx hb dL_asleepShare_11 rfl hl (by decide) rfl (fun ls hl => ?_)
    refine lv_iconst (v := 1) hx hb dL_asleepShare_12 (by decide) ?_
    have hP9 := hP.sub (ws' := [(ou, .inl (cD, 1, .inr (.inr (.inr (.inl fo)))))]) [0] rfl
    have hD9 := hD.sub (ws' := [(ou, .inl (cD, 1, .inr (.inr (.inr (.inl fo)))))]) [0] (by decide) rfl
    have hK9 := hK.sub (tys' := [(cI, .int), (cD, .double)]) [0, 1] rfl
    refine vx_ret ?_
    exact W.iret (v := 1) hx hb hr (fun t ht hW => ⟨⟨1, (fo), rfl, hs9.symm, wOut_at ht hW hP9 hK9 hD9⟩, hS.F ht⟩) hS.2.2 dL_asleepShare_13
  · exact hw.elim
set_option maxHeartbeats 4000000 in
set_option maxRecDepth 100000 in
theorem c_L_meanEnergy (l : Launch) (hl9 : l.stackTraces = false) (dC : Nat → ClassId) (dI : Nat → Nat → Nat) (g : Nat × Nat × Nat) (xt : Nat) (xe : Nat) (xf : Nat) (ah : Nat) (ac : Nat) (au : Nat) (ab : Nat) (an : Nat) (ak : Nat) (ad : Nat) (cI : ClassId) (fo : Nat → UInt64) (ou : Nat) (cD : ClassId) (sz : Nat) : vx_Met l yL_meanEnergy wsL_meanEnergy ({ frames := 7, cells := 1, slots := 6, locals := 120 } : Room) (va_Pc [.ref xt, .ref ou] (wIn dC dI g [(xt, .inr (12, [.ref ah, .ref xe, .ref xf])), (ah, .inr (4, [.ref ac, .ref au, .ref ab, .ref an, .ref ak, .ref ad, .int 0, .int 0, .long 0])), (ou, .inl (cD, 1, .inr (.inr (.inr (.inl fo)))))] [(cI, .int), (cD, .double)] sz)) (va_Qi (fun (r : Int32) (u : Nat → UInt64) => r = sp_X8_meanEnergy) (fun (u : Nat → UInt64) (t : State) => wOut dC dI [(ou, .inl (cD, 1, .inr (.inr (.inr (.inl u)))))] [(cI, .int), (cD, .double)] (va_A [(xt, .inr (12, [.ref ah, .ref xe, .ref xf])), (ah, .inr (4, [.ref ac, .ref au, .ref ab, .ref an, .ref ak, .ref ad, .int 0, .int 0, .long 0])), (ou, .inl (cD, 1, .inr (.inr (.inr (.inl fo)))))] sz) t) (va_A [(xt, .inr (12, [.ref ah, .ref xe, .ref xf])), (ah, .inr (4, [.ref ac, .ref au, .ref ab, .ref an, .ref ak, .ref ad, .int 0, .int 0, .long 0])), (ou, .inl (cD, 1, .inr (.inr (.inr (.inl fo)))))] sz)) (vx_X (fun (_ : Unit) => False) (fun (_ : String) (_ : Unit) (_ : State) => True) (va_A [(xt, .inr (12, [.ref ah, .ref xe, .ref xf])), (ah, .inr (4, [.ref ac, .ref au, .ref ab, .ref an, .ref ak, .ref ad, .int 0, .int 0, .long 0])), (ou, .inl (cD, 1, .inr (.inr (.inr (.inl fo)))))] sz)) 1 6 (va_A [(xt, .inr (12, [.ref ah, .ref xe, .ref xf])), (ah, .inr (4, [.ref ac, .ref au, .ref ab, .ref an, .ref ak, .ref ad, .int 0, .int 0, .long 0])), (ou, .inl (cD, 1, .inr (.inr (.inr (.inl fo)))))] sz) := by
  refine vx_ofWH (cc := cL_meanEnergy) (maxL := 3) (ret := (some .int)) (hh := [(0, 7, 10, 96)]) (by decide) rfl ?_
  intro p e s m args below meth c s₁ B hml hv
  obtain ⟨rfl, hsz, hP, hK, hD0, hG⟩ := hv
  have hx := B.exec
  have hb := B.bytes
  have hr := B.returns
  have hts := atoms_spec (ws := wsL_meanEnergy) B.pre
  have hown : s.vm.findClass RL = some m.cls := findClass_of_methodNamed B.named
  have hlocks := B.notSynchronized
  have htab : c.exceptionTable.toList = tableOf [(0, 7, 10, 96)] := vx_table (x := yL_meanEnergy) B (hts _ List.mem_cons_self)
  subst hsz
  have hD := hD0.self (sz := s.heap.size)
  generalize hAe : va_A [(xt, .inr (12, [.ref ah, .ref xe, .ref xf])), (ah, .inr (4, [.ref ac, .ref au, .ref ab, .ref an, .ref ak, .ref ad, .int 0, .int 0, .long 0])), (ou, .inl (cD, 1, .inr (.inr (.inr (.inl fo)))))] s.heap.size = A at hD hG ⊢
  have hN := hG.1
  have hA : ∀ q : Nat, s.heap.size ≤ q → A q := fun q h => by rw [← hAe]; exact Or.inr h
  have hS : va_S A s.heap s.heap [] := va_S.rf
  have hP : va_P (dC, dI) vwCl [(xt, .inr (12, [.ref ah, .ref xe, .ref xf])), (ah, .inr (4, [.ref ac, .ref au, .ref ab, .ref an, .ref ak, .ref ad, .int 0, .int 0, .long 0])), (ou, .inl (cD, 1, .inr (.inr (.inr (.inl fo)))))] s.heap := hP
  have hw0 : (Cond.classLink RL 96 "java/lang/ArithmeticException").before _ s = true := hts _ (List.mem_cons_of_mem _ (List.mem_append_left _ (List.mem_append_left _ (List.mem_append_left _ (List.mem_append_left _ (List.mem_of_getElem? (i := 0) rfl))))))
  have hl := lv_entry ([.ref xt, .ref ou]) (n := 3) (Nat.le_of_ble_eq_true rfl)
  rw [lg_entry_eq]
  generalize (lg_sl ([.ref xt, .ref ou]) ++ List.replicate (3 - (lg_sl ([.ref xt, .ref ou])).length) Slot.unset).toArray = ls at hl ⊢
  have hl : lv_has ls 3 [(0, .ref xt), (1, .ref ou)] := hl
  refine lv_aload_n hx hb dL_meanEnergy_0 rfl (lv_at hl 1 rfl) ?_
  refine lv_iconst (v := 0) hx hb dL_meanEnergy_1 (by decide) ?_
  refine lv_aload_n hx hb dL_meanEnergy_2 rfl (lv_at hl 0 rfl) ?_
  have hPc := hP.sub (ws' := [(xt, .inr (12, [.ref ah, .ref xe, .ref xf])), (ah, .inr (4, [.ref ac, .ref au, .ref ab, .ref an, .ref ak, .ref ad, .int 0, .int 0, .long 0]))]) [0, 1] rfl
  have hDc := hD.sub (ws' := [(xt, .inr (12, [.ref ah, .ref xe, .ref xf])), (ah, .inr (4, [.ref ac, .ref au, .ref ab, .ref an, .ref ak, .ref ad, .int 0, .int 0, .long 0]))]) [0, 1] (by decide) rfl
  have hKc := hK.sub (tys' := [(cI, .int)]) [0] rfl
  have hFc := va_free (wc := [(xt, .inr (12, [.ref ah, .ref xe, .ref xf])), (ah, .inr (4, [.ref ac, .ref au, .ref ab, .ref an, .ref ak, .ref ad, .int 0, .int 0, .long 0]))]) hD hS hA [0, 1] rfl
  refine vx_calli (vx_runV (As := []) (rest := [.int 0, .ref ou]) ⟨hx, hb, hml, hown, hts⟩ (c_X8_meanEnergy l hl9 dC dI g xt xe xf ah ac au ab an ak ad cI s.heap.size) (cwV 0 hts gL_meanEnergy_X8_meanEnergy rfl rfl rfl (by decide +kernel) ⟨Nat.le_of_ble_eq_true rfl, Nat.le_of_ble_eq_true rfl⟩) ⟨wIn_blind, va_recv hK hP (ci := 12) (q0 := 0) rfl rfl, wIn_at hPc hKc hDc hG hS hFc⟩ rfl rfl hl.1 rfl (lv_room (Nat.le_of_ble_eq_true rfl)) dL_meanEnergy_3 ⟨Nat.le_of_ble_eq_true rfl, Nat.le_of_ble_eq_true rfl⟩) hS (fun q _ h => hFc q h) hFc (fun q _ h => hFc q h) (fun E9 ce9 q_2 u9 t H1 locs ht hvm hx9 hB9 hz1 hk1 hS hce hcv hcl => ?_) (fun r_1 u t H1 locs ht hvm hw hB hz1 hk1 hS => ?_)
  · obtain ⟨rfl, hs9⟩ := hB9
    refine vx_catch (E := "java/lang/ArithmeticException") (name := "java/lang/ArithmeticException") hown [] ⟨0, 7, 10, 96⟩ [] (htab.trans rfl) (fun z hz => nomatch hz) (by decide) (by decide) hw0 (nw_use hN _ (List.mem_of_getElem? (i := 53) rfl)) hce hcv hcl ?_
    obtain ⟨hP, hD⟩ := va_join (wr := [(ou, .inl (cD, 1, .inr (.inr (.inr (.inl fo)))))]) (w1 := []) hP hD [0, 1] [2] rfl rfl (by decide) (by decide) hk1 hFc vaP0 vaD0
    generalize H1 = H at hP hS ⊢
    have hP : va_P (dC, dI) vwCl [(ou, .inl (cD, 1, .inr (.inr (.inr (.inl fo)))))] H := hP
    have hD : va_D A [(ou, .inl (cD, 1, .inr (.inr (.inr (.inl fo)))))] := hD
    refine W.widen (k := 1) (n := 6) (Nat.le_of_ble_eq_true rfl) (Nat.le_of_ble_eq_true rfl) ?_
    refine lv_astore_n (lv' := [(2, .ref q_2), (0, .ref xt), (1, .ref ou)]) hx hb dL_meanEnergy_10 rfl hl (by decide) rfl (fun ls hl => ?_)
    refine lv_iconst (v := 1) hx hb dL_meanEnergy_11 (by decide) ?_
    have hP9 := hP.sub (ws' := [(ou, .inl (cD, 1, .inr (.inr (.inr (.inl fo)))))]) [0] rfl
    have hD9 := hD.sub (ws' := [(ou, .inl (cD, 1, .inr (.inr (.inr (.inl fo)))))]) [0] (by decide) rfl
    have hK9 := hK.sub (tys' := [(cI, .int), (cD, .double)]) [0, 1] rfl
    refine vx_ret ?_
    exact W.iret (v := 1) hx hb hr (fun t ht hW => ⟨⟨1, (fo), rfl, hs9.symm, wOut_at ht hW hP9 hK9 hD9⟩, hS.F ht⟩) hS.2.2 dL_meanEnergy_12
  · exact hw.elim
set_option maxHeartbeats 4000000 in
set_option maxRecDepth 100000 in
theorem c_L_run (l : Launch) (hl9 : l.stackTraces = false) (dC : Nat → ClassId) (dI : Nat → Nat → Nat) (g : Nat × Nat × Nat) (xt : Nat) (xe : Nat) (xf : Nat) (ah : Nat) (ac : Nat) (c1 : Nat) (c2 : Nat) (c3 : Nat) (c4 : Nat) (c5 : Nat) (au : Nat) (t1 : Nat) (t2 : Nat) (t3 : Nat) (t4 : Nat) (t5 : Nat) (t6 : Nat) (t7 : Nat) (ab : Nat) (b1 : Nat) (b2 : Nat) (an : Nat) (n1 : Nat) (n2 : Nat) (n3 : Nat) (n4 : Nat) (n5 : Nat) (ar : Nat) (r1 : Nat) (r2 : Nat) (ak : Nat) (ad : Nat) (cI : ClassId) (v1 : Int32) (fo : Nat → Int64) (ou : Nat) (cL : ClassId) (sz : Nat) : vx_Met l yL_run wsL_run ({ frames := 7, cells := 1, slots := 6, locals := 135 } : Room) (va_Pc [.ref xt, .int v1, .ref ou] (wIn dC dI g [(xt, .inr (12, [.ref ah, .ref xe, .ref xf])), (ah, .inr (4, [.ref ac, .ref au, .ref ab, .ref an, .ref ak, .ref ad, .int 0, .int 0, .long 0])), (ac, .inr (5, [.ref c1, .ref c2, .ref c3, .ref c4, .ref c5, .int 15])), (c1, .inl (cI, 4, .inl (cn 0))), (c2, .inl (cI, 4, .inl (cn 1))), (c3, .inl (cI, 4, .inl (cn 0))), (c4, .inl (cI, 4, .inl (cn 0))), (c5, .inl (cI, 4, .inl (cn 0))), (au, .inr (10, [.ref t1, .ref t2, .ref t3, .ref t4, .ref t5, .ref t6, .ref t7, .int 0, .int 0])), (t1, .inl (cI, 4, .inl (cn 0))), (t2, .inl (cI, 4, .inl (cn 10))), (t3, .inl (cI, 4, .inl (cn 10))), (t4, .inl (cI, 4, .inl (cn (-1)))), (t5, .inl (cI, 4, .inl (cn 0))), (t6, .inl (cI, 4, .inl (cn 0))), (t7, .inl (cI, 4, .inl (cn 110))), (ab, .inr (7, [.ref b1, .ref b2, .int 0, .int 0])), (b1, .inl (cI, 200, .inl (cn 0))), (b2, .inl (cI, 200, .inl (cn 0))), (an, .inr (6, [.ref n1, .ref n2, .ref n3, .ref n4, .ref n5, .int 0, .int 0])), (n1, .inl (cI, 8, .inl (cn 7))), (n2, .inl (cI, 8, .inl (cn 1))), (n3, .inl (cI, 8, .inl (cn 110))), (n4, .inl (cI, 8, .inl (cn 0))), (n5, .inl (cI, 8, .inl (cn 0))), (ar, .inr (9, [.ref r1, .ref r2, .int 0])), (r1, .inl (cI, 8, .inl (cn 0))), (r2, .inl (cI, 8, .inl (cn 0))), (ak, .inr (8, [.ref ar, .int 105, .int 0, .int (-1), .int 0, .int 0, .int 0])), (ad, .inr (11, [.int (-1), .int 0, .int 0, .int 0, .int 0, .int 0])), (ou, .inl (cL, 1, .inr (.inl fo)))] [(cI, .int), (cL, .long)] sz)) (va_Qi (fun (r : Int32) (u : Nat → Int64) => r = sp_X8_run v1 ∧ (sp_X8_run v1 = 0 → u 0 = 0)) (fun (u : Nat → Int64) (t : State) => wOut dC dI [(ou, .inl (cL, 1, .inr (.inl u)))] [(cI, .int), (cL, .long)] (va_A [(xt, .inr (12, [.ref ah, .ref xe, .ref xf])), (ah, .inr (4, [.ref ac, .ref au, .ref ab, .ref an, .ref ak, .ref ad, .int 0, .int 0, .long 0])), (ac, .inr (5, [.ref c1, .ref c2, .ref c3, .ref c4, .ref c5, .int 15])), (c1, .inl (cI, 4, .inl (cn 0))), (c2, .inl (cI, 4, .inl (cn 1))), (c3, .inl (cI, 4, .inl (cn 0))), (c4, .inl (cI, 4, .inl (cn 0))), (c5, .inl (cI, 4, .inl (cn 0))), (au, .inr (10, [.ref t1, .ref t2, .ref t3, .ref t4, .ref t5, .ref t6, .ref t7, .int 0, .int 0])), (t1, .inl (cI, 4, .inl (cn 0))), (t2, .inl (cI, 4, .inl (cn 10))), (t3, .inl (cI, 4, .inl (cn 10))), (t4, .inl (cI, 4, .inl (cn (-1)))), (t5, .inl (cI, 4, .inl (cn 0))), (t6, .inl (cI, 4, .inl (cn 0))), (t7, .inl (cI, 4, .inl (cn 110))), (ab, .inr (7, [.ref b1, .ref b2, .int 0, .int 0])), (b1, .inl (cI, 200, .inl (cn 0))), (b2, .inl (cI, 200, .inl (cn 0))), (an, .inr (6, [.ref n1, .ref n2, .ref n3, .ref n4, .ref n5, .int 0, .int 0])), (n1, .inl (cI, 8, .inl (cn 7))), (n2, .inl (cI, 8, .inl (cn 1))), (n3, .inl (cI, 8, .inl (cn 110))), (n4, .inl (cI, 8, .inl (cn 0))), (n5, .inl (cI, 8, .inl (cn 0))), (ar, .inr (9, [.ref r1, .ref r2, .int 0])), (r1, .inl (cI, 8, .inl (cn 0))), (r2, .inl (cI, 8, .inl (cn 0))), (ak, .inr (8, [.ref ar, .int 105, .int 0, .int (-1), .int 0, .int 0, .int 0])), (ad, .inr (11, [.int (-1), .int 0, .int 0, .int 0, .int 0, .int 0])), (ou, .inl (cL, 1, .inr (.inl fo)))] sz) t) (va_A [(xt, .inr (12, [.ref ah, .ref xe, .ref xf])), (ah, .inr (4, [.ref ac, .ref au, .ref ab, .ref an, .ref ak, .ref ad, .int 0, .int 0, .long 0])), (ac, .inr (5, [.ref c1, .ref c2, .ref c3, .ref c4, .ref c5, .int 15])), (c1, .inl (cI, 4, .inl (cn 0))), (c2, .inl (cI, 4, .inl (cn 1))), (c3, .inl (cI, 4, .inl (cn 0))), (c4, .inl (cI, 4, .inl (cn 0))), (c5, .inl (cI, 4, .inl (cn 0))), (au, .inr (10, [.ref t1, .ref t2, .ref t3, .ref t4, .ref t5, .ref t6, .ref t7, .int 0, .int 0])), (t1, .inl (cI, 4, .inl (cn 0))), (t2, .inl (cI, 4, .inl (cn 10))), (t3, .inl (cI, 4, .inl (cn 10))), (t4, .inl (cI, 4, .inl (cn (-1)))), (t5, .inl (cI, 4, .inl (cn 0))), (t6, .inl (cI, 4, .inl (cn 0))), (t7, .inl (cI, 4, .inl (cn 110))), (ab, .inr (7, [.ref b1, .ref b2, .int 0, .int 0])), (b1, .inl (cI, 200, .inl (cn 0))), (b2, .inl (cI, 200, .inl (cn 0))), (an, .inr (6, [.ref n1, .ref n2, .ref n3, .ref n4, .ref n5, .int 0, .int 0])), (n1, .inl (cI, 8, .inl (cn 7))), (n2, .inl (cI, 8, .inl (cn 1))), (n3, .inl (cI, 8, .inl (cn 110))), (n4, .inl (cI, 8, .inl (cn 0))), (n5, .inl (cI, 8, .inl (cn 0))), (ar, .inr (9, [.ref r1, .ref r2, .int 0])), (r1, .inl (cI, 8, .inl (cn 0))), (r2, .inl (cI, 8, .inl (cn 0))), (ak, .inr (8, [.ref ar, .int 105, .int 0, .int (-1), .int 0, .int 0, .int 0])), (ad, .inr (11, [.int (-1), .int 0, .int 0, .int 0, .int 0, .int 0])), (ou, .inl (cL, 1, .inr (.inl fo)))] sz)) (vx_X (fun (_ : Unit) => False) (fun (_ : String) (_ : Unit) (_ : State) => True) (va_A [(xt, .inr (12, [.ref ah, .ref xe, .ref xf])), (ah, .inr (4, [.ref ac, .ref au, .ref ab, .ref an, .ref ak, .ref ad, .int 0, .int 0, .long 0])), (ac, .inr (5, [.ref c1, .ref c2, .ref c3, .ref c4, .ref c5, .int 15])), (c1, .inl (cI, 4, .inl (cn 0))), (c2, .inl (cI, 4, .inl (cn 1))), (c3, .inl (cI, 4, .inl (cn 0))), (c4, .inl (cI, 4, .inl (cn 0))), (c5, .inl (cI, 4, .inl (cn 0))), (au, .inr (10, [.ref t1, .ref t2, .ref t3, .ref t4, .ref t5, .ref t6, .ref t7, .int 0, .int 0])), (t1, .inl (cI, 4, .inl (cn 0))), (t2, .inl (cI, 4, .inl (cn 10))), (t3, .inl (cI, 4, .inl (cn 10))), (t4, .inl (cI, 4, .inl (cn (-1)))), (t5, .inl (cI, 4, .inl (cn 0))), (t6, .inl (cI, 4, .inl (cn 0))), (t7, .inl (cI, 4, .inl (cn 110))), (ab, .inr (7, [.ref b1, .ref b2, .int 0, .int 0])), (b1, .inl (cI, 200, .inl (cn 0))), (b2, .inl (cI, 200, .inl (cn 0))), (an, .inr (6, [.ref n1, .ref n2, .ref n3, .ref n4, .ref n5, .int 0, .int 0])), (n1, .inl (cI, 8, .inl (cn 7))), (n2, .inl (cI, 8, .inl (cn 1))), (n3, .inl (cI, 8, .inl (cn 110))), (n4, .inl (cI, 8, .inl (cn 0))), (n5, .inl (cI, 8, .inl (cn 0))), (ar, .inr (9, [.ref r1, .ref r2, .int 0])), (r1, .inl (cI, 8, .inl (cn 0))), (r2, .inl (cI, 8, .inl (cn 0))), (ak, .inr (8, [.ref ar, .int 105, .int 0, .int (-1), .int 0, .int 0, .int 0])), (ad, .inr (11, [.int (-1), .int 0, .int 0, .int 0, .int 0, .int 0])), (ou, .inl (cL, 1, .inr (.inl fo)))] sz)) 1 6 (va_A [(xt, .inr (12, [.ref ah, .ref xe, .ref xf])), (ah, .inr (4, [.ref ac, .ref au, .ref ab, .ref an, .ref ak, .ref ad, .int 0, .int 0, .long 0])), (ac, .inr (5, [.ref c1, .ref c2, .ref c3, .ref c4, .ref c5, .int 15])), (c1, .inl (cI, 4, .inl (cn 0))), (c2, .inl (cI, 4, .inl (cn 1))), (c3, .inl (cI, 4, .inl (cn 0))), (c4, .inl (cI, 4, .inl (cn 0))), (c5, .inl (cI, 4, .inl (cn 0))), (au, .inr (10, [.ref t1, .ref t2, .ref t3, .ref t4, .ref t5, .ref t6, .ref t7, .int 0, .int 0])), (t1, .inl (cI, 4, .inl (cn 0))), (t2, .inl (cI, 4, .inl (cn 10))), (t3, .inl (cI, 4, .inl (cn 10))), (t4, .inl (cI, 4, .inl (cn (-1)))), (t5, .inl (cI, 4, .inl (cn 0))), (t6, .inl (cI, 4, .inl (cn 0))), (t7, .inl (cI, 4, .inl (cn 110))), (ab, .inr (7, [.ref b1, .ref b2, .int 0, .int 0])), (b1, .inl (cI, 200, .inl (cn 0))), (b2, .inl (cI, 200, .inl (cn 0))), (an, .inr (6, [.ref n1, .ref n2, .ref n3, .ref n4, .ref n5, .int 0, .int 0])), (n1, .inl (cI, 8, .inl (cn 7))), (n2, .inl (cI, 8, .inl (cn 1))), (n3, .inl (cI, 8, .inl (cn 110))), (n4, .inl (cI, 8, .inl (cn 0))), (n5, .inl (cI, 8, .inl (cn 0))), (ar, .inr (9, [.ref r1, .ref r2, .int 0])), (r1, .inl (cI, 8, .inl (cn 0))), (r2, .inl (cI, 8, .inl (cn 0))), (ak, .inr (8, [.ref ar, .int 105, .int 0, .int (-1), .int 0, .int 0, .int 0])), (ad, .inr (11, [.int (-1), .int 0, .int 0, .int 0, .int 0, .int 0])), (ou, .inl (cL, 1, .inr (.inl fo)))] sz) := by
  refine vx_ofWH (cc := cL_run) (maxL := 4) (ret := (some .int)) (hh := [(0, 9, 12, 15)]) (by decide) rfl ?_
  intro p e s m args below meth c s₁ B hml hv
  obtain ⟨rfl, hsz, hP, hK, hD0, hG⟩ := hv
  have hx := B.exec
  have hb := B.bytes
  have hr := B.returns
  have hts := atoms_spec (ws := wsL_run) B.pre
  have hown : s.vm.findClass RL = some m.cls := findClass_of_methodNamed B.named
  have hlocks := B.notSynchronized
  have htab : c.exceptionTable.toList = tableOf [(0, 9, 12, 15)] := vx_table (x := yL_run) B (hts _ List.mem_cons_self)
  subst hsz
  have hD := hD0.self (sz := s.heap.size)
  generalize hAe : va_A [(xt, .inr (12, [.ref ah, .ref xe, .ref xf])), (ah, .inr (4, [.ref ac, .ref au, .ref ab, .ref an, .ref ak, .ref ad, .int 0, .int 0, .long 0])), (ac, .inr (5, [.ref c1, .ref c2, .ref c3, .ref c4, .ref c5, .int 15])), (c1, .inl (cI, 4, .inl (cn 0))), (c2, .inl (cI, 4, .inl (cn 1))), (c3, .inl (cI, 4, .inl (cn 0))), (c4, .inl (cI, 4, .inl (cn 0))), (c5, .inl (cI, 4, .inl (cn 0))), (au, .inr (10, [.ref t1, .ref t2, .ref t3, .ref t4, .ref t5, .ref t6, .ref t7, .int 0, .int 0])), (t1, .inl (cI, 4, .inl (cn 0))), (t2, .inl (cI, 4, .inl (cn 10))), (t3, .inl (cI, 4, .inl (cn 10))), (t4, .inl (cI, 4, .inl (cn (-1)))), (t5, .inl (cI, 4, .inl (cn 0))), (t6, .inl (cI, 4, .inl (cn 0))), (t7, .inl (cI, 4, .inl (cn 110))), (ab, .inr (7, [.ref b1, .ref b2, .int 0, .int 0])), (b1, .inl (cI, 200, .inl (cn 0))), (b2, .inl (cI, 200, .inl (cn 0))), (an, .inr (6, [.ref n1, .ref n2, .ref n3, .ref n4, .ref n5, .int 0, .int 0])), (n1, .inl (cI, 8, .inl (cn 7))), (n2, .inl (cI, 8, .inl (cn 1))), (n3, .inl (cI, 8, .inl (cn 110))), (n4, .inl (cI, 8, .inl (cn 0))), (n5, .inl (cI, 8, .inl (cn 0))), (ar, .inr (9, [.ref r1, .ref r2, .int 0])), (r1, .inl (cI, 8, .inl (cn 0))), (r2, .inl (cI, 8, .inl (cn 0))), (ak, .inr (8, [.ref ar, .int 105, .int 0, .int (-1), .int 0, .int 0, .int 0])), (ad, .inr (11, [.int (-1), .int 0, .int 0, .int 0, .int 0, .int 0])), (ou, .inl (cL, 1, .inr (.inl fo)))] s.heap.size = A at hD hG ⊢
  have hN := hG.1
  have hA : ∀ q : Nat, s.heap.size ≤ q → A q := fun q h => by rw [← hAe]; exact Or.inr h
  have hS : va_S A s.heap s.heap [] := va_S.rf
  have hP : va_P (dC, dI) vwCl [(xt, .inr (12, [.ref ah, .ref xe, .ref xf])), (ah, .inr (4, [.ref ac, .ref au, .ref ab, .ref an, .ref ak, .ref ad, .int 0, .int 0, .long 0])), (ac, .inr (5, [.ref c1, .ref c2, .ref c3, .ref c4, .ref c5, .int 15])), (c1, .inl (cI, 4, .inl (cn 0))), (c2, .inl (cI, 4, .inl (cn 1))), (c3, .inl (cI, 4, .inl (cn 0))), (c4, .inl (cI, 4, .inl (cn 0))), (c5, .inl (cI, 4, .inl (cn 0))), (au, .inr (10, [.ref t1, .ref t2, .ref t3, .ref t4, .ref t5, .ref t6, .ref t7, .int 0, .int 0])), (t1, .inl (cI, 4, .inl (cn 0))), (t2, .inl (cI, 4, .inl (cn 10))), (t3, .inl (cI, 4, .inl (cn 10))), (t4, .inl (cI, 4, .inl (cn (-1)))), (t5, .inl (cI, 4, .inl (cn 0))), (t6, .inl (cI, 4, .inl (cn 0))), (t7, .inl (cI, 4, .inl (cn 110))), (ab, .inr (7, [.ref b1, .ref b2, .int 0, .int 0])), (b1, .inl (cI, 200, .inl (cn 0))), (b2, .inl (cI, 200, .inl (cn 0))), (an, .inr (6, [.ref n1, .ref n2, .ref n3, .ref n4, .ref n5, .int 0, .int 0])), (n1, .inl (cI, 8, .inl (cn 7))), (n2, .inl (cI, 8, .inl (cn 1))), (n3, .inl (cI, 8, .inl (cn 110))), (n4, .inl (cI, 8, .inl (cn 0))), (n5, .inl (cI, 8, .inl (cn 0))), (ar, .inr (9, [.ref r1, .ref r2, .int 0])), (r1, .inl (cI, 8, .inl (cn 0))), (r2, .inl (cI, 8, .inl (cn 0))), (ak, .inr (8, [.ref ar, .int 105, .int 0, .int (-1), .int 0, .int 0, .int 0])), (ad, .inr (11, [.int (-1), .int 0, .int 0, .int 0, .int 0, .int 0])), (ou, .inl (cL, 1, .inr (.inl fo)))] s.heap := hP
  have hw0 : (Cond.classLink RL 15 "java/lang/IllegalArgumentException").before _ s = true := hts _ (List.mem_cons_of_mem _ (List.mem_append_left _ (List.mem_append_left _ (List.mem_append_left _ (List.mem_append_left _ (List.mem_append_left _ (List.mem_append_left _ (List.mem_append_left _ (List.mem_append_left _ (List.mem_append_left _ (List.mem_append_left _ (List.mem_append_left _ (List.mem_append_left _ (List.mem_append_left _ (List.mem_of_getElem? (i := 0) rfl)))))))))))))))
  have hl := lv_entry ([.ref xt, .int v1, .ref ou]) (n := 4) (Nat.le_of_ble_eq_true rfl)
  rw [lg_entry_eq]
  generalize (lg_sl ([.ref xt, .int v1, .ref ou]) ++ List.replicate (4 - (lg_sl ([.ref xt, .int v1, .ref ou])).length) Slot.unset).toArray = ls at hl ⊢
  have hl : lv_has ls 4 [(0, .ref xt), (1, .int v1), (2, .ref ou)] := hl
  refine lv_aload_n hx hb dL_run_0 rfl (lv_at hl 2 rfl) ?_
  refine lv_iconst (v := 0) hx hb dL_run_1 (by decide) ?_
  refine lv_aload_n hx hb dL_run_2 rfl (lv_at hl 0 rfl) ?_
  refine lv_iload_n hx hb dL_run_3 rfl (lv_at hl 1 rfl) ?_
  have hPc := hP.sub (ws' := [(xt, .inr (12, [.ref ah, .ref xe, .ref xf])), (ah, .inr (4, [.ref ac, .ref au, .ref ab, .ref an, .ref ak, .ref ad, .int 0, .int 0, .long 0])), (ac, .inr (5, [.ref c1, .ref c2, .ref c3, .ref c4, .ref c5, .int 15])), (c1, .inl (cI, 4, .inl (cn 0))), (c2, .inl (cI, 4, .inl (cn 1))), (c3, .inl (cI, 4, .inl (cn 0))), (c4, .inl (cI, 4, .inl (cn 0))), (c5, .inl (cI, 4, .inl (cn 0))), (au, .inr (10, [.ref t1, .ref t2, .ref t3, .ref t4, .ref t5, .ref t6, .ref t7, .int 0, .int 0])), (t1, .inl (cI, 4, .inl (cn 0))), (t2, .inl (cI, 4, .inl (cn 10))), (t3, .inl (cI, 4, .inl (cn 10))), (t4, .inl (cI, 4, .inl (cn (-1)))), (t5, .inl (cI, 4, .inl (cn 0))), (t6, .inl (cI, 4, .inl (cn 0))), (t7, .inl (cI, 4, .inl (cn 110))), (ab, .inr (7, [.ref b1, .ref b2, .int 0, .int 0])), (b1, .inl (cI, 200, .inl (cn 0))), (b2, .inl (cI, 200, .inl (cn 0))), (an, .inr (6, [.ref n1, .ref n2, .ref n3, .ref n4, .ref n5, .int 0, .int 0])), (n1, .inl (cI, 8, .inl (cn 7))), (n2, .inl (cI, 8, .inl (cn 1))), (n3, .inl (cI, 8, .inl (cn 110))), (n4, .inl (cI, 8, .inl (cn 0))), (n5, .inl (cI, 8, .inl (cn 0))), (ar, .inr (9, [.ref r1, .ref r2, .int 0])), (r1, .inl (cI, 8, .inl (cn 0))), (r2, .inl (cI, 8, .inl (cn 0))), (ak, .inr (8, [.ref ar, .int 105, .int 0, .int (-1), .int 0, .int 0, .int 0])), (ad, .inr (11, [.int (-1), .int 0, .int 0, .int 0, .int 0, .int 0]))]) [0, 1, 2, 3, 4, 5, 6, 7, 8, 9, 10, 11, 12, 13, 14, 15, 16, 17, 18, 19, 20, 21, 22, 23, 24, 25, 26, 27, 28, 29] rfl
  have hDc := hD.sub (ws' := [(xt, .inr (12, [.ref ah, .ref xe, .ref xf])), (ah, .inr (4, [.ref ac, .ref au, .ref ab, .ref an, .ref ak, .ref ad, .int 0, .int 0, .long 0])), (ac, .inr (5, [.ref c1, .ref c2, .ref c3, .ref c4, .ref c5, .int 15])), (c1, .inl (cI, 4, .inl (cn 0))), (c2, .inl (cI, 4, .inl (cn 1))), (c3, .inl (cI, 4, .inl (cn 0))), (c4, .inl (cI, 4, .inl (cn 0))), (c5, .inl (cI, 4, .inl (cn 0))), (au, .inr (10, [.ref t1, .ref t2, .ref t3, .ref t4, .ref t5, .ref t6, .ref t7, .int 0, .int 0])), (t1, .inl (cI, 4, .inl (cn 0))), (t2, .inl (cI, 4, .inl (cn 10))), (t3, .inl (cI, 4, .inl (cn 10))), (t4, .inl (cI, 4, .inl (cn (-1)))), (t5, .inl (cI, 4, .inl (cn 0))), (t6, .inl (cI, 4, .inl (cn 0))), (t7, .inl (cI, 4, .inl (cn 110))), (ab, .inr (7, [.ref b1, .ref b2, .int 0, .int 0])), (b1, .inl (cI, 200, .inl (cn 0))), (b2, .inl (cI, 200, .inl (cn 0))), (an, .inr (6, [.ref n1, .ref n2, .ref n3, .ref n4, .ref n5, .int 0, .int 0])), (n1, .inl (cI, 8, .inl (cn 7))), (n2, .inl (cI, 8, .inl (cn 1))), (n3, .inl (cI, 8, .inl (cn 110))), (n4, .inl (cI, 8, .inl (cn 0))), (n5, .inl (cI, 8, .inl (cn 0))), (ar, .inr (9, [.ref r1, .ref r2, .int 0])), (r1, .inl (cI, 8, .inl (cn 0))), (r2, .inl (cI, 8, .inl (cn 0))), (ak, .inr (8, [.ref ar, .int 105, .int 0, .int (-1), .int 0, .int 0, .int 0])), (ad, .inr (11, [.int (-1), .int 0, .int 0, .int 0, .int 0, .int 0]))]) [0, 1, 2, 3, 4, 5, 6, 7, 8, 9, 10, 11, 12, 13, 14, 15, 16, 17, 18, 19, 20, 21, 22, 23, 24, 25, 26, 27, 28, 29] (by decide) rfl
  have hKc := hK.sub (tys' := [(cI, .int)]) [0] rfl
  have hFc := va_free (wc := [(xt, .inr (12, [.ref ah, .ref xe, .ref xf])), (ah, .inr (4, [.ref ac, .ref au, .ref ab, .ref an, .ref ak, .ref ad, .int 0, .int 0, .long 0])), (ac, .inr (5, [.ref c1, .ref c2, .ref c3, .ref c4, .ref c5, .int 15])), (c1, .inl (cI, 4, .inl (cn 0))), (c2, .inl (cI, 4, .inl (cn 1))), (c3, .inl (cI, 4, .inl (cn 0))), (c4, .inl (cI, 4, .inl (cn 0))), (c5, .inl (cI, 4, .inl (cn 0))), (au, .inr (10, [.ref t1, .ref t2, .ref t3, .ref t4, .ref t5, .ref t6, .ref t7, .int 0, .int 0])), (t1, .inl (cI, 4, .inl (cn 0))), (t2, .inl (cI, 4, .inl (cn 10))), (t3, .inl (cI, 4, .inl (cn 10))), (t4, .inl (cI, 4, .inl (cn (-1)))), (t5, .inl (cI, 4, .inl (cn 0))), (t6, .inl (cI, 4, .inl (cn 0))), (t7, .inl (cI, 4, .inl (cn 110))), (ab, .inr (7, [.ref b1, .ref b2, .int 0, .int 0])), (b1, .inl (cI, 200, .inl (cn 0))), (b2, .inl (cI, 200, .inl (cn 0))), (an, .inr (6, [.ref n1, .ref n2, .ref n3, .ref n4, .ref n5, .int 0, .int 0])), (n1, .inl (cI, 8, .inl (cn 7))), (n2, .inl (cI, 8, .inl (cn 1))), (n3, .inl (cI, 8, .inl (cn 110))), (n4, .inl (cI, 8, .inl (cn 0))), (n5, .inl (cI, 8, .inl (cn 0))), (ar, .inr (9, [.ref r1, .ref r2, .int 0])), (r1, .inl (cI, 8, .inl (cn 0))), (r2, .inl (cI, 8, .inl (cn 0))), (ak, .inr (8, [.ref ar, .int 105, .int 0, .int (-1), .int 0, .int 0, .int 0])), (ad, .inr (11, [.int (-1), .int 0, .int 0, .int 0, .int 0, .int 0]))]) hD hS hA [0, 1, 2, 3, 4, 5, 6, 7, 8, 9, 10, 11, 12, 13, 14, 15, 16, 17, 18, 19, 20, 21, 22, 23, 24, 25, 26, 27, 28, 29] rfl
  refine vx_calli (vx_runV (As := [.int v1]) (rest := [.int 0, .ref ou]) ⟨hx, hb, hml, hown, hts⟩ (c_X8_run l hl9 dC dI g xt xe xf ah ac c1 c2 c3 c4 c5 au t1 t2 t3 t4 t5 t6 t7 ab b1 b2 an n1 n2 n3 n4 n5 ar r1 r2 ak ad cI v1 s.heap.size) (cwV 1 hts gL_run_X8_run rfl rfl rfl (by decide +kernel) ⟨Nat.le_of_ble_eq_true rfl, Nat.le_of_ble_eq_true rfl⟩) ⟨wIn_blind, va_recv hK hP (ci := 12) (q0 := 0) rfl rfl, wIn_at hPc hKc hDc hG hS hFc⟩ rfl rfl hl.1 rfl (lv_room (Nat.le_of_ble_eq_true rfl)) dL_run_4 ⟨Nat.le_of_ble_eq_true rfl, Nat.le_of_ble_eq_true rfl⟩) hS (fun q _ h => hFc q h) hFc (fun q _ h => hFc q h) (fun E9 ce9 q_2 u9 t H1 locs ht hvm hx9 hB9 hz1 hk1 hS hce hcv hcl => ?_) (fun r_1 u t H1 locs ht hvm hw hB hz1 hk1 hS => ?_)
  · obtain ⟨rfl, hs9⟩ := hB9
    refine vx_catch (E := "java/lang/IllegalArgumentException") (name := "java/lang/IllegalArgumentException") hown [] ⟨0, 9, 12, 15⟩ [] (htab.trans rfl) (fun z hz => nomatch hz) (by decide) (by decide) hw0 (nw_use hN _ (List.mem_of_getElem? (i := 54) rfl)) hce hcv hcl ?_
    obtain ⟨hP, hD⟩ := va_join (wr := [(ou, .inl (cL, 1, .inr (.inl fo)))]) (w1 := []) hP hD [0, 1, 2, 3, 4, 5, 6, 7, 8, 9, 10, 11, 12, 13, 14, 15, 16, 17, 18, 19, 20, 21, 22, 23, 24, 25, 26, 27, 28, 29] [30] rfl rfl (by decide) (by decide) hk1 hFc vaP0 vaD0
    generalize H1 = H at hP hS ⊢
    have hP : va_P (dC, dI) vwCl [(ou, .inl (cL, 1, .inr (.inl fo)))] H := hP
    have hD : va_D A [(ou, .inl (cL, 1, .inr (.inl fo)))] := hD
    refine W.widen (k := 1) (n := 6) (Nat.le_of_ble_eq_true rfl) (Nat.le_of_ble_eq_true rfl) ?_
    refine lv_astore_n (lv' := [(3, .ref q_2), (0, .ref xt), (1, .int v1), (2, .ref ou)]) hx hb dL_run_12 rfl hl (by decide) rfl (fun ls hl => ?_)
    refine lv_iconst (v := 1) hx hb dL_run_13 (by decide) ?_
    have hP9 := hP.sub (ws' := [(ou, .inl (cL, 1, .inr (.inl fo)))]) [0] rfl
    have hD9 := hD.sub (ws' := [(ou, .inl (cL, 1, .inr (.inl fo)))]) [0] (by decide) rfl
    have hK9 := hK.sub (tys' := [(cI, .int), (cL, .long)]) [0, 1] rfl
    refine vx_ret ?_
    exact W.iret (v := 1) hx hb hr (fun t ht hW => ⟨⟨1, (fo), rfl, ⟨hs9.symm, (fun h9 => absurd (hs9.symm.trans h9) (by decide))⟩, wOut_at ht hW hP9 hK9 hD9⟩, hS.F ht⟩) hS.2.2 dL_run_14
  · obtain ⟨hP1, hK1, hD1⟩ := hB
    rw [ht] at hP1
    obtain ⟨hP, hD⟩ := va_join (wr := [(ou, .inl (cL, 1, .inr (.inl fo)))]) (w1 := []) hP hD [0, 1, 2, 3, 4, 5, 6, 7, 8, 9, 10, 11, 12, 13, 14, 15, 16, 17, 18, 19, 20, 21, 22, 23, 24, 25, 26, 27, 28, 29] [30] rfl rfl (by decide) (by decide) hk1 hFc hP1 hD1
    generalize H1 = H at hP hS ⊢
    have hP : va_P (dC, dI) vwCl [(ou, .inl (cL, 1, .inr (.inl fo)))] H := hP
    have hD : va_D A [(ou, .inl (cL, 1, .inr (.inl fo)))] := hD
    refine lt_ci (y := 0) hw.1 ?_
    have hs9 := hw.2
    refine W.widen (k := 1) (n := 6) (Nat.le_of_ble_eq_true rfl) (Nat.le_of_ble_eq_true rfl) ?_
    refine lv_i2l (v := 0) hx hb dL_run_7 (by first | rfl | decide) ?_
    refine va_last (D := (dC, dI)) hx hb hK hP hD hS 0 1 rfl rfl (by unfold vp_in; decide) dL_run_8 (fun H locs hP hD hS => ?_)
    have hP : va_P (dC, dI) vwCl [(ou, .inl (cL, 1, .inr (.inl (vp_updL fo 0 0))))] H := hP
    have hD : va_D A [(ou, .inl (cL, 1, .inr (.inl (vp_updL fo 0 0))))] := hD
    refine lv_goto (tgt := 15) hx hb dL_run_9 (by decide) ?_
    refine lv_iconst (v := 0) hx hb dL_run_15 (by decide) ?_
    have hP9 := hP.sub (ws' := [(ou, .inl (cL, 1, .inr (.inl (vp_updL fo 0 0))))]) [0] rfl
    have hD9 := hD.sub (ws' := [(ou, .inl (cL, 1, .inr (.inl (vp_updL fo 0 0))))]) [0] (by decide) rfl
    have hK9 := hK.sub (tys' := [(cI, .int), (cL, .long)]) [0, 1] rfl
    refine vx_ret ?_
    exact W.iret (v := 0) hx hb hr (fun t ht hW => ⟨⟨0, (vp_updL fo 0 0), rfl, ⟨hs9.symm, (fun _ => rfl)⟩, wOut_at ht hW hP9 hK9 hD9⟩, hS.F ht⟩) hS.2.2 dL_run_16
set_option maxHeartbeats 4000000 in
set_option maxRecDepth 100000 in
theorem c_L_runByBeats (l : Launch) (hl9 : l.stackTraces = false) (dC : Nat → ClassId) (dI : Nat → Nat → Nat) (g : Nat × Nat × Nat) (xt : Nat) (xe : Nat) (xf : Nat) (ah : Nat) (ac : Nat) (c1 : Nat) (c2 : Nat) (c3 : Nat) (c4 : Nat) (c5 : Nat) (au : Nat) (t1 : Nat) (t2 : Nat) (t3 : Nat) (t4 : Nat) (t5 : Nat) (t6 : Nat) (t7 : Nat) (ab : Nat) (b1 : Nat) (b2 : Nat) (an : Nat) (n1 : Nat) (n2 : Nat) (n3 : Nat) (n4 : Nat) (n5 : Nat) (ar : Nat) (r1 : Nat) (r2 : Nat) (ak : Nat) (ad : Nat) (cI : ClassId) (v1 : Int32) (fo : Nat → Int64) (ou : Nat) (cL : ClassId) (sz : Nat) : vx_Met l yL_runByBeats wsL_runByBeats ({ frames := 7, cells := 1, slots := 6, locals := 121 } : Room) (va_Pc [.ref xt, .int v1, .ref ou] (wIn dC dI g [(xt, .inr (12, [.ref ah, .ref xe, .ref xf])), (ah, .inr (4, [.ref ac, .ref au, .ref ab, .ref an, .ref ak, .ref ad, .int 0, .int 0, .long 0])), (ac, .inr (5, [.ref c1, .ref c2, .ref c3, .ref c4, .ref c5, .int 15])), (c1, .inl (cI, 4, .inl (cn 0))), (c2, .inl (cI, 4, .inl (cn 1))), (c3, .inl (cI, 4, .inl (cn 0))), (c4, .inl (cI, 4, .inl (cn 0))), (c5, .inl (cI, 4, .inl (cn 0))), (au, .inr (10, [.ref t1, .ref t2, .ref t3, .ref t4, .ref t5, .ref t6, .ref t7, .int 0, .int 0])), (t1, .inl (cI, 4, .inl (cn 0))), (t2, .inl (cI, 4, .inl (cn 10))), (t3, .inl (cI, 4, .inl (cn 10))), (t4, .inl (cI, 4, .inl (cn (-1)))), (t5, .inl (cI, 4, .inl (cn 0))), (t6, .inl (cI, 4, .inl (cn 0))), (t7, .inl (cI, 4, .inl (cn 110))), (ab, .inr (7, [.ref b1, .ref b2, .int 0, .int 0])), (b1, .inl (cI, 200, .inl (cn 0))), (b2, .inl (cI, 200, .inl (cn 0))), (an, .inr (6, [.ref n1, .ref n2, .ref n3, .ref n4, .ref n5, .int 0, .int 0])), (n1, .inl (cI, 8, .inl (cn 7))), (n2, .inl (cI, 8, .inl (cn 1))), (n3, .inl (cI, 8, .inl (cn 110))), (n4, .inl (cI, 8, .inl (cn 0))), (n5, .inl (cI, 8, .inl (cn 0))), (ar, .inr (9, [.ref r1, .ref r2, .int 0])), (r1, .inl (cI, 8, .inl (cn 0))), (r2, .inl (cI, 8, .inl (cn 0))), (ak, .inr (8, [.ref ar, .int 105, .int 0, .int (-1), .int 0, .int 0, .int 0])), (ad, .inr (11, [.int (-1), .int 0, .int 0, .int 0, .int 0, .int 0])), (ou, .inl (cL, 1, .inr (.inl fo)))] [(cI, .int), (cL, .long)] sz)) (va_Qi (fun (r : Int32) (u : Nat → Int64) => r = sp_X8_runByBeats v1 ∧ (sp_X8_runByBeats v1 = 0 → u 0 = 0)) (fun (u : Nat → Int64) (t : State) => wOut dC dI [(ou, .inl (cL, 1, .inr (.inl u)))] [(cI, .int), (cL, .long)] (va_A [(xt, .inr (12, [.ref ah, .ref xe, .ref xf])), (ah, .inr (4, [.ref ac, .ref au, .ref ab, .ref an, .ref ak, .ref ad, .int 0, .int 0, .long 0])), (ac, .inr (5, [.ref c1, .ref c2, .ref c3, .ref c4, .ref c5, .int 15])), (c1, .inl (cI, 4, .inl (cn 0))), (c2, .inl (cI, 4, .inl (cn 1))), (c3, .inl (cI, 4, .inl (cn 0))), (c4, .inl (cI, 4, .inl (cn 0))), (c5, .inl (cI, 4, .inl (cn 0))), (au, .inr (10, [.ref t1, .ref t2, .ref t3, .ref t4, .ref t5, .ref t6, .ref t7, .int 0, .int 0])), (t1, .inl (cI, 4, .inl (cn 0))), (t2, .inl (cI, 4, .inl (cn 10))), (t3, .inl (cI, 4, .inl (cn 10))), (t4, .inl (cI, 4, .inl (cn (-1)))), (t5, .inl (cI, 4, .inl (cn 0))), (t6, .inl (cI, 4, .inl (cn 0))), (t7, .inl (cI, 4, .inl (cn 110))), (ab, .inr (7, [.ref b1, .ref b2, .int 0, .int 0])), (b1, .inl (cI, 200, .inl (cn 0))), (b2, .inl (cI, 200, .inl (cn 0))), (an, .inr (6, [.ref n1, .ref n2, .ref n3, .ref n4, .ref n5, .int 0, .int 0])), (n1, .inl (cI, 8, .inl (cn 7))), (n2, .inl (cI, 8, .inl (cn 1))), (n3, .inl (cI, 8, .inl (cn 110))), (n4, .inl (cI, 8, .inl (cn 0))), (n5, .inl (cI, 8, .inl (cn 0))), (ar, .inr (9, [.ref r1, .ref r2, .int 0])), (r1, .inl (cI, 8, .inl (cn 0))), (r2, .inl (cI, 8, .inl (cn 0))), (ak, .inr (8, [.ref ar, .int 105, .int 0, .int (-1), .int 0, .int 0, .int 0])), (ad, .inr (11, [.int (-1), .int 0, .int 0, .int 0, .int 0, .int 0])), (ou, .inl (cL, 1, .inr (.inl fo)))] sz) t) (va_A [(xt, .inr (12, [.ref ah, .ref xe, .ref xf])), (ah, .inr (4, [.ref ac, .ref au, .ref ab, .ref an, .ref ak, .ref ad, .int 0, .int 0, .long 0])), (ac, .inr (5, [.ref c1, .ref c2, .ref c3, .ref c4, .ref c5, .int 15])), (c1, .inl (cI, 4, .inl (cn 0))), (c2, .inl (cI, 4, .inl (cn 1))), (c3, .inl (cI, 4, .inl (cn 0))), (c4, .inl (cI, 4, .inl (cn 0))), (c5, .inl (cI, 4, .inl (cn 0))), (au, .inr (10, [.ref t1, .ref t2, .ref t3, .ref t4, .ref t5, .ref t6, .ref t7, .int 0, .int 0])), (t1, .inl (cI, 4, .inl (cn 0))), (t2, .inl (cI, 4, .inl (cn 10))), (t3, .inl (cI, 4, .inl (cn 10))), (t4, .inl (cI, 4, .inl (cn (-1)))), (t5, .inl (cI, 4, .inl (cn 0))), (t6, .inl (cI, 4, .inl (cn 0))), (t7, .inl (cI, 4, .inl (cn 110))), (ab, .inr (7, [.ref b1, .ref b2, .int 0, .int 0])), (b1, .inl (cI, 200, .inl (cn 0))), (b2, .inl (cI, 200, .inl (cn 0))), (an, .inr (6, [.ref n1, .ref n2, .ref n3, .ref n4, .ref n5, .int 0, .int 0])), (n1, .inl (cI, 8, .inl (cn 7))), (n2, .inl (cI, 8, .inl (cn 1))), (n3, .inl (cI, 8, .inl (cn 110))), (n4, .inl (cI, 8, .inl (cn 0))), (n5, .inl (cI, 8, .inl (cn 0))), (ar, .inr (9, [.ref r1, .ref r2, .int 0])), (r1, .inl (cI, 8, .inl (cn 0))), (r2, .inl (cI, 8, .inl (cn 0))), (ak, .inr (8, [.ref ar, .int 105, .int 0, .int (-1), .int 0, .int 0, .int 0])), (ad, .inr (11, [.int (-1), .int 0, .int 0, .int 0, .int 0, .int 0])), (ou, .inl (cL, 1, .inr (.inl fo)))] sz)) (vx_X (fun (_ : Unit) => False) (fun (_ : String) (_ : Unit) (_ : State) => True) (va_A [(xt, .inr (12, [.ref ah, .ref xe, .ref xf])), (ah, .inr (4, [.ref ac, .ref au, .ref ab, .ref an, .ref ak, .ref ad, .int 0, .int 0, .long 0])), (ac, .inr (5, [.ref c1, .ref c2, .ref c3, .ref c4, .ref c5, .int 15])), (c1, .inl (cI, 4, .inl (cn 0))), (c2, .inl (cI, 4, .inl (cn 1))), (c3, .inl (cI, 4, .inl (cn 0))), (c4, .inl (cI, 4, .inl (cn 0))), (c5, .inl (cI, 4, .inl (cn 0))), (au, .inr (10, [.ref t1, .ref t2, .ref t3, .ref t4, .ref t5, .ref t6, .ref t7, .int 0, .int 0])), (t1, .inl (cI, 4, .inl (cn 0))), (t2, .inl (cI, 4, .inl (cn 10))), (t3, .inl (cI, 4, .inl (cn 10))), (t4, .inl (cI, 4, .inl (cn (-1)))), (t5, .inl (cI, 4, .inl (cn 0))), (t6, .inl (cI, 4, .inl (cn 0))), (t7, .inl (cI, 4, .inl (cn 110))), (ab, .inr (7, [.ref b1, .ref b2, .int 0, .int 0])), (b1, .inl (cI, 200, .inl (cn 0))), (b2, .inl (cI, 200, .inl (cn 0))), (an, .inr (6, [.ref n1, .ref n2, .ref n3, .ref n4, .ref n5, .int 0, .int 0])), (n1, .inl (cI, 8, .inl (cn 7))), (n2, .inl (cI, 8, .inl (cn 1))), (n3, .inl (cI, 8, .inl (cn 110))), (n4, .inl (cI, 8, .inl (cn 0))), (n5, .inl (cI, 8, .inl (cn 0))), (ar, .inr (9, [.ref r1, .ref r2, .int 0])), (r1, .inl (cI, 8, .inl (cn 0))), (r2, .inl (cI, 8, .inl (cn 0))), (ak, .inr (8, [.ref ar, .int 105, .int 0, .int (-1), .int 0, .int 0, .int 0])), (ad, .inr (11, [.int (-1), .int 0, .int 0, .int 0, .int 0, .int 0])), (ou, .inl (cL, 1, .inr (.inl fo)))] sz)) 1 6 (va_A [(xt, .inr (12, [.ref ah, .ref xe, .ref xf])), (ah, .inr (4, [.ref ac, .ref au, .ref ab, .ref an, .ref ak, .ref ad, .int 0, .int 0, .long 0])), (ac, .inr (5, [.ref c1, .ref c2, .ref c3, .ref c4, .ref c5, .int 15])), (c1, .inl (cI, 4, .inl (cn 0))), (c2, .inl (cI, 4, .inl (cn 1))), (c3, .inl (cI, 4, .inl (cn 0))), (c4, .inl (cI, 4, .inl (cn 0))), (c5, .inl (cI, 4, .inl (cn 0))), (au, .inr (10, [.ref t1, .ref t2, .ref t3, .ref t4, .ref t5, .ref t6, .ref t7, .int 0, .int 0])), (t1, .inl (cI, 4, .inl (cn 0))), (t2, .inl (cI, 4, .inl (cn 10))), (t3, .inl (cI, 4, .inl (cn 10))), (t4, .inl (cI, 4, .inl (cn (-1)))), (t5, .inl (cI, 4, .inl (cn 0))), (t6, .inl (cI, 4, .inl (cn 0))), (t7, .inl (cI, 4, .inl (cn 110))), (ab, .inr (7, [.ref b1, .ref b2, .int 0, .int 0])), (b1, .inl (cI, 200, .inl (cn 0))), (b2, .inl (cI, 200, .inl (cn 0))), (an, .inr (6, [.ref n1, .ref n2, .ref n3, .ref n4, .ref n5, .int 0, .int 0])), (n1, .inl (cI, 8, .inl (cn 7))), (n2, .inl (cI, 8, .inl (cn 1))), (n3, .inl (cI, 8, .inl (cn 110))), (n4, .inl (cI, 8, .inl (cn 0))), (n5, .inl (cI, 8, .inl (cn 0))), (ar, .inr (9, [.ref r1, .ref r2, .int 0])), (r1, .inl (cI, 8, .inl (cn 0))), (r2, .inl (cI, 8, .inl (cn 0))), (ak, .inr (8, [.ref ar, .int 105, .int 0, .int (-1), .int 0, .int 0, .int 0])), (ad, .inr (11, [.int (-1), .int 0, .int 0, .int 0, .int 0, .int 0])), (ou, .inl (cL, 1, .inr (.inl fo)))] sz) := by
  refine vx_ofWH (cc := cL_runByBeats) (maxL := 4) (ret := (some .int)) (hh := [(0, 9, 12, 15)]) (by decide) rfl ?_
  intro p e s m args below meth c s₁ B hml hv
  obtain ⟨rfl, hsz, hP, hK, hD0, hG⟩ := hv
  have hx := B.exec
  have hb := B.bytes
  have hr := B.returns
  have hts := atoms_spec (ws := wsL_runByBeats) B.pre
  have hown : s.vm.findClass RL = some m.cls := findClass_of_methodNamed B.named
  have hlocks := B.notSynchronized
  have htab : c.exceptionTable.toList = tableOf [(0, 9, 12, 15)] := vx_table (x := yL_runByBeats) B (hts _ List.mem_cons_self)
  subst hsz
  have hD := hD0.self (sz := s.heap.size)
  generalize hAe : va_A [(xt, .inr (12, [.ref ah, .ref xe, .ref xf])), (ah, .inr (4, [.ref ac, .ref au, .ref ab, .ref an, .ref ak, .ref ad, .int 0, .int 0, .long 0])), (ac, .inr (5, [.ref c1, .ref c2, .ref c3, .ref c4, .ref c5, .int 15])), (c1, .inl (cI, 4, .inl (cn 0))), (c2, .inl (cI, 4, .inl (cn 1))), (c3, .inl (cI, 4, .inl (cn 0))), (c4, .inl (cI, 4, .inl (cn 0))), (c5, .inl (cI, 4, .inl (cn 0))), (au, .inr (10, [.ref t1, .ref t2, .ref t3, .ref t4, .ref t5, .ref t6, .ref t7, .int 0, .int 0])), (t1, .inl (cI, 4, .inl (cn 0))), (t2, .inl (cI, 4, .inl (cn 10))), (t3, .inl (cI, 4, .inl (cn 10))), (t4, .inl (cI, 4, .inl (cn (-1)))), (t5, .inl (cI, 4, .inl (cn 0))), (t6, .inl (cI, 4, .inl (cn 0))), (t7, .inl (cI, 4, .inl (cn 110))), (ab, .inr (7, [.ref b1, .ref b2, .int 0, .int 0])), (b1, .inl (cI, 200, .inl (cn 0))), (b2, .inl (cI, 200, .inl (cn 0))), (an, .inr (6, [.ref n1, .ref n2, .ref n3, .ref n4, .ref n5, .int 0, .int 0])), (n1, .inl (cI, 8, .inl (cn 7))), (n2, .inl (cI, 8, .inl (cn 1))), (n3, .inl (cI, 8, .inl (cn 110))), (n4, .inl (cI, 8, .inl (cn 0))), (n5, .inl (cI, 8, .inl (cn 0))), (ar, .inr (9, [.ref r1, .ref r2, .int 0])), (r1, .inl (cI, 8, .inl (cn 0))), (r2, .inl (cI, 8, .inl (cn 0))), (ak, .inr (8, [.ref ar, .int 105, .int 0, .int (-1), .int 0, .int 0, .int 0])), (ad, .inr (11, [.int (-1), .int 0, .int 0, .int 0, .int 0, .int 0])), (ou, .inl (cL, 1, .inr (.inl fo)))] s.heap.size = A at hD hG ⊢
  have hN := hG.1
  have hA : ∀ q : Nat, s.heap.size ≤ q → A q := fun q h => by rw [← hAe]; exact Or.inr h
  have hS : va_S A s.heap s.heap [] := va_S.rf
  have hP : va_P (dC, dI) vwCl [(xt, .inr (12, [.ref ah, .ref xe, .ref xf])), (ah, .inr (4, [.ref ac, .ref au, .ref ab, .ref an, .ref ak, .ref ad, .int 0, .int 0, .long 0])), (ac, .inr (5, [.ref c1, .ref c2, .ref c3, .ref c4, .ref c5, .int 15])), (c1, .inl (cI, 4, .inl (cn 0))), (c2, .inl (cI, 4, .inl (cn 1))), (c3, .inl (cI, 4, .inl (cn 0))), (c4, .inl (cI, 4, .inl (cn 0))), (c5, .inl (cI, 4, .inl (cn 0))), (au, .inr (10, [.ref t1, .ref t2, .ref t3, .ref t4, .ref t5, .ref t6, .ref t7, .int 0, .int 0])), (t1, .inl (cI, 4, .inl (cn 0))), (t2, .inl (cI, 4, .inl (cn 10))), (t3, .inl (cI, 4, .inl (cn 10))), (t4, .inl (cI, 4, .inl (cn (-1)))), (t5, .inl (cI, 4, .inl (cn 0))), (t6, .inl (cI, 4, .inl (cn 0))), (t7, .inl (cI, 4, .inl (cn 110))), (ab, .inr (7, [.ref b1, .ref b2, .int 0, .int 0])), (b1, .inl (cI, 200, .inl (cn 0))), (b2, .inl (cI, 200, .inl (cn 0))), (an, .inr (6, [.ref n1, .ref n2, .ref n3, .ref n4, .ref n5, .int 0, .int 0])), (n1, .inl (cI, 8, .inl (cn 7))), (n2, .inl (cI, 8, .inl (cn 1))), (n3, .inl (cI, 8, .inl (cn 110))), (n4, .inl (cI, 8, .inl (cn 0))), (n5, .inl (cI, 8, .inl (cn 0))), (ar, .inr (9, [.ref r1, .ref r2, .int 0])), (r1, .inl (cI, 8, .inl (cn 0))), (r2, .inl (cI, 8, .inl (cn 0))), (ak, .inr (8, [.ref ar, .int 105, .int 0, .int (-1), .int 0, .int 0, .int 0])), (ad, .inr (11, [.int (-1), .int 0, .int 0, .int 0, .int 0, .int 0])), (ou, .inl (cL, 1, .inr (.inl fo)))] s.heap := hP
  have hw0 : (Cond.classLink RL 15 "java/lang/IllegalArgumentException").before _ s = true := hts _ (List.mem_cons_of_mem _ (List.mem_append_left _ (List.mem_append_left _ (List.mem_append_left _ (List.mem_append_left _ (List.mem_append_left _ (List.mem_append_left _ (List.mem_append_left _ (List.mem_append_left _ (List.mem_append_left _ (List.mem_append_left _ (List.mem_append_left _ (List.mem_append_left _ (List.mem_of_getElem? (i := 0) rfl))))))))))))))
  have hl := lv_entry ([.ref xt, .int v1, .ref ou]) (n := 4) (Nat.le_of_ble_eq_true rfl)
  rw [lg_entry_eq]
  generalize (lg_sl ([.ref xt, .int v1, .ref ou]) ++ List.replicate (4 - (lg_sl ([.ref xt, .int v1, .ref ou])).length) Slot.unset).toArray = ls at hl ⊢
  have hl : lv_has ls 4 [(0, .ref xt), (1, .int v1), (2, .ref ou)] := hl
  refine lv_aload_n hx hb dL_runByBeats_0 rfl (lv_at hl 2 rfl) ?_
  refine lv_iconst (v := 0) hx hb dL_runByBeats_1 (by decide) ?_
  refine lv_aload_n hx hb dL_runByBeats_2 rfl (lv_at hl 0 rfl) ?_
  refine lv_iload_n hx hb dL_runByBeats_3 rfl (lv_at hl 1 rfl) ?_
  have hPc := hP.sub (ws' := [(xt, .inr (12, [.ref ah, .ref xe, .ref xf])), (ah, .inr (4, [.ref ac, .ref au, .ref ab, .ref an, .ref ak, .ref ad, .int 0, .int 0, .long 0])), (ac, .inr (5, [.ref c1, .ref c2, .ref c3, .ref c4, .ref c5, .int 15])), (c1, .inl (cI, 4, .inl (cn 0))), (c2, .inl (cI, 4, .inl (cn 1))), (c3, .inl (cI, 4, .inl (cn 0))), (c4, .inl (cI, 4, .inl (cn 0))), (c5, .inl (cI, 4, .inl (cn 0))), (au, .inr (10, [.ref t1, .ref t2, .ref t3, .ref t4, .ref t5, .ref t6, .ref t7, .int 0, .int 0])), (t1, .inl (cI, 4, .inl (cn 0))), (t2, .inl (cI, 4, .inl (cn 10))), (t3, .inl (cI, 4, .inl (cn 10))), (t4, .inl (cI, 4, .inl (cn (-1)))), (t5, .inl (cI, 4, .inl (cn 0))), (t6, .inl (cI, 4, .inl (cn 0))), (t7, .inl (cI, 4, .inl (cn 110))), (ab, .inr (7, [.ref b1, .ref b2, .int 0, .int 0])), (b1, .inl (cI, 200, .inl (cn 0))), (b2, .inl (cI, 200, .inl (cn 0))), (an, .inr (6, [.ref n1, .ref n2, .ref n3, .ref n4, .ref n5, .int 0, .int 0])), (n1, .inl (cI, 8, .inl (cn 7))), (n2, .inl (cI, 8, .inl (cn 1))), (n3, .inl (cI, 8, .inl (cn 110))), (n4, .inl (cI, 8, .inl (cn 0))), (n5, .inl (cI, 8, .inl (cn 0))), (ar, .inr (9, [.ref r1, .ref r2, .int 0])), (r1, .inl (cI, 8, .inl (cn 0))), (r2, .inl (cI, 8, .inl (cn 0))), (ak, .inr (8, [.ref ar, .int 105, .int 0, .int (-1), .int 0, .int 0, .int 0])), (ad, .inr (11, [.int (-1), .int 0, .int 0, .int 0, .int 0, .int 0]))]) [0, 1, 2, 3, 4, 5, 6, 7, 8, 9, 10, 11, 12, 13, 14, 15, 16, 17, 18, 19, 20, 21, 22, 23, 24, 25, 26, 27, 28, 29] rfl
  have hDc := hD.sub (ws' := [(xt, .inr (12, [.ref ah, .ref xe, .ref xf])), (ah, .inr (4, [.ref ac, .ref au, .ref ab, .ref an, .ref ak, .ref ad, .int 0, .int 0, .long 0])), (ac, .inr (5, [.ref c1, .ref c2, .ref c3, .ref c4, .ref c5, .int 15])), (c1, .inl (cI, 4, .inl (cn 0))), (c2, .inl (cI, 4, .inl (cn 1))), (c3, .inl (cI, 4, .inl (cn 0))), (c4, .inl (cI, 4, .inl (cn 0))), (c5, .inl (cI, 4, .inl (cn 0))), (au, .inr (10, [.ref t1, .ref t2, .ref t3, .ref t4, .ref t5, .ref t6, .ref t7, .int 0, .int 0])), (t1, .inl (cI, 4, .inl (cn 0))), (t2, .inl (cI, 4, .inl (cn 10))), (t3, .inl (cI, 4, .inl (cn 10))), (t4, .inl (cI, 4, .inl (cn (-1)))), (t5, .inl (cI, 4, .inl (cn 0))), (t6, .inl (cI, 4, .inl (cn 0))), (t7, .inl (cI, 4, .inl (cn 110))), (ab, .inr (7, [.ref b1, .ref b2, .int 0, .int 0])), (b1, .inl (cI, 200, .inl (cn 0))), (b2, .inl (cI, 200, .inl (cn 0))), (an, .inr (6, [.ref n1, .ref n2, .ref n3, .ref n4, .ref n5, .int 0, .int 0])), (n1, .inl (cI, 8, .inl (cn 7))), (n2, .inl (cI, 8, .inl (cn 1))), (n3, .inl (cI, 8, .inl (cn 110))), (n4, .inl (cI, 8, .inl (cn 0))), (n5, .inl (cI, 8, .inl (cn 0))), (ar, .inr (9, [.ref r1, .ref r2, .int 0])), (r1, .inl (cI, 8, .inl (cn 0))), (r2, .inl (cI, 8, .inl (cn 0))), (ak, .inr (8, [.ref ar, .int 105, .int 0, .int (-1), .int 0, .int 0, .int 0])), (ad, .inr (11, [.int (-1), .int 0, .int 0, .int 0, .int 0, .int 0]))]) [0, 1, 2, 3, 4, 5, 6, 7, 8, 9, 10, 11, 12, 13, 14, 15, 16, 17, 18, 19, 20, 21, 22, 23, 24, 25, 26, 27, 28, 29] (by decide) rfl
  have hKc := hK.sub (tys' := [(cI, .int)]) [0] rfl
  have hFc := va_free (wc := [(xt, .inr (12, [.ref ah, .ref xe, .ref xf])), (ah, .inr (4, [.ref ac, .ref au, .ref ab, .ref an, .ref ak, .ref ad, .int 0, .int 0, .long 0])), (ac, .inr (5, [.ref c1, .ref c2, .ref c3, .ref c4, .ref c5, .int 15])), (c1, .inl (cI, 4, .inl (cn 0))), (c2, .inl (cI, 4, .inl (cn 1))), (c3, .inl (cI, 4, .inl (cn 0))), (c4, .inl (cI, 4, .inl (cn 0))), (c5, .inl (cI, 4, .inl (cn 0))), (au, .inr (10, [.ref t1, .ref t2, .ref t3, .ref t4, .ref t5, .ref t6, .ref t7, .int 0, .int 0])), (t1, .inl (cI, 4, .inl (cn 0))), (t2, .inl (cI, 4, .inl (cn 10))), (t3, .inl (cI, 4, .inl (cn 10))), (t4, .inl (cI, 4, .inl (cn (-1)))), (t5, .inl (cI, 4, .inl (cn 0))), (t6, .inl (cI, 4, .inl (cn 0))), (t7, .inl (cI, 4, .inl (cn 110))), (ab, .inr (7, [.ref b1, .ref b2, .int 0, .int 0])), (b1, .inl (cI, 200, .inl (cn 0))), (b2, .inl (cI, 200, .inl (cn 0))), (an, .inr (6, [.ref n1, .ref n2, .ref n3, .ref n4, .ref n5, .int 0, .int 0])), (n1, .inl (cI, 8, .inl (cn 7))), (n2, .inl (cI, 8, .inl (cn 1))), (n3, .inl (cI, 8, .inl (cn 110))), (n4, .inl (cI, 8, .inl (cn 0))), (n5, .inl (cI, 8, .inl (cn 0))), (ar, .inr (9, [.ref r1, .ref r2, .int 0])), (r1, .inl (cI, 8, .inl (cn 0))), (r2, .inl (cI, 8, .inl (cn 0))), (ak, .inr (8, [.ref ar, .int 105, .int 0, .int (-1), .int 0, .int 0, .int 0])), (ad, .inr (11, [.int (-1), .int 0, .int 0, .int 0, .int 0, .int 0]))]) hD hS hA [0, 1, 2, 3, 4, 5, 6, 7, 8, 9, 10, 11, 12, 13, 14, 15, 16, 17, 18, 19, 20, 21, 22, 23, 24, 25, 26, 27, 28, 29] rfl
  refine vx_calli (vx_runV (As := [.int v1]) (rest := [.int 0, .ref ou]) ⟨hx, hb, hml, hown, hts⟩ (c_X8_runByBeats l hl9 dC dI g xt xe xf ah ac c1 c2 c3 c4 c5 au t1 t2 t3 t4 t5 t6 t7 ab b1 b2 an n1 n2 n3 n4 n5 ar r1 r2 ak ad cI v1 s.heap.size) (cwV 1 hts gL_runByBeats_X8_runByBeats rfl rfl rfl (by decide +kernel) ⟨Nat.le_of_ble_eq_true rfl, Nat.le_of_ble_eq_true rfl⟩) ⟨wIn_blind, va_recv hK hP (ci := 12) (q0 := 0) rfl rfl, wIn_at hPc hKc hDc hG hS hFc⟩ rfl rfl hl.1 rfl (lv_room (Nat.le_of_ble_eq_true rfl)) dL_runByBeats_4 ⟨Nat.le_of_ble_eq_true rfl, Nat.le_of_ble_eq_true rfl⟩) hS (fun q _ h => hFc q h) hFc (fun q _ h => hFc q h) (fun E9 ce9 q_2 u9 t H1 locs ht hvm hx9 hB9 hz1 hk1 hS hce hcv hcl => ?_) (fun r_1 u t H1 locs ht hvm hw hB hz1 hk1 hS => ?_)
  · obtain ⟨rfl, hs9⟩ := hB9
    refine vx_catch (E := "java/lang/IllegalArgumentException") (name := "java/lang/IllegalArgumentException") hown [] ⟨0, 9, 12, 15⟩ [] (htab.trans rfl) (fun z hz => nomatch hz) (by decide) (by decide) hw0 (nw_use hN _ (List.mem_of_getElem? (i := 54) rfl)) hce hcv hcl ?_
    obtain ⟨hP, hD⟩ := va_join (wr := [(ou, .inl (cL, 1, .inr (.inl fo)))]) (w1 := []) hP hD [0, 1, 2, 3, 4, 5, 6, 7, 8, 9, 10, 11, 12, 13, 14, 15, 16, 17, 18, 19, 20, 21, 22, 23, 24, 25, 26, 27, 28, 29] [30] rfl rfl (by decide) (by decide) hk1 hFc vaP0 vaD0
    generalize H1 = H at hP hS ⊢
    have hP : va_P (dC, dI) vwCl [(ou, .inl (cL, 1, .inr (.inl fo)))] H := hP
    have hD : va_D A [(ou, .inl (cL, 1, .inr (.inl fo)))] := hD
    refine W.widen (k := 1) (n := 6) (Nat.le_of_ble_eq_true rfl) (Nat.le_of_ble_eq_true rfl) ?_
    refine lv_astore_n (lv' := [(3, .ref q_2), (0, .ref xt), (1, .int v1), (2, .ref ou)]) hx hb dL_runByBeats_12 rfl hl (by decide) rfl (fun ls hl => ?_)
    refine lv_iconst (v := 1) hx hb dL_runByBeats_13 (by decide) ?_
    have hP9 := hP.sub (ws' := [(ou, .inl (cL, 1, .inr (.inl fo)))]) [0] rfl
    have hD9 := hD.sub (ws' := [(ou, .inl (cL, 1, .inr (.inl fo)))]) [0] (by decide) rfl
    have hK9 := hK.sub (tys' := [(cI, .int), (cL, .long)]) [0, 1] rfl
    refine vx_ret ?_
    exact W.iret (v := 1) hx hb hr (fun t ht hW => ⟨⟨1, (fo), rfl, ⟨hs9.symm, (fun h9 => absurd (hs9.symm.trans h9) (by decide))⟩, wOut_at ht hW hP9 hK9 hD9⟩, hS.F ht⟩) hS.2.2 dL_runByBeats_14
  · obtain ⟨hP1, hK1, hD1⟩ := hB
    rw [ht] at hP1
    obtain ⟨hP, hD⟩ := va_join (wr := [(ou, .inl (cL, 1, .inr (.inl fo)))]) (w1 := []) hP hD [0, 1, 2, 3, 4, 5, 6, 7, 8, 9, 10, 11, 12, 13, 14, 15, 16, 17, 18, 19, 20, 21, 22, 23, 24, 25, 26, 27, 28, 29] [30] rfl rfl (by decide) (by decide) hk1 hFc hP1 hD1
    generalize H1 = H at hP hS ⊢
    have hP : va_P (dC, dI) vwCl [(ou, .inl (cL, 1, .inr (.inl fo)))] H := hP
    have hD : va_D A [(ou, .inl (cL, 1, .inr (.inl fo)))] := hD
    refine lt_ci (y := 0) hw.1 ?_
    have hs9 := hw.2
    refine W.widen (k := 1) (n := 6) (Nat.le_of_ble_eq_true rfl) (Nat.le_of_ble_eq_true rfl) ?_
    refine lv_i2l (v := 0) hx hb dL_runByBeats_7 (by first | rfl | decide) ?_
    refine va_last (D := (dC, dI)) hx hb hK hP hD hS 0 1 rfl rfl (by unfold vp_in; decide) dL_runByBeats_8 (fun H locs hP hD hS => ?_)
    have hP : va_P (dC, dI) vwCl [(ou, .inl (cL, 1, .inr (.inl (vp_updL fo 0 0))))] H := hP
    have hD : va_D A [(ou, .inl (cL, 1, .inr (.inl (vp_updL fo 0 0))))] := hD
    refine lv_goto (tgt := 15) hx hb dL_runByBeats_9 (by decide) ?_
    refine lv_iconst (v := 0) hx hb dL_runByBeats_15 (by decide) ?_
    have hP9 := hP.sub (ws' := [(ou, .inl (cL, 1, .inr (.inl (vp_updL fo 0 0))))]) [0] rfl
    have hD9 := hD.sub (ws' := [(ou, .inl (cL, 1, .inr (.inl (vp_updL fo 0 0))))]) [0] (by decide) rfl
    have hK9 := hK.sub (tys' := [(cI, .int), (cL, .long)]) [0, 1] rfl
    refine vx_ret ?_
    exact W.iret (v := 0) hx hb hr (fun t ht hW => ⟨⟨0, (vp_updL fo 0 0), rfl, ⟨hs9.symm, (fun _ => rfl)⟩, wOut_at ht hW hP9 hK9 hD9⟩, hS.F ht⟩) hS.2.2 dL_runByBeats_16
