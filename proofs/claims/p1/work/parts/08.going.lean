set_option maxHeartbeats 4000000 in
set_option maxRecDepth 100000 in
theorem c_X0_goByBeats (l : Launch) (dC : Nat → ClassId) (dI : Nat → Nat → Nat) (g : Nat × Nat × Nat) (ah : Nat) (ac : Nat) (c1 : Nat) (c2 : Nat) (c3 : Nat) (c4 : Nat) (c5 : Nat) (au : Nat) (t1 : Nat) (t2 : Nat) (t3 : Nat) (t4 : Nat) (t5 : Nat) (t6 : Nat) (t7 : Nat) (ab : Nat) (b1 : Nat) (b2 : Nat) (an : Nat) (n1 : Nat) (n2 : Nat) (n3 : Nat) (n4 : Nat) (n5 : Nat) (ar : Nat) (r1 : Nat) (r2 : Nat) (ak : Nat) (ad : Nat) (cI : ClassId) (tm : Int32) (sl : Int32) (tk : Int32) (fr : Int32) (en : Int64) (N : Nat) (sz : Nat) (hN : N ≤ 5000) : Met l yX0_goByBeats wsX0_goByBeats ({ frames := 3, cells := 0, slots := 0, locals := 67 } : Room) (va_Pc [.ref ah, .int (nI N)] (wIn dC dI g [(ah, .inr (4, [.ref ac, .ref au, .ref ab, .ref an, .ref ak, .ref ad, .int tm, .int sl, .long en])), (ac, .inr (5, [.ref c1, .ref c2, .ref c3, .ref c4, .ref c5, .int 15])), (c1, .inl (cI, 4, .inl (cn 0))), (c2, .inl (cI, 4, .inl (cn 1))), (c3, .inl (cI, 4, .inl (cn 0))), (c4, .inl (cI, 4, .inl (cn tk))), (c5, .inl (cI, 4, .inl (cn fr))), (au, .inr (10, [.ref t1, .ref t2, .ref t3, .ref t4, .ref t5, .ref t6, .ref t7, .int 0, .int 0])), (t1, .inl (cI, 4, .inl (cn 0))), (t2, .inl (cI, 4, .inl (cn 10))), (t3, .inl (cI, 4, .inl (cn 10))), (t4, .inl (cI, 4, .inl (cn (-1)))), (t5, .inl (cI, 4, .inl (cn 0))), (t6, .inl (cI, 4, .inl (cn 0))), (t7, .inl (cI, 4, .inl (cn 110))), (ab, .inr (7, [.ref b1, .ref b2, .int 0, .int 0])), (b1, .inl (cI, 200, .inl (cn 0))), (b2, .inl (cI, 200, .inl (cn 0))), (an, .inr (6, [.ref n1, .ref n2, .ref n3, .ref n4, .ref n5, .int 0, .int 0])), (n1, .inl (cI, 8, .inl (cn 7))), (n2, .inl (cI, 8, .inl (cn 1))), (n3, .inl (cI, 8, .inl (cn 110))), (n4, .inl (cI, 8, .inl (cn 0))), (n5, .inl (cI, 8, .inl (cn 0))), (ar, .inr (9, [.ref r1, .ref r2, .int 0])), (r1, .inl (cI, 8, .inl (cn 0))), (r2, .inl (cI, 8, .inl (cn 0))), (ak, .inr (8, [.ref ar, .int 105, .int 0, .int (-1), .int 0, .int 0, .int 0])), (ad, .inr (11, [.int (-1), .int 0, .int 0, .int 0, .int 0, .int 0]))] [(cI, .int)] sz)) (va_Qi (fun (r : Int32) (u : Int32 × Int64 × Int32 × Int32) => r = 0 ∧ u.1 = tm + nI N ∧ u.2.1 = en + lN (5 * N) ∧ u.2.2.1 = tk + nI N) (fun (u : Int32 × Int64 × Int32 × Int32) (t : State) => wOut dC dI [(ah, .inr (4, [.ref ac, .ref au, .ref ab, .ref an, .ref ak, .ref ad, .int u.1, .int sl, .long u.2.1])), (ac, .inr (5, [.ref c1, .ref c2, .ref c3, .ref c4, .ref c5, .int 15])), (c1, .inl (cI, 4, .inl (cn 0))), (c2, .inl (cI, 4, .inl (cn 1))), (c3, .inl (cI, 4, .inl (cn 0))), (c4, .inl (cI, 4, .inl (cn u.2.2.1))), (c5, .inl (cI, 4, .inl (cn u.2.2.2))), (au, .inr (10, [.ref t1, .ref t2, .ref t3, .ref t4, .ref t5, .ref t6, .ref t7, .int 0, .int 0])), (t1, .inl (cI, 4, .inl (cn 0))), (t2, .inl (cI, 4, .inl (cn 10))), (t3, .inl (cI, 4, .inl (cn 10))), (t4, .inl (cI, 4, .inl (cn (-1)))), (t5, .inl (cI, 4, .inl (cn 0))), (t6, .inl (cI, 4, .inl (cn 0))), (t7, .inl (cI, 4, .inl (cn 110))), (ab, .inr (7, [.ref b1, .ref b2, .int 0, .int 0])), (b1, .inl (cI, 200, .inl (cn 0))), (b2, .inl (cI, 200, .inl (cn 0))), (an, .inr (6, [.ref n1, .ref n2, .ref n3, .ref n4, .ref n5, .int 0, .int 0])), (n1, .inl (cI, 8, .inl (cn 7))), (n2, .inl (cI, 8, .inl (cn 1))), (n3, .inl (cI, 8, .inl (cn 110))), (n4, .inl (cI, 8, .inl (cn 0))), (n5, .inl (cI, 8, .inl (cn 0))), (ar, .inr (9, [.ref r1, .ref r2, .int 0])), (r1, .inl (cI, 8, .inl (cn 0))), (r2, .inl (cI, 8, .inl (cn 0))), (ak, .inr (8, [.ref ar, .int 105, .int 0, .int (-1), .int 0, .int 0, .int 0])), (ad, .inr (11, [.int (-1), .int 0, .int 0, .int 0, .int 0, .int 0]))] [(cI, .int)] (va_A [(ah, .inr (4, [.ref ac, .ref au, .ref ab, .ref an, .ref ak, .ref ad, .int tm, .int sl, .long en])), (ac, .inr (5, [.ref c1, .ref c2, .ref c3, .ref c4, .ref c5, .int 15])), (c1, .inl (cI, 4, .inl (cn 0))), (c2, .inl (cI, 4, .inl (cn 1))), (c3, .inl (cI, 4, .inl (cn 0))), (c4, .inl (cI, 4, .inl (cn tk))), (c5, .inl (cI, 4, .inl (cn fr))), (au, .inr (10, [.ref t1, .ref t2, .ref t3, .ref t4, .ref t5, .ref t6, .ref t7, .int 0, .int 0])), (t1, .inl (cI, 4, .inl (cn 0))), (t2, .inl (cI, 4, .inl (cn 10))), (t3, .inl (cI, 4, .inl (cn 10))), (t4, .inl (cI, 4, .inl (cn (-1)))), (t5, .inl (cI, 4, .inl (cn 0))), (t6, .inl (cI, 4, .inl (cn 0))), (t7, .inl (cI, 4, .inl (cn 110))), (ab, .inr (7, [.ref b1, .ref b2, .int 0, .int 0])), (b1, .inl (cI, 200, .inl (cn 0))), (b2, .inl (cI, 200, .inl (cn 0))), (an, .inr (6, [.ref n1, .ref n2, .ref n3, .ref n4, .ref n5, .int 0, .int 0])), (n1, .inl (cI, 8, .inl (cn 7))), (n2, .inl (cI, 8, .inl (cn 1))), (n3, .inl (cI, 8, .inl (cn 110))), (n4, .inl (cI, 8, .inl (cn 0))), (n5, .inl (cI, 8, .inl (cn 0))), (ar, .inr (9, [.ref r1, .ref r2, .int 0])), (r1, .inl (cI, 8, .inl (cn 0))), (r2, .inl (cI, 8, .inl (cn 0))), (ak, .inr (8, [.ref ar, .int 105, .int 0, .int (-1), .int 0, .int 0, .int 0])), (ad, .inr (11, [.int (-1), .int 0, .int 0, .int 0, .int 0, .int 0]))] sz) t) (va_A [(ah, .inr (4, [.ref ac, .ref au, .ref ab, .ref an, .ref ak, .ref ad, .int tm, .int sl, .long en])), (ac, .inr (5, [.ref c1, .ref c2, .ref c3, .ref c4, .ref c5, .int 15])), (c1, .inl (cI, 4, .inl (cn 0))), (c2, .inl (cI, 4, .inl (cn 1))), (c3, .inl (cI, 4, .inl (cn 0))), (c4, .inl (cI, 4, .inl (cn tk))), (c5, .inl (cI, 4, .inl (cn fr))), (au, .inr (10, [.ref t1, .ref t2, .ref t3, .ref t4, .ref t5, .ref t6, .ref t7, .int 0, .int 0])), (t1, .inl (cI, 4, .inl (cn 0))), (t2, .inl (cI, 4, .inl (cn 10))), (t3, .inl (cI, 4, .inl (cn 10))), (t4, .inl (cI, 4, .inl (cn (-1)))), (t5, .inl (cI, 4, .inl (cn 0))), (t6, .inl (cI, 4, .inl (cn 0))), (t7, .inl (cI, 4, .inl (cn 110))), (ab, .inr (7, [.ref b1, .ref b2, .int 0, .int 0])), (b1, .inl (cI, 200, .inl (cn 0))), (b2, .inl (cI, 200, .inl (cn 0))), (an, .inr (6, [.ref n1, .ref n2, .ref n3, .ref n4, .ref n5, .int 0, .int 0])), (n1, .inl (cI, 8, .inl (cn 7))), (n2, .inl (cI, 8, .inl (cn 1))), (n3, .inl (cI, 8, .inl (cn 110))), (n4, .inl (cI, 8, .inl (cn 0))), (n5, .inl (cI, 8, .inl (cn 0))), (ar, .inr (9, [.ref r1, .ref r2, .int 0])), (r1, .inl (cI, 8, .inl (cn 0))), (r2, .inl (cI, 8, .inl (cn 0))), (ak, .inr (8, [.ref ar, .int 105, .int 0, .int (-1), .int 0, .int 0, .int 0])), (ad, .inr (11, [.int (-1), .int 0, .int 0, .int 0, .int 0, .int 0]))] sz)) 0 0 (va_A [(ah, .inr (4, [.ref ac, .ref au, .ref ab, .ref an, .ref ak, .ref ad, .int tm, .int sl, .long en])), (ac, .inr (5, [.ref c1, .ref c2, .ref c3, .ref c4, .ref c5, .int 15])), (c1, .inl (cI, 4, .inl (cn 0))), (c2, .inl (cI, 4, .inl (cn 1))), (c3, .inl (cI, 4, .inl (cn 0))), (c4, .inl (cI, 4, .inl (cn tk))), (c5, .inl (cI, 4, .inl (cn fr))), (au, .inr (10, [.ref t1, .ref t2, .ref t3, .ref t4, .ref t5, .ref t6, .ref t7, .int 0, .int 0])), (t1, .inl (cI, 4, .inl (cn 0))), (t2, .inl (cI, 4, .inl (cn 10))), (t3, .inl (cI, 4, .inl (cn 10))), (t4, .inl (cI, 4, .inl (cn (-1)))), (t5, .inl (cI, 4, .inl (cn 0))), (t6, .inl (cI, 4, .inl (cn 0))), (t7, .inl (cI, 4, .inl (cn 110))), (ab, .inr (7, [.ref b1, .ref b2, .int 0, .int 0])), (b1, .inl (cI, 200, .inl (cn 0))), (b2, .inl (cI, 200, .inl (cn 0))), (an, .inr (6, [.ref n1, .ref n2, .ref n3, .ref n4, .ref n5, .int 0, .int 0])), (n1, .inl (cI, 8, .inl (cn 7))), (n2, .inl (cI, 8, .inl (cn 1))), (n3, .inl (cI, 8, .inl (cn 110))), (n4, .inl (cI, 8, .inl (cn 0))), (n5, .inl (cI, 8, .inl (cn 0))), (ar, .inr (9, [.ref r1, .ref r2, .int 0])), (r1, .inl (cI, 8, .inl (cn 0))), (r2, .inl (cI, 8, .inl (cn 0))), (ak, .inr (8, [.ref ar, .int 105, .int 0, .int (-1), .int 0, .int 0, .int 0])), (ad, .inr (11, [.int (-1), .int 0, .int 0, .int 0, .int 0, .int 0]))] sz) := by
  refine Met.ofW (cc := cX0_goByBeats) (maxL := 4) (ret := (some .int)) (by decide) rfl ?_
  intro p e s m args below meth c s₁ B hml hv
  obtain ⟨rfl, hsz, hP, hK, hD0, hG⟩ := hv
  have hx := B.exec
  have hb := B.bytes
  have hr := B.returns
  have hts := atoms_spec (ws := wsX0_goByBeats) B.pre
  have hown : s.vm.findClass RX0 = some m.cls := findClass_of_methodNamed B.named
  have hlocks := B.notSynchronized
  subst hsz
  have hD := hD0.self (sz := s.heap.size)
  generalize hAe : va_A [(ah, .inr (4, [.ref ac, .ref au, .ref ab, .ref an, .ref ak, .ref ad, .int tm, .int sl, .long en])), (ac, .inr (5, [.ref c1, .ref c2, .ref c3, .ref c4, .ref c5, .int 15])), (c1, .inl (cI, 4, .inl (cn 0))), (c2, .inl (cI, 4, .inl (cn 1))), (c3, .inl (cI, 4, .inl (cn 0))), (c4, .inl (cI, 4, .inl (cn tk))), (c5, .inl (cI, 4, .inl (cn fr))), (au, .inr (10, [.ref t1, .ref t2, .ref t3, .ref t4, .ref t5, .ref t6, .ref t7, .int 0, .int 0])), (t1, .inl (cI, 4, .inl (cn 0))), (t2, .inl (cI, 4, .inl (cn 10))), (t3, .inl (cI, 4, .inl (cn 10))), (t4, .inl (cI, 4, .inl (cn (-1)))), (t5, .inl (cI, 4, .inl (cn 0))), (t6, .inl (cI, 4, .inl (cn 0))), (t7, .inl (cI, 4, .inl (cn 110))), (ab, .inr (7, [.ref b1, .ref b2, .int 0, .int 0])), (b1, .inl (cI, 200, .inl (cn 0))), (b2, .inl (cI, 200, .inl (cn 0))), (an, .inr (6, [.ref n1, .ref n2, .ref n3, .ref n4, .ref n5, .int 0, .int 0])), (n1, .inl (cI, 8, .inl (cn 7))), (n2, .inl (cI, 8, .inl (cn 1))), (n3, .inl (cI, 8, .inl (cn 110))), (n4, .inl (cI, 8, .inl (cn 0))), (n5, .inl (cI, 8, .inl (cn 0))), (ar, .inr (9, [.ref r1, .ref r2, .int 0])), (r1, .inl (cI, 8, .inl (cn 0))), (r2, .inl (cI, 8, .inl (cn 0))), (ak, .inr (8, [.ref ar, .int 105, .int 0, .int (-1), .int 0, .int 0, .int 0])), (ad, .inr (11, [.int (-1), .int 0, .int 0, .int 0, .int 0, .int 0]))] s.heap.size = A at hD hG ⊢
  have hN := hG.1
  have hA : ∀ q : Nat, s.heap.size ≤ q → A q := fun q h => by rw [← hAe]; exact Or.inr h
  have hS : va_S A s.heap s.heap [] := va_S.rf
  have hP : va_P (dC, dI) vwCl [(ah, .inr (4, [.ref ac, .ref au, .ref ab, .ref an, .ref ak, .ref ad, .int tm, .int sl, .long en])), (ac, .inr (5, [.ref c1, .ref c2, .ref c3, .ref c4, .ref c5, .int 15])), (c1, .inl (cI, 4, .inl (cn 0))), (c2, .inl (cI, 4, .inl (cn 1))), (c3, .inl (cI, 4, .inl (cn 0))), (c4, .inl (cI, 4, .inl (cn tk))), (c5, .inl (cI, 4, .inl (cn fr))), (au, .inr (10, [.ref t1, .ref t2, .ref t3, .ref t4, .ref t5, .ref t6, .ref t7, .int 0, .int 0])), (t1, .inl (cI, 4, .inl (cn 0))), (t2, .inl (cI, 4, .inl (cn 10))), (t3, .inl (cI, 4, .inl (cn 10))), (t4, .inl (cI, 4, .inl (cn (-1)))), (t5, .inl (cI, 4, .inl (cn 0))), (t6, .inl (cI, 4, .inl (cn 0))), (t7, .inl (cI, 4, .inl (cn 110))), (ab, .inr (7, [.ref b1, .ref b2, .int 0, .int 0])), (b1, .inl (cI, 200, .inl (cn 0))), (b2, .inl (cI, 200, .inl (cn 0))), (an, .inr (6, [.ref n1, .ref n2, .ref n3, .ref n4, .ref n5, .int 0, .int 0])), (n1, .inl (cI, 8, .inl (cn 7))), (n2, .inl (cI, 8, .inl (cn 1))), (n3, .inl (cI, 8, .inl (cn 110))), (n4, .inl (cI, 8, .inl (cn 0))), (n5, .inl (cI, 8, .inl (cn 0))), (ar, .inr (9, [.ref r1, .ref r2, .int 0])), (r1, .inl (cI, 8, .inl (cn 0))), (r2, .inl (cI, 8, .inl (cn 0))), (ak, .inr (8, [.ref ar, .int 105, .int 0, .int (-1), .int 0, .int 0, .int 0])), (ad, .inr (11, [.int (-1), .int 0, .int 0, .int 0, .int 0, .int 0]))] s.heap := hP
  have hw0 : (Cond.fieldLink RX0 28 "Tickstation$Chip" "probe" "LTickstation$Probe;").before _ s = true := hts _ (List.mem_cons_of_mem _ (List.mem_append_left _ (List.mem_append_left _ (List.mem_append_left _ (List.mem_append_left _ (List.mem_append_left _ (List.mem_append_left _ (List.mem_append_left _ (List.mem_append_left _ (List.mem_append_left _ (List.mem_append_left _ (List.mem_of_getElem? (i := 0) rfl))))))))))))
  have hiX0 : ∀ w ∈ u_ws RX0 TX0 9, w ∈ wsX0_goByBeats := fun _ h => List.mem_cons_of_mem _ (List.mem_append_left _ (List.mem_append_left _ (List.mem_append_left _ (List.mem_append_left _ (List.mem_append_left _ (List.mem_append_left _ (List.mem_append_left _ (List.mem_append_left _ (List.mem_append_right _ (h))))))))))
  have hw2 : (Cond.fieldLink RX0 53 "Tickstation$Probe" "edges" "I").before _ s = true := hts _ (List.mem_cons_of_mem _ (List.mem_append_left _ (List.mem_append_left _ (List.mem_append_left _ (List.mem_append_left _ (List.mem_append_left _ (List.mem_append_left _ (List.mem_append_left _ (List.mem_append_left _ (List.mem_append_left _ (List.mem_append_left _ (List.mem_of_getElem? (i := 1) rfl))))))))))))
  have hiX3 : ∀ w ∈ u_ws RX3 TX3 4, w ∈ wsX0_goByBeats := fun _ h => List.mem_cons_of_mem _ (List.mem_append_left _ (List.mem_append_left _ (List.mem_append_left _ (List.mem_append_left _ (List.mem_append_left _ (List.mem_append_left _ (List.mem_append_left _ (List.mem_append_right _ (h)))))))))
  have hl := lv_entry ([.ref ah, .int (nI N)]) (n := 4) (Nat.le_of_ble_eq_true rfl)
  rw [lg_entry_eq]
  generalize (lg_sl ([.ref ah, .int (nI N)]) ++ List.replicate (4 - (lg_sl ([.ref ah, .int (nI N)])).length) Slot.unset).toArray = ls at hl ⊢
  have hl : lv_has ls 4 [(0, .ref ah), (1, .int (nI N))] := hl
  refine lv_aload_n hx hb dX0_goByBeats_0 rfl (lv_at hl 0 rfl) ?_
  refine va_get (D := (dC, dI)) (ci := 4) (v := .ref ab) (C := RX0) (T := TX0) (N := 9) hx hb hts hiX0 hown hK hP 0 rfl rfl 2 (by decide) (hw0) (fun _ h9 => h9) rfl dX0_goByBeats_1 ?_
  refine va_get (D := (dC, dI)) (ci := 7) (v := .int 0) (C := RX3) (T := TX3) (N := 4) hx hb hts hiX3 hown hK hP 15 rfl rfl 3 (by decide) (hw2) (fun _ h9 => h9) rfl dX0_goByBeats_4 ?_
  refine lv_istore_n (lv' := [(2, .int 0), (0, .ref ah), (1, .int (nI N))]) hx hb dX0_goByBeats_7 rfl hl (by decide) rfl (fun ls hl => ?_)
  refine lv_iconst (v := 0) hx hb dX0_goByBeats_8 (by decide) ?_
  refine lv_istore_n (lv' := [(3, .int 0), (2, .int 0), (0, .ref ah), (1, .int (nI N))]) hx hb dX0_goByBeats_9 rfl hl (by decide) rfl (fun ls hl => ?_)
  have loop : ∀ (kf : Nat) (j : Nat) (i1 : Int32) (tm1 : Int32) (en1 : Int64) (tk1 : Int32) (fr1 : Int32) (H : Heap) (locs : List Loc) (ls : Array Slot), (i1 = nI j) → (tm1 = tm + nI j) → (en1 = en + lN (5 * j)) → (tk1 = tk + nI j) → (j ≤ N) → (N < j + kf) → va_P (dC, dI) vwCl [(ah, .inr (4, [.ref ac, .ref au, .ref ab, .ref an, .ref ak, .ref ad, .int tm1, .int sl, .long en1])), (ac, .inr (5, [.ref c1, .ref c2, .ref c3, .ref c4, .ref c5, .int 15])), (c1, .inl (cI, 4, .inl (cn 0))), (c2, .inl (cI, 4, .inl (cn 1))), (c3, .inl (cI, 4, .inl (cn 0))), (c4, .inl (cI, 4, .inl (cn tk1))), (c5, .inl (cI, 4, .inl (cn fr1))), (au, .inr (10, [.ref t1, .ref t2, .ref t3, .ref t4, .ref t5, .ref t6, .ref t7, .int 0, .int 0])), (t1, .inl (cI, 4, .inl (cn 0))), (t2, .inl (cI, 4, .inl (cn 10))), (t3, .inl (cI, 4, .inl (cn 10))), (t4, .inl (cI, 4, .inl (cn (-1)))), (t5, .inl (cI, 4, .inl (cn 0))), (t6, .inl (cI, 4, .inl (cn 0))), (t7, .inl (cI, 4, .inl (cn 110))), (ab, .inr (7, [.ref b1, .ref b2, .int 0, .int 0])), (b1, .inl (cI, 200, .inl (cn 0))), (b2, .inl (cI, 200, .inl (cn 0))), (an, .inr (6, [.ref n1, .ref n2, .ref n3, .ref n4, .ref n5, .int 0, .int 0])), (n1, .inl (cI, 8, .inl (cn 7))), (n2, .inl (cI, 8, .inl (cn 1))), (n3, .inl (cI, 8, .inl (cn 110))), (n4, .inl (cI, 8, .inl (cn 0))), (n5, .inl (cI, 8, .inl (cn 0))), (ar, .inr (9, [.ref r1, .ref r2, .int 0])), (r1, .inl (cI, 8, .inl (cn 0))), (r2, .inl (cI, 8, .inl (cn 0))), (ak, .inr (8, [.ref ar, .int 105, .int 0, .int (-1), .int 0, .int 0, .int 0])), (ad, .inr (11, [.int (-1), .int 0, .int 0, .int 0, .int 0, .int 0]))] H → va_D A [(ah, .inr (4, [.ref ac, .ref au, .ref ab, .ref an, .ref ak, .ref ad, .int tm1, .int sl, .long en1])), (ac, .inr (5, [.ref c1, .ref c2, .ref c3, .ref c4, .ref c5, .int 15])), (c1, .inl (cI, 4, .inl (cn 0))), (c2, .inl (cI, 4, .inl (cn 1))), (c3, .inl (cI, 4, .inl (cn 0))), (c4, .inl (cI, 4, .inl (cn tk1))), (c5, .inl (cI, 4, .inl (cn fr1))), (au, .inr (10, [.ref t1, .ref t2, .ref t3, .ref t4, .ref t5, .ref t6, .ref t7, .int 0, .int 0])), (t1, .inl (cI, 4, .inl (cn 0))), (t2, .inl (cI, 4, .inl (cn 10))), (t3, .inl (cI, 4, .inl (cn 10))), (t4, .inl (cI, 4, .inl (cn (-1)))), (t5, .inl (cI, 4, .inl (cn 0))), (t6, .inl (cI, 4, .inl (cn 0))), (t7, .inl (cI, 4, .inl (cn 110))), (ab, .inr (7, [.ref b1, .ref b2, .int 0, .int 0])), (b1, .inl (cI, 200, .inl (cn 0))), (b2, .inl (cI, 200, .inl (cn 0))), (an, .inr (6, [.ref n1, .ref n2, .ref n3, .ref n4, .ref n5, .int 0, .int 0])), (n1, .inl (cI, 8, .inl (cn 7))), (n2, .inl (cI, 8, .inl (cn 1))), (n3, .inl (cI, 8, .inl (cn 110))), (n4, .inl (cI, 8, .inl (cn 0))), (n5, .inl (cI, 8, .inl (cn 0))), (ar, .inr (9, [.ref r1, .ref r2, .int 0])), (r1, .inl (cI, 8, .inl (cn 0))), (r2, .inl (cI, 8, .inl (cn 0))), (ak, .inr (8, [.ref ar, .int 105, .int 0, .int (-1), .int 0, .int 0, .int 0])), (ad, .inr (11, [.int (-1), .int 0, .int 0, .int 0, .int 0, .int 0]))] → va_S A s.heap H locs → lv_has ls 4 [(3, .int i1), (2, .int 0), (0, .ref ah), (1, .int (nI N))] → W p l e (headSpec wsX0_goByBeats ({ frames := 3, cells := 0, slots := 0, locals := 67 } : Room)).room s m ([.ref ah, .int (nI N)] : List Value).toArray below meth c H locs 0 0 (MQ below (va_Qi (fun (r : Int32) (u : Int32 × Int64 × Int32 × Int32) => r = 0 ∧ u.1 = tm + nI N ∧ u.2.1 = en + lN (5 * N) ∧ u.2.2.1 = tk + nI N) (fun (u : Int32 × Int64 × Int32 × Int32) (t : State) => wOut dC dI [(ah, .inr (4, [.ref ac, .ref au, .ref ab, .ref an, .ref ak, .ref ad, .int u.1, .int sl, .long u.2.1])), (ac, .inr (5, [.ref c1, .ref c2, .ref c3, .ref c4, .ref c5, .int 15])), (c1, .inl (cI, 4, .inl (cn 0))), (c2, .inl (cI, 4, .inl (cn 1))), (c3, .inl (cI, 4, .inl (cn 0))), (c4, .inl (cI, 4, .inl (cn u.2.2.1))), (c5, .inl (cI, 4, .inl (cn u.2.2.2))), (au, .inr (10, [.ref t1, .ref t2, .ref t3, .ref t4, .ref t5, .ref t6, .ref t7, .int 0, .int 0])), (t1, .inl (cI, 4, .inl (cn 0))), (t2, .inl (cI, 4, .inl (cn 10))), (t3, .inl (cI, 4, .inl (cn 10))), (t4, .inl (cI, 4, .inl (cn (-1)))), (t5, .inl (cI, 4, .inl (cn 0))), (t6, .inl (cI, 4, .inl (cn 0))), (t7, .inl (cI, 4, .inl (cn 110))), (ab, .inr (7, [.ref b1, .ref b2, .int 0, .int 0])), (b1, .inl (cI, 200, .inl (cn 0))), (b2, .inl (cI, 200, .inl (cn 0))), (an, .inr (6, [.ref n1, .ref n2, .ref n3, .ref n4, .ref n5, .int 0, .int 0])), (n1, .inl (cI, 8, .inl (cn 7))), (n2, .inl (cI, 8, .inl (cn 1))), (n3, .inl (cI, 8, .inl (cn 110))), (n4, .inl (cI, 8, .inl (cn 0))), (n5, .inl (cI, 8, .inl (cn 0))), (ar, .inr (9, [.ref r1, .ref r2, .int 0])), (r1, .inl (cI, 8, .inl (cn 0))), (r2, .inl (cI, 8, .inl (cn 0))), (ak, .inr (8, [.ref ar, .int 105, .int 0, .int (-1), .int 0, .int 0, .int 0])), (ad, .inr (11, [.int (-1), .int 0, .int 0, .int 0, .int 0, .int 0]))] [(cI, .int)] A t) A) ([.ref ah, .int (nI N)] : List Value).toArray s 0 0 A) (F0 m 10 ls []) := by
    intro kf
    induction kf with
    | zero =>
      intro j i1 tm1 en1 tk1 fr1 H locs ls i_0 i_1 i_2 i_3 i_4 i_k
      exact absurd i_k (by omega)
    | succ kf ih =>
      intro j i1 tm1 en1 tk1 fr1 H locs ls i_0 i_1 i_2 i_3 i_4 i_k hP hD hS hl
      refine lv_iload_n hx hb dX0_goByBeats_10 rfl (lv_at hl 0 rfl) ?_
      refine lv_iload_n hx hb dX0_goByBeats_11 rfl (lv_at hl 3 rfl) ?_
      refine lv_icmp_ge (tgt := 25) hx hb dX0_goByBeats_12 (by decide) (fun c_12 => ?_) (fun c_12 => ?_)
      · have hge : j = N := Nat.le_antisymm i_4 (Nat.le_of_not_lt (fun q => nI_ge q (by omega) (by rw [i_0] at c_12; exact c_12)))
        rw [hge] at i_1 i_2 i_3
        refine lv_aload_n hx hb dX0_goByBeats_25 rfl (lv_at hl 2 rfl) ?_
        refine va_get (D := (dC, dI)) (ci := 4) (v := .ref ab) (C := RX0) (T := TX0) (N := 9) hx hb hts hiX0 hown hK hP 0 rfl rfl 2 (by decide) (hw0) (fun _ h9 => h9) rfl dX0_goByBeats_26 ?_
        refine va_get (D := (dC, dI)) (ci := 7) (v := .int 0) (C := RX3) (T := TX3) (N := 4) hx hb hts hiX3 hown hK hP 15 rfl rfl 3 (by decide) (hw2) (fun _ h9 => h9) rfl dX0_goByBeats_29 ?_
        refine lv_iload_n hx hb dX0_goByBeats_32 rfl (lv_at hl 1 rfl) ?_
        refine lv_isub hx hb dX0_goByBeats_33 ?_
        refine lt_ci (y := 0) (by first | rfl | decide) ?_
        have hP9 := hP.sub (ws' := [(ah, .inr (4, [.ref ac, .ref au, .ref ab, .ref an, .ref ak, .ref ad, .int tm1, .int sl, .long en1])), (ac, .inr (5, [.ref c1, .ref c2, .ref c3, .ref c4, .ref c5, .int 15])), (c1, .inl (cI, 4, .inl (cn 0))), (c2, .inl (cI, 4, .inl (cn 1))), (c3, .inl (cI, 4, .inl (cn 0))), (c4, .inl (cI, 4, .inl (cn tk1))), (c5, .inl (cI, 4, .inl (cn fr1))), (au, .inr (10, [.ref t1, .ref t2, .ref t3, .ref t4, .ref t5, .ref t6, .ref t7, .int 0, .int 0])), (t1, .inl (cI, 4, .inl (cn 0))), (t2, .inl (cI, 4, .inl (cn 10))), (t3, .inl (cI, 4, .inl (cn 10))), (t4, .inl (cI, 4, .inl (cn (-1)))), (t5, .inl (cI, 4, .inl (cn 0))), (t6, .inl (cI, 4, .inl (cn 0))), (t7, .inl (cI, 4, .inl (cn 110))), (ab, .inr (7, [.ref b1, .ref b2, .int 0, .int 0])), (b1, .inl (cI, 200, .inl (cn 0))), (b2, .inl (cI, 200, .inl (cn 0))), (an, .inr (6, [.ref n1, .ref n2, .ref n3, .ref n4, .ref n5, .int 0, .int 0])), (n1, .inl (cI, 8, .inl (cn 7))), (n2, .inl (cI, 8, .inl (cn 1))), (n3, .inl (cI, 8, .inl (cn 110))), (n4, .inl (cI, 8, .inl (cn 0))), (n5, .inl (cI, 8, .inl (cn 0))), (ar, .inr (9, [.ref r1, .ref r2, .int 0])), (r1, .inl (cI, 8, .inl (cn 0))), (r2, .inl (cI, 8, .inl (cn 0))), (ak, .inr (8, [.ref ar, .int 105, .int 0, .int (-1), .int 0, .int 0, .int 0])), (ad, .inr (11, [.int (-1), .int 0, .int 0, .int 0, .int 0, .int 0]))]) [0, 1, 2, 3, 4, 5, 6, 7, 8, 9, 10, 11, 12, 13, 14, 15, 16, 17, 18, 19, 20, 21, 22, 23, 24, 25, 26, 27, 28] rfl
        have hD9 := hD.sub (ws' := [(ah, .inr (4, [.ref ac, .ref au, .ref ab, .ref an, .ref ak, .ref ad, .int tm1, .int sl, .long en1])), (ac, .inr (5, [.ref c1, .ref c2, .ref c3, .ref c4, .ref c5, .int 15])), (c1, .inl (cI, 4, .inl (cn 0))), (c2, .inl (cI, 4, .inl (cn 1))), (c3, .inl (cI, 4, .inl (cn 0))), (c4, .inl (cI, 4, .inl (cn tk1))), (c5, .inl (cI, 4, .inl (cn fr1))), (au, .inr (10, [.ref t1, .ref t2, .ref t3, .ref t4, .ref t5, .ref t6, .ref t7, .int 0, .int 0])), (t1, .inl (cI, 4, .inl (cn 0))), (t2, .inl (cI, 4, .inl (cn 10))), (t3, .inl (cI, 4, .inl (cn 10))), (t4, .inl (cI, 4, .inl (cn (-1)))), (t5, .inl (cI, 4, .inl (cn 0))), (t6, .inl (cI, 4, .inl (cn 0))), (t7, .inl (cI, 4, .inl (cn 110))), (ab, .inr (7, [.ref b1, .ref b2, .int 0, .int 0])), (b1, .inl (cI, 200, .inl (cn 0))), (b2, .inl (cI, 200, .inl (cn 0))), (an, .inr (6, [.ref n1, .ref n2, .ref n3, .ref n4, .ref n5, .int 0, .int 0])), (n1, .inl (cI, 8, .inl (cn 7))), (n2, .inl (cI, 8, .inl (cn 1))), (n3, .inl (cI, 8, .inl (cn 110))), (n4, .inl (cI, 8, .inl (cn 0))), (n5, .inl (cI, 8, .inl (cn 0))), (ar, .inr (9, [.ref r1, .ref r2, .int 0])), (r1, .inl (cI, 8, .inl (cn 0))), (r2, .inl (cI, 8, .inl (cn 0))), (ak, .inr (8, [.ref ar, .int 105, .int 0, .int (-1), .int 0, .int 0, .int 0])), (ad, .inr (11, [.int (-1), .int 0, .int 0, .int 0, .int 0, .int 0]))]) [0, 1, 2, 3, 4, 5, 6, 7, 8, 9, 10, 11, 12, 13, 14, 15, 16, 17, 18, 19, 20, 21, 22, 23, 24, 25, 26, 27, 28] (by decide) rfl
        have hK9 := hK.sub (tys' := [(cI, .int)]) [0] rfl
        exact W.iret (v := 0) hx hb hr (fun t ht hW => ⟨⟨0, (tm1, en1, tk1, fr1), rfl, ⟨rfl, i_1, i_2, i_3⟩, wOut_at ht hW hP9 hK9 hD9⟩, hS.F ht⟩) hS.2.2 dX0_goByBeats_34
      · have hlt : j < N := Nat.lt_of_not_le (fun q => c_12 (by rw [i_0]; exact nI_le q (by omega)))
        refine lv_aload_n hx hb dX0_goByBeats_15 rfl (lv_at hl 2 rfl) ?_
        have hPc := hP.sub (ws' := [(ah, .inr (4, [.ref ac, .ref au, .ref ab, .ref an, .ref ak, .ref ad, .int tm1, .int sl, .long en1])), (ac, .inr (5, [.ref c1, .ref c2, .ref c3, .ref c4, .ref c5, .int 15])), (c1, .inl (cI, 4, .inl (cn 0))), (c2, .inl (cI, 4, .inl (cn 1))), (c3, .inl (cI, 4, .inl (cn 0))), (c4, .inl (cI, 4, .inl (cn tk1))), (c5, .inl (cI, 4, .inl (cn fr1))), (au, .inr (10, [.ref t1, .ref t2, .ref t3, .ref t4, .ref t5, .ref t6, .ref t7, .int 0, .int 0])), (t1, .inl (cI, 4, .inl (cn 0))), (t2, .inl (cI, 4, .inl (cn 10))), (t3, .inl (cI, 4, .inl (cn 10))), (t4, .inl (cI, 4, .inl (cn (-1)))), (t5, .inl (cI, 4, .inl (cn 0))), (t6, .inl (cI, 4, .inl (cn 0))), (t7, .inl (cI, 4, .inl (cn 110))), (ab, .inr (7, [.ref b1, .ref b2, .int 0, .int 0])), (b1, .inl (cI, 200, .inl (cn 0))), (b2, .inl (cI, 200, .inl (cn 0))), (an, .inr (6, [.ref n1, .ref n2, .ref n3, .ref n4, .ref n5, .int 0, .int 0])), (n1, .inl (cI, 8, .inl (cn 7))), (n2, .inl (cI, 8, .inl (cn 1))), (n3, .inl (cI, 8, .inl (cn 110))), (n4, .inl (cI, 8, .inl (cn 0))), (n5, .inl (cI, 8, .inl (cn 0))), (ar, .inr (9, [.ref r1, .ref r2, .int 0])), (r1, .inl (cI, 8, .inl (cn 0))), (r2, .inl (cI, 8, .inl (cn 0))), (ak, .inr (8, [.ref ar, .int 105, .int 0, .int (-1), .int 0, .int 0, .int 0])), (ad, .inr (11, [.int (-1), .int 0, .int 0, .int 0, .int 0, .int 0]))]) [0, 1, 2, 3, 4, 5, 6, 7, 8, 9, 10, 11, 12, 13, 14, 15, 16, 17, 18, 19, 20, 21, 22, 23, 24, 25, 26, 27, 28] rfl
        have hDc := hD.sub (ws' := [(ah, .inr (4, [.ref ac, .ref au, .ref ab, .ref an, .ref ak, .ref ad, .int tm1, .int sl, .long en1])), (ac, .inr (5, [.ref c1, .ref c2, .ref c3, .ref c4, .ref c5, .int 15])), (c1, .inl (cI, 4, .inl (cn 0))), (c2, .inl (cI, 4, .inl (cn 1))), (c3, .inl (cI, 4, .inl (cn 0))), (c4, .inl (cI, 4, .inl (cn tk1))), (c5, .inl (cI, 4, .inl (cn fr1))), (au, .inr (10, [.ref t1, .ref t2, .ref t3, .ref t4, .ref t5, .ref t6, .ref t7, .int 0, .int 0])), (t1, .inl (cI, 4, .inl (cn 0))), (t2, .inl (cI, 4, .inl (cn 10))), (t3, .inl (cI, 4, .inl (cn 10))), (t4, .inl (cI, 4, .inl (cn (-1)))), (t5, .inl (cI, 4, .inl (cn 0))), (t6, .inl (cI, 4, .inl (cn 0))), (t7, .inl (cI, 4, .inl (cn 110))), (ab, .inr (7, [.ref b1, .ref b2, .int 0, .int 0])), (b1, .inl (cI, 200, .inl (cn 0))), (b2, .inl (cI, 200, .inl (cn 0))), (an, .inr (6, [.ref n1, .ref n2, .ref n3, .ref n4, .ref n5, .int 0, .int 0])), (n1, .inl (cI, 8, .inl (cn 7))), (n2, .inl (cI, 8, .inl (cn 1))), (n3, .inl (cI, 8, .inl (cn 110))), (n4, .inl (cI, 8, .inl (cn 0))), (n5, .inl (cI, 8, .inl (cn 0))), (ar, .inr (9, [.ref r1, .ref r2, .int 0])), (r1, .inl (cI, 8, .inl (cn 0))), (r2, .inl (cI, 8, .inl (cn 0))), (ak, .inr (8, [.ref ar, .int 105, .int 0, .int (-1), .int 0, .int 0, .int 0])), (ad, .inr (11, [.int (-1), .int 0, .int 0, .int 0, .int 0, .int 0]))]) [0, 1, 2, 3, 4, 5, 6, 7, 8, 9, 10, 11, 12, 13, 14, 15, 16, 17, 18, 19, 20, 21, 22, 23, 24, 25, 26, 27, 28] (by decide) rfl
        have hKc := hK.sub (tys' := [(cI, .int)]) [0] rfl
        have hFc := va_free (wc := [(ah, .inr (4, [.ref ac, .ref au, .ref ab, .ref an, .ref ak, .ref ad, .int tm1, .int sl, .long en1])), (ac, .inr (5, [.ref c1, .ref c2, .ref c3, .ref c4, .ref c5, .int 15])), (c1, .inl (cI, 4, .inl (cn 0))), (c2, .inl (cI, 4, .inl (cn 1))), (c3, .inl (cI, 4, .inl (cn 0))), (c4, .inl (cI, 4, .inl (cn tk1))), (c5, .inl (cI, 4, .inl (cn fr1))), (au, .inr (10, [.ref t1, .ref t2, .ref t3, .ref t4, .ref t5, .ref t6, .ref t7, .int 0, .int 0])), (t1, .inl (cI, 4, .inl (cn 0))), (t2, .inl (cI, 4, .inl (cn 10))), (t3, .inl (cI, 4, .inl (cn 10))), (t4, .inl (cI, 4, .inl (cn (-1)))), (t5, .inl (cI, 4, .inl (cn 0))), (t6, .inl (cI, 4, .inl (cn 0))), (t7, .inl (cI, 4, .inl (cn 110))), (ab, .inr (7, [.ref b1, .ref b2, .int 0, .int 0])), (b1, .inl (cI, 200, .inl (cn 0))), (b2, .inl (cI, 200, .inl (cn 0))), (an, .inr (6, [.ref n1, .ref n2, .ref n3, .ref n4, .ref n5, .int 0, .int 0])), (n1, .inl (cI, 8, .inl (cn 7))), (n2, .inl (cI, 8, .inl (cn 1))), (n3, .inl (cI, 8, .inl (cn 110))), (n4, .inl (cI, 8, .inl (cn 0))), (n5, .inl (cI, 8, .inl (cn 0))), (ar, .inr (9, [.ref r1, .ref r2, .int 0])), (r1, .inl (cI, 8, .inl (cn 0))), (r2, .inl (cI, 8, .inl (cn 0))), (ak, .inr (8, [.ref ar, .int 105, .int 0, .int (-1), .int 0, .int 0, .int 0])), (ad, .inr (11, [.int (-1), .int 0, .int 0, .int 0, .int 0, .int 0]))]) hD hS hA [0, 1, 2, 3, 4, 5, 6, 7, 8, 9, 10, 11, 12, 13, 14, 15, 16, 17, 18, 19, 20, 21, 22, 23, 24, 25, 26, 27, 28] rfl
        refine va_callv (va_runV (As := []) (rest := []) ⟨hx, hb, hml, hown, hts⟩ (c_X0_goBeat l dC dI g ah ac c1 c2 c3 c4 c5 au t1 t2 t3 t4 t5 t6 t7 ab b1 b2 an n1 n2 n3 n4 n5 ar r1 r2 ak ad cI tm1 sl tk1 fr1 en1 H.size) (cwV 0 hts gX0_goByBeats_X0_goBeat rfl rfl rfl (by decide +kernel) ⟨Nat.le_of_ble_eq_true rfl, Nat.le_of_ble_eq_true rfl⟩) ⟨wIn_blind, va_recv hK hP (ci := 4) (q0 := 0) rfl rfl, wIn_at hPc hKc hDc hG hS hFc⟩ rfl rfl hl.1 rfl (lv_room (Nat.le_of_ble_eq_true rfl)) dX0_goByBeats_16 ⟨Nat.le_of_ble_eq_true rfl, Nat.le_of_ble_eq_true rfl⟩) hS (fun q _ h => hFc q h) hFc (fun u t H1 locs ht hvm hw hB hz1 hk1 hS => ?_)
        obtain ⟨hP1, hK1, hD1⟩ := hB
        rw [ht] at hP1
        obtain ⟨hP, hD⟩ := va_join (wr := []) (w1 := [(ah, .inr (4, [.ref ac, .ref au, .ref ab, .ref an, .ref ak, .ref ad, .int (tm1 + 1), .int sl, .long (en1 + 5)])), (ac, .inr (5, [.ref c1, .ref c2, .ref c3, .ref c4, .ref c5, .int 15])), (c1, .inl (cI, 4, .inl (cn 0))), (c2, .inl (cI, 4, .inl (cn 1))), (c3, .inl (cI, 4, .inl (cn 0))), (c4, .inl (cI, 4, .inl (cn (tk1 + 1)))), (c5, .inl (cI, 4, .inl (cn 1))), (au, .inr (10, [.ref t1, .ref t2, .ref t3, .ref t4, .ref t5, .ref t6, .ref t7, .int 0, .int 0])), (t1, .inl (cI, 4, .inl (cn 0))), (t2, .inl (cI, 4, .inl (cn 10))), (t3, .inl (cI, 4, .inl (cn 10))), (t4, .inl (cI, 4, .inl (cn (-1)))), (t5, .inl (cI, 4, .inl (cn 0))), (t6, .inl (cI, 4, .inl (cn 0))), (t7, .inl (cI, 4, .inl (cn 110))), (ab, .inr (7, [.ref b1, .ref b2, .int 0, .int 0])), (b1, .inl (cI, 200, .inl (cn 0))), (b2, .inl (cI, 200, .inl (cn 0))), (an, .inr (6, [.ref n1, .ref n2, .ref n3, .ref n4, .ref n5, .int 0, .int 0])), (n1, .inl (cI, 8, .inl (cn 7))), (n2, .inl (cI, 8, .inl (cn 1))), (n3, .inl (cI, 8, .inl (cn 110))), (n4, .inl (cI, 8, .inl (cn 0))), (n5, .inl (cI, 8, .inl (cn 0))), (ar, .inr (9, [.ref r1, .ref r2, .int 0])), (r1, .inl (cI, 8, .inl (cn 0))), (r2, .inl (cI, 8, .inl (cn 0))), (ak, .inr (8, [.ref ar, .int 105, .int 0, .int (-1), .int 0, .int 0, .int 0])), (ad, .inr (11, [.int (-1), .int 0, .int 0, .int 0, .int 0, .int 0]))]) hP hD [0, 1, 2, 3, 4, 5, 6, 7, 8, 9, 10, 11, 12, 13, 14, 15, 16, 17, 18, 19, 20, 21, 22, 23, 24, 25, 26, 27, 28] [] rfl rfl (by decide) (by decide) hk1 hFc hP1 hD1
        generalize H1 = H at hP hS ⊢
        have hP : va_P (dC, dI) vwCl [(ah, .inr (4, [.ref ac, .ref au, .ref ab, .ref an, .ref ak, .ref ad, .int (tm1 + 1), .int sl, .long (en1 + 5)])), (ac, .inr (5, [.ref c1, .ref c2, .ref c3, .ref c4, .ref c5, .int 15])), (c1, .inl (cI, 4, .inl (cn 0))), (c2, .inl (cI, 4, .inl (cn 1))), (c3, .inl (cI, 4, .inl (cn 0))), (c4, .inl (cI, 4, .inl (cn (tk1 + 1)))), (c5, .inl (cI, 4, .inl (cn 1))), (au, .inr (10, [.ref t1, .ref t2, .ref t3, .ref t4, .ref t5, .ref t6, .ref t7, .int 0, .int 0])), (t1, .inl (cI, 4, .inl (cn 0))), (t2, .inl (cI, 4, .inl (cn 10))), (t3, .inl (cI, 4, .inl (cn 10))), (t4, .inl (cI, 4, .inl (cn (-1)))), (t5, .inl (cI, 4, .inl (cn 0))), (t6, .inl (cI, 4, .inl (cn 0))), (t7, .inl (cI, 4, .inl (cn 110))), (ab, .inr (7, [.ref b1, .ref b2, .int 0, .int 0])), (b1, .inl (cI, 200, .inl (cn 0))), (b2, .inl (cI, 200, .inl (cn 0))), (an, .inr (6, [.ref n1, .ref n2, .ref n3, .ref n4, .ref n5, .int 0, .int 0])), (n1, .inl (cI, 8, .inl (cn 7))), (n2, .inl (cI, 8, .inl (cn 1))), (n3, .inl (cI, 8, .inl (cn 110))), (n4, .inl (cI, 8, .inl (cn 0))), (n5, .inl (cI, 8, .inl (cn 0))), (ar, .inr (9, [.ref r1, .ref r2, .int 0])), (r1, .inl (cI, 8, .inl (cn 0))), (r2, .inl (cI, 8, .inl (cn 0))), (ak, .inr (8, [.ref ar, .int 105, .int 0, .int (-1), .int 0, .int 0, .int 0])), (ad, .inr (11, [.int (-1), .int 0, .int 0, .int 0, .int 0, .int 0]))] H := hP
        have hD : va_D A [(ah, .inr (4, [.ref ac, .ref au, .ref ab, .ref an, .ref ak, .ref ad, .int (tm1 + 1), .int sl, .long (en1 + 5)])), (ac, .inr (5, [.ref c1, .ref c2, .ref c3, .ref c4, .ref c5, .int 15])), (c1, .inl (cI, 4, .inl (cn 0))), (c2, .inl (cI, 4, .inl (cn 1))), (c3, .inl (cI, 4, .inl (cn 0))), (c4, .inl (cI, 4, .inl (cn (tk1 + 1)))), (c5, .inl (cI, 4, .inl (cn 1))), (au, .inr (10, [.ref t1, .ref t2, .ref t3, .ref t4, .ref t5, .ref t6, .ref t7, .int 0, .int 0])), (t1, .inl (cI, 4, .inl (cn 0))), (t2, .inl (cI, 4, .inl (cn 10))), (t3, .inl (cI, 4, .inl (cn 10))), (t4, .inl (cI, 4, .inl (cn (-1)))), (t5, .inl (cI, 4, .inl (cn 0))), (t6, .inl (cI, 4, .inl (cn 0))), (t7, .inl (cI, 4, .inl (cn 110))), (ab, .inr (7, [.ref b1, .ref b2, .int 0, .int 0])), (b1, .inl (cI, 200, .inl (cn 0))), (b2, .inl (cI, 200, .inl (cn 0))), (an, .inr (6, [.ref n1, .ref n2, .ref n3, .ref n4, .ref n5, .int 0, .int 0])), (n1, .inl (cI, 8, .inl (cn 7))), (n2, .inl (cI, 8, .inl (cn 1))), (n3, .inl (cI, 8, .inl (cn 110))), (n4, .inl (cI, 8, .inl (cn 0))), (n5, .inl (cI, 8, .inl (cn 0))), (ar, .inr (9, [.ref r1, .ref r2, .int 0])), (r1, .inl (cI, 8, .inl (cn 0))), (r2, .inl (cI, 8, .inl (cn 0))), (ak, .inr (8, [.ref ar, .int 105, .int 0, .int (-1), .int 0, .int 0, .int 0])), (ad, .inr (11, [.int (-1), .int 0, .int 0, .int 0, .int 0, .int 0]))] := hD
        refine lv_iinc (v := (i1 + 1)) (lv' := [(3, .int (i1 + 1)), (2, .int 0), (0, .ref ah), (1, .int (nI N))]) hx hb dX0_goByBeats_19 hl (k := 0) rfl (by first | rfl | decide) (by decide) rfl (fun ls hl => ?_)
        refine lv_goto (tgt := 10) hx hb dX0_goByBeats_22 (by decide) ?_
        exact ih (j + 1) (i1 + 1) (tm1 + 1) (en1 + 5) (tk1 + 1) 1 _ _ _ (by rw [i_0]; exact nI_1 j) (by rw [i_1]; exact a_s tm j) (by rw [i_2]; exact a_sl en j) (by rw [i_3]; exact a_s tk j) hlt (by omega) (hP.sub [0, 1, 2, 3, 4, 5, 6, 7, 8, 9, 10, 11, 12, 13, 14, 15, 16, 17, 18, 19, 20, 21, 22, 23, 24, 25, 26, 27, 28] rfl) (hD.sub [0, 1, 2, 3, 4, 5, 6, 7, 8, 9, 10, 11, 12, 13, 14, 15, 16, 17, 18, 19, 20, 21, 22, 23, 24, 25, 26, 27, 28] (by decide) rfl) hS (lv_sub hl [0, 1, 2, 3] rfl)
  exact loop (N + 1) 0 0 tm en tk fr _ _ _ nI_0.symm (a_z tm).symm (a_zl en).symm (a_z tk).symm (Nat.zero_le N) (by omega) (hP.sub [0, 1, 2, 3, 4, 5, 6, 7, 8, 9, 10, 11, 12, 13, 14, 15, 16, 17, 18, 19, 20, 21, 22, 23, 24, 25, 26, 27, 28] rfl) (hD.sub [0, 1, 2, 3, 4, 5, 6, 7, 8, 9, 10, 11, 12, 13, 14, 15, 16, 17, 18, 19, 20, 21, 22, 23, 24, 25, 26, 27, 28] (by decide) rfl) hS (lv_sub hl [0, 1, 2, 3] rfl)

set_option maxHeartbeats 4000000 in
set_option maxRecDepth 100000 in
theorem c_X0_goByEvents (l : Launch) (dC : Nat → ClassId) (dI : Nat → Nat → Nat) (g : Nat × Nat × Nat) (ah : Nat) (ac : Nat) (c1 : Nat) (c2 : Nat) (c3 : Nat) (c4 : Nat) (c5 : Nat) (au : Nat) (t1 : Nat) (t2 : Nat) (t3 : Nat) (t4 : Nat) (t5 : Nat) (t6 : Nat) (t7 : Nat) (ab : Nat) (b1 : Nat) (b2 : Nat) (an : Nat) (n1 : Nat) (n2 : Nat) (n3 : Nat) (n4 : Nat) (n5 : Nat) (ar : Nat) (r1 : Nat) (r2 : Nat) (ak : Nat) (ad : Nat) (cI : ClassId) (tm : Int32) (sl : Int32) (tk : Int32) (fr : Int32) (en : Int64) (z : Int32) (sz : Nat) (hn : ¬ z < 1) (h0 : ¬ z ≤ 0) (hz : z < 999999999) : Met l yX0_goByEvents wsX0_goByEvents ({ frames := 4, cells := 0, slots := 0, locals := 89 } : Room) (va_Pc [.ref ah, .int z] (wIn dC dI g [(ah, .inr (4, [.ref ac, .ref au, .ref ab, .ref an, .ref ak, .ref ad, .int tm, .int sl, .long en])), (ac, .inr (5, [.ref c1, .ref c2, .ref c3, .ref c4, .ref c5, .int 15])), (c1, .inl (cI, 4, .inl (cn 0))), (c2, .inl (cI, 4, .inl (cn 1))), (c3, .inl (cI, 4, .inl (cn 0))), (c4, .inl (cI, 4, .inl (cn tk))), (c5, .inl (cI, 4, .inl (cn fr))), (au, .inr (10, [.ref t1, .ref t2, .ref t3, .ref t4, .ref t5, .ref t6, .ref t7, .int 0, .int 0])), (t1, .inl (cI, 4, .inl (cn 0))), (t2, .inl (cI, 4, .inl (cn 10))), (t3, .inl (cI, 4, .inl (cn 10))), (t4, .inl (cI, 4, .inl (cn (-1)))), (t5, .inl (cI, 4, .inl (cn 0))), (t6, .inl (cI, 4, .inl (cn 0))), (t7, .inl (cI, 4, .inl (cn 110))), (ab, .inr (7, [.ref b1, .ref b2, .int 0, .int 0])), (b1, .inl (cI, 200, .inl (cn 0))), (b2, .inl (cI, 200, .inl (cn 0))), (an, .inr (6, [.ref n1, .ref n2, .ref n3, .ref n4, .ref n5, .int 0, .int 0])), (n1, .inl (cI, 8, .inl (cn 7))), (n2, .inl (cI, 8, .inl (cn 1))), (n3, .inl (cI, 8, .inl (cn 110))), (n4, .inl (cI, 8, .inl (cn 0))), (n5, .inl (cI, 8, .inl (cn 0))), (ar, .inr (9, [.ref r1, .ref r2, .int 0])), (r1, .inl (cI, 8, .inl (cn 0))), (r2, .inl (cI, 8, .inl (cn 0))), (ak, .inr (8, [.ref ar, .int 105, .int 0, .int (-1), .int 0, .int 0, .int 0])), (ad, .inr (11, [.int (-1), .int 0, .int 0, .int 0, .int 0, .int 0]))] [(cI, .int)] sz)) (va_Qi (fun (r : Int32) (u : Unit) => r = 0) (fun (u : Unit) (t : State) => wOut dC dI [(ah, .inr (4, [.ref ac, .ref au, .ref ab, .ref an, .ref ak, .ref ad, .int (tm + z), .int sl, .long (en + (5 * (z).toInt64))])), (ac, .inr (5, [.ref c1, .ref c2, .ref c3, .ref c4, .ref c5, .int 15])), (c1, .inl (cI, 4, .inl (cn 0))), (c2, .inl (cI, 4, .inl (cn 1))), (c3, .inl (cI, 4, .inl (cn 0))), (c4, .inl (cI, 4, .inl (cn (tk + z)))), (c5, .inl (cI, 4, .inl (cn z))), (au, .inr (10, [.ref t1, .ref t2, .ref t3, .ref t4, .ref t5, .ref t6, .ref t7, .int 0, .int 0])), (t1, .inl (cI, 4, .inl (cn 0))), (t2, .inl (cI, 4, .inl (cn 10))), (t3, .inl (cI, 4, .inl (cn 10))), (t4, .inl (cI, 4, .inl (cn (-1)))), (t5, .inl (cI, 4, .inl (cn 0))), (t6, .inl (cI, 4, .inl (cn 0))), (t7, .inl (cI, 4, .inl (cn 110))), (ab, .inr (7, [.ref b1, .ref b2, .int 0, .int 0])), (b1, .inl (cI, 200, .inl (cn 0))), (b2, .inl (cI, 200, .inl (cn 0))), (an, .inr (6, [.ref n1, .ref n2, .ref n3, .ref n4, .ref n5, .int 0, .int 0])), (n1, .inl (cI, 8, .inl (cn 7))), (n2, .inl (cI, 8, .inl (cn 1))), (n3, .inl (cI, 8, .inl (cn 110))), (n4, .inl (cI, 8, .inl (cn 0))), (n5, .inl (cI, 8, .inl (cn 0))), (ar, .inr (9, [.ref r1, .ref r2, .int 0])), (r1, .inl (cI, 8, .inl (cn 0))), (r2, .inl (cI, 8, .inl (cn 0))), (ak, .inr (8, [.ref ar, .int 105, .int 0, .int (-1), .int 0, .int 0, .int 0])), (ad, .inr (11, [.int (-1), .int 0, .int 0, .int 0, .int 0, .int 0]))] [(cI, .int)] (va_A [(ah, .inr (4, [.ref ac, .ref au, .ref ab, .ref an, .ref ak, .ref ad, .int tm, .int sl, .long en])), (ac, .inr (5, [.ref c1, .ref c2, .ref c3, .ref c4, .ref c5, .int 15])), (c1, .inl (cI, 4, .inl (cn 0))), (c2, .inl (cI, 4, .inl (cn 1))), (c3, .inl (cI, 4, .inl (cn 0))), (c4, .inl (cI, 4, .inl (cn tk))), (c5, .inl (cI, 4, .inl (cn fr))), (au, .inr (10, [.ref t1, .ref t2, .ref t3, .ref t4, .ref t5, .ref t6, .ref t7, .int 0, .int 0])), (t1, .inl (cI, 4, .inl (cn 0))), (t2, .inl (cI, 4, .inl (cn 10))), (t3, .inl (cI, 4, .inl (cn 10))), (t4, .inl (cI, 4, .inl (cn (-1)))), (t5, .inl (cI, 4, .inl (cn 0))), (t6, .inl (cI, 4, .inl (cn 0))), (t7, .inl (cI, 4, .inl (cn 110))), (ab, .inr (7, [.ref b1, .ref b2, .int 0, .int 0])), (b1, .inl (cI, 200, .inl (cn 0))), (b2, .inl (cI, 200, .inl (cn 0))), (an, .inr (6, [.ref n1, .ref n2, .ref n3, .ref n4, .ref n5, .int 0, .int 0])), (n1, .inl (cI, 8, .inl (cn 7))), (n2, .inl (cI, 8, .inl (cn 1))), (n3, .inl (cI, 8, .inl (cn 110))), (n4, .inl (cI, 8, .inl (cn 0))), (n5, .inl (cI, 8, .inl (cn 0))), (ar, .inr (9, [.ref r1, .ref r2, .int 0])), (r1, .inl (cI, 8, .inl (cn 0))), (r2, .inl (cI, 8, .inl (cn 0))), (ak, .inr (8, [.ref ar, .int 105, .int 0, .int (-1), .int 0, .int 0, .int 0])), (ad, .inr (11, [.int (-1), .int 0, .int 0, .int 0, .int 0, .int 0]))] sz) t) (va_A [(ah, .inr (4, [.ref ac, .ref au, .ref ab, .ref an, .ref ak, .ref ad, .int tm, .int sl, .long en])), (ac, .inr (5, [.ref c1, .ref c2, .ref c3, .ref c4, .ref c5, .int 15])), (c1, .inl (cI, 4, .inl (cn 0))), (c2, .inl (cI, 4, .inl (cn 1))), (c3, .inl (cI, 4, .inl (cn 0))), (c4, .inl (cI, 4, .inl (cn tk))), (c5, .inl (cI, 4, .inl (cn fr))), (au, .inr (10, [.ref t1, .ref t2, .ref t3, .ref t4, .ref t5, .ref t6, .ref t7, .int 0, .int 0])), (t1, .inl (cI, 4, .inl (cn 0))), (t2, .inl (cI, 4, .inl (cn 10))), (t3, .inl (cI, 4, .inl (cn 10))), (t4, .inl (cI, 4, .inl (cn (-1)))), (t5, .inl (cI, 4, .inl (cn 0))), (t6, .inl (cI, 4, .inl (cn 0))), (t7, .inl (cI, 4, .inl (cn 110))), (ab, .inr (7, [.ref b1, .ref b2, .int 0, .int 0])), (b1, .inl (cI, 200, .inl (cn 0))), (b2, .inl (cI, 200, .inl (cn 0))), (an, .inr (6, [.ref n1, .ref n2, .ref n3, .ref n4, .ref n5, .int 0, .int 0])), (n1, .inl (cI, 8, .inl (cn 7))), (n2, .inl (cI, 8, .inl (cn 1))), (n3, .inl (cI, 8, .inl (cn 110))), (n4, .inl (cI, 8, .inl (cn 0))), (n5, .inl (cI, 8, .inl (cn 0))), (ar, .inr (9, [.ref r1, .ref r2, .int 0])), (r1, .inl (cI, 8, .inl (cn 0))), (r2, .inl (cI, 8, .inl (cn 0))), (ak, .inr (8, [.ref ar, .int 105, .int 0, .int (-1), .int 0, .int 0, .int 0])), (ad, .inr (11, [.int (-1), .int 0, .int 0, .int 0, .int 0, .int 0]))] sz)) 0 0 (va_A [(ah, .inr (4, [.ref ac, .ref au, .ref ab, .ref an, .ref ak, .ref ad, .int tm, .int sl, .long en])), (ac, .inr (5, [.ref c1, .ref c2, .ref c3, .ref c4, .ref c5, .int 15])), (c1, .inl (cI, 4, .inl (cn 0))), (c2, .inl (cI, 4, .inl (cn 1))), (c3, .inl (cI, 4, .inl (cn 0))), (c4, .inl (cI, 4, .inl (cn tk))), (c5, .inl (cI, 4, .inl (cn fr))), (au, .inr (10, [.ref t1, .ref t2, .ref t3, .ref t4, .ref t5, .ref t6, .ref t7, .int 0, .int 0])), (t1, .inl (cI, 4, .inl (cn 0))), (t2, .inl (cI, 4, .inl (cn 10))), (t3, .inl (cI, 4, .inl (cn 10))), (t4, .inl (cI, 4, .inl (cn (-1)))), (t5, .inl (cI, 4, .inl (cn 0))), (t6, .inl (cI, 4, .inl (cn 0))), (t7, .inl (cI, 4, .inl (cn 110))), (ab, .inr (7, [.ref b1, .ref b2, .int 0, .int 0])), (b1, .inl (cI, 200, .inl (cn 0))), (b2, .inl (cI, 200, .inl (cn 0))), (an, .inr (6, [.ref n1, .ref n2, .ref n3, .ref n4, .ref n5, .int 0, .int 0])), (n1, .inl (cI, 8, .inl (cn 7))), (n2, .inl (cI, 8, .inl (cn 1))), (n3, .inl (cI, 8, .inl (cn 110))), (n4, .inl (cI, 8, .inl (cn 0))), (n5, .inl (cI, 8, .inl (cn 0))), (ar, .inr (9, [.ref r1, .ref r2, .int 0])), (r1, .inl (cI, 8, .inl (cn 0))), (r2, .inl (cI, 8, .inl (cn 0))), (ak, .inr (8, [.ref ar, .int 105, .int 0, .int (-1), .int 0, .int 0, .int 0])), (ad, .inr (11, [.int (-1), .int 0, .int 0, .int 0, .int 0, .int 0]))] sz) := by
  refine Met.ofW (cc := cX0_goByEvents) (maxL := 6) (ret := (some .int)) (by decide) rfl ?_
  intro p e s m args below meth c s₁ B hml hv
  obtain ⟨rfl, hsz, hP, hK, hD0, hG⟩ := hv
  have hx := B.exec
  have hb := B.bytes
  have hr := B.returns
  have hts := atoms_spec (ws := wsX0_goByEvents) B.pre
  have hown : s.vm.findClass RX0 = some m.cls := findClass_of_methodNamed B.named
  have hlocks := B.notSynchronized
  subst hsz
  have hD := hD0.self (sz := s.heap.size)
  generalize hAe : va_A [(ah, .inr (4, [.ref ac, .ref au, .ref ab, .ref an, .ref ak, .ref ad, .int tm, .int sl, .long en])), (ac, .inr (5, [.ref c1, .ref c2, .ref c3, .ref c4, .ref c5, .int 15])), (c1, .inl (cI, 4, .inl (cn 0))), (c2, .inl (cI, 4, .inl (cn 1))), (c3, .inl (cI, 4, .inl (cn 0))), (c4, .inl (cI, 4, .inl (cn tk))), (c5, .inl (cI, 4, .inl (cn fr))), (au, .inr (10, [.ref t1, .ref t2, .ref t3, .ref t4, .ref t5, .ref t6, .ref t7, .int 0, .int 0])), (t1, .inl (cI, 4, .inl (cn 0))), (t2, .inl (cI, 4, .inl (cn 10))), (t3, .inl (cI, 4, .inl (cn 10))), (t4, .inl (cI, 4, .inl (cn (-1)))), (t5, .inl (cI, 4, .inl (cn 0))), (t6, .inl (cI, 4, .inl (cn 0))), (t7, .inl (cI, 4, .inl (cn 110))), (ab, .inr (7, [.ref b1, .ref b2, .int 0, .int 0])), (b1, .inl (cI, 200, .inl (cn 0))), (b2, .inl (cI, 200, .inl (cn 0))), (an, .inr (6, [.ref n1, .ref n2, .ref n3, .ref n4, .ref n5, .int 0, .int 0])), (n1, .inl (cI, 8, .inl (cn 7))), (n2, .inl (cI, 8, .inl (cn 1))), (n3, .inl (cI, 8, .inl (cn 110))), (n4, .inl (cI, 8, .inl (cn 0))), (n5, .inl (cI, 8, .inl (cn 0))), (ar, .inr (9, [.ref r1, .ref r2, .int 0])), (r1, .inl (cI, 8, .inl (cn 0))), (r2, .inl (cI, 8, .inl (cn 0))), (ak, .inr (8, [.ref ar, .int 105, .int 0, .int (-1), .int 0, .int 0, .int 0])), (ad, .inr (11, [.int (-1), .int 0, .int 0, .int 0, .int 0, .int 0]))] s.heap.size = A at hD hG ⊢
  have hN := hG.1
  have hA : ∀ q : Nat, s.heap.size ≤ q → A q := fun q h => by rw [← hAe]; exact Or.inr h
  have hS : va_S A s.heap s.heap [] := va_S.rf
  have hP : va_P (dC, dI) vwCl [(ah, .inr (4, [.ref ac, .ref au, .ref ab, .ref an, .ref ak, .ref ad, .int tm, .int sl, .long en])), (ac, .inr (5, [.ref c1, .ref c2, .ref c3, .ref c4, .ref c5, .int 15])), (c1, .inl (cI, 4, .inl (cn 0))), (c2, .inl (cI, 4, .inl (cn 1))), (c3, .inl (cI, 4, .inl (cn 0))), (c4, .inl (cI, 4, .inl (cn tk))), (c5, .inl (cI, 4, .inl (cn fr))), (au, .inr (10, [.ref t1, .ref t2, .ref t3, .ref t4, .ref t5, .ref t6, .ref t7, .int 0, .int 0])), (t1, .inl (cI, 4, .inl (cn 0))), (t2, .inl (cI, 4, .inl (cn 10))), (t3, .inl (cI, 4, .inl (cn 10))), (t4, .inl (cI, 4, .inl (cn (-1)))), (t5, .inl (cI, 4, .inl (cn 0))), (t6, .inl (cI, 4, .inl (cn 0))), (t7, .inl (cI, 4, .inl (cn 110))), (ab, .inr (7, [.ref b1, .ref b2, .int 0, .int 0])), (b1, .inl (cI, 200, .inl (cn 0))), (b2, .inl (cI, 200, .inl (cn 0))), (an, .inr (6, [.ref n1, .ref n2, .ref n3, .ref n4, .ref n5, .int 0, .int 0])), (n1, .inl (cI, 8, .inl (cn 7))), (n2, .inl (cI, 8, .inl (cn 1))), (n3, .inl (cI, 8, .inl (cn 110))), (n4, .inl (cI, 8, .inl (cn 0))), (n5, .inl (cI, 8, .inl (cn 0))), (ar, .inr (9, [.ref r1, .ref r2, .int 0])), (r1, .inl (cI, 8, .inl (cn 0))), (r2, .inl (cI, 8, .inl (cn 0))), (ak, .inr (8, [.ref ar, .int 105, .int 0, .int (-1), .int 0, .int 0, .int 0])), (ad, .inr (11, [.int (-1), .int 0, .int 0, .int 0, .int 0, .int 0]))] s.heap := hP
  have hw0 : (Cond.fieldLink RX0 28 "Tickstation$Chip" "probe" "LTickstation$Probe;").before _ s = true := hts _ (List.mem_cons_of_mem _ (List.mem_append_left _ (List.mem_append_left _ (List.mem_append_left _ (List.mem_append_left _ (List.mem_append_left _ (List.mem_append_left _ (List.mem_append_left _ (List.mem_append_left _ (List.mem_append_left _ (List.mem_append_left _ (List.mem_append_left _ (List.mem_of_getElem? (i := 0) rfl)))))))))))))
  have hiX0 : ∀ w ∈ u_ws RX0 TX0 9, w ∈ wsX0_goByEvents := fun _ h => List.mem_cons_of_mem _ (List.mem_append_left _ (List.mem_append_left _ (List.mem_append_left _ (List.mem_append_left _ (List.mem_append_left _ (List.mem_append_left _ (List.mem_append_left _ (List.mem_append_left _ (List.mem_append_left _ (List.mem_append_right _ (h)))))))))))
  have hw2 : (Cond.fieldLink RX0 53 "Tickstation$Probe" "edges" "I").before _ s = true := hts _ (List.mem_cons_of_mem _ (List.mem_append_left _ (List.mem_append_left _ (List.mem_append_left _ (List.mem_append_left _ (List.mem_append_left _ (List.mem_append_left _ (List.mem_append_left _ (List.mem_append_left _ (List.mem_append_left _ (List.mem_append_left _ (List.mem_append_left _ (List.mem_of_getElem? (i := 1) rfl)))))))))))))
  have hiX3 : ∀ w ∈ u_ws RX3 TX3 4, w ∈ wsX0_goByEvents := fun _ h => List.mem_cons_of_mem _ (List.mem_append_left _ (List.mem_append_left _ (List.mem_append_left _ (List.mem_append_left _ (List.mem_append_left _ (List.mem_append_left _ (List.mem_append_left _ (List.mem_append_left _ (List.mem_append_right _ (h))))))))))
  have hw4 : (Cond.methodLink RX0 64 Lib.Math.min.name).before _ s = true := hts _ (List.mem_cons_of_mem _ (List.mem_append_left _ (List.mem_append_left _ (List.mem_append_left _ (List.mem_append_left _ (List.mem_append_left _ (List.mem_append_left _ (List.mem_append_left _ (List.mem_append_left _ (List.mem_append_left _ (List.mem_append_left _ (List.mem_append_left _ (List.mem_of_getElem? (i := 2) rfl)))))))))))))
  have hw5 : (Cond.static Lib.Math.min.name).before _ s = true := hts _ (List.mem_cons_of_mem _ (List.mem_append_left _ (List.mem_append_left _ (List.mem_append_left _ (List.mem_append_left _ (List.mem_append_left _ (List.mem_append_left _ (List.mem_append_left _ (List.mem_append_left _ (List.mem_append_left _ (List.mem_append_left _ (List.mem_append_left _ (List.mem_of_getElem? (i := 3) rfl)))))))))))))
  have hw6 : (Cond.initialized "java/lang/Math").before _ s = true := hts _ (List.mem_cons_of_mem _ (List.mem_append_left _ (List.mem_append_left _ (List.mem_append_left _ (List.mem_append_left _ (List.mem_append_left _ (List.mem_append_left _ (List.mem_append_left _ (List.mem_append_left _ (List.mem_append_left _ (List.mem_append_left _ (List.mem_append_left _ (List.mem_of_getElem? (i := 4) rfl)))))))))))))
  have hw7 : (Cond.code Lib.Math.min.name Lib.Math.min.code 2 (some .int)).before _ s = true := hts _ (List.mem_cons_of_mem _ (List.mem_append_left _ (List.mem_append_left _ (List.mem_append_left _ (List.mem_append_left _ (List.mem_append_left _ (List.mem_append_left _ (List.mem_append_left _ (List.mem_append_left _ (List.mem_append_left _ (List.mem_append_left _ (List.mem_append_left _ (List.mem_of_getElem? (i := 5) rfl)))))))))))))
  have hl := lv_entry ([.ref ah, .int z]) (n := 6) (Nat.le_of_ble_eq_true rfl)
  rw [lg_entry_eq]
  generalize (lg_sl ([.ref ah, .int z]) ++ List.replicate (6 - (lg_sl ([.ref ah, .int z])).length) Slot.unset).toArray = ls at hl ⊢
  have hl : lv_has ls 6 [(0, .ref ah), (1, .int z)] := hl
  refine lv_aload_n hx hb dX0_goByEvents_0 rfl (lv_at hl 0 rfl) ?_
  refine va_get (D := (dC, dI)) (ci := 4) (v := .ref ab) (C := RX0) (T := TX0) (N := 9) hx hb hts hiX0 hown hK hP 0 rfl rfl 2 (by decide) (hw0) (fun _ h9 => h9) rfl dX0_goByEvents_1 ?_
  refine va_get (D := (dC, dI)) (ci := 7) (v := .int 0) (C := RX3) (T := TX3) (N := 4) hx hb hts hiX3 hown hK hP 15 rfl rfl 3 (by decide) (hw2) (fun _ h9 => h9) rfl dX0_goByEvents_4 ?_
  refine lv_istore_n (lv' := [(2, .int 0), (0, .ref ah), (1, .int z)]) hx hb dX0_goByEvents_7 rfl hl (by decide) rfl (fun ls hl => ?_)
  refine lv_iload_n hx hb dX0_goByEvents_8 rfl (lv_at hl 2 rfl) ?_
  refine lv_istore_n (lv' := [(3, .int z), (2, .int 0), (0, .ref ah), (1, .int z)]) hx hb dX0_goByEvents_9 rfl hl (by decide) rfl (fun ls hl => ?_)
  refine lv_iconst (v := 0) hx hb dX0_goByEvents_10 (by decide) ?_
  refine lv_istore (lv' := [(4, .int 0), (3, .int z), (2, .int 0), (0, .ref ah), (1, .int z)]) hx hb dX0_goByEvents_11 hl (by decide) rfl (fun ls hl => ?_)
  refine lv_iload hx hb dX0_goByEvents_13 (lv_at hl 0 rfl) ?_
  refine lv_iload_n hx hb dX0_goByEvents_15 rfl (lv_at hl 4 rfl) ?_
  refine lv_icmp_ge (tgt := 68) hx hb dX0_goByEvents_16 (by decide) (fun c => absurd c (h0)) (fun _ => ?_)
  refine lv_iload_n hx hb dX0_goByEvents_19 rfl (lv_at hl 1 rfl) ?_
  refine lv_if_le (tgt := 68) hx hb dX0_goByEvents_20 (by decide) (fun c => absurd c (h0)) (fun _ => ?_)
  refine lv_aload_n hx hb dX0_goByEvents_23 rfl (lv_at hl 3 rfl) ?_
  have hPc := hP.sub (ws' := [(ah, .inr (4, [.ref ac, .ref au, .ref ab, .ref an, .ref ak, .ref ad, .int tm, .int sl, .long en])), (au, .inr (10, [.ref t1, .ref t2, .ref t3, .ref t4, .ref t5, .ref t6, .ref t7, .int 0, .int 0])), (an, .inr (6, [.ref n1, .ref n2, .ref n3, .ref n4, .ref n5, .int 0, .int 0])), (ak, .inr (8, [.ref ar, .int 105, .int 0, .int (-1), .int 0, .int 0, .int 0])), (ad, .inr (11, [.int (-1), .int 0, .int 0, .int 0, .int 0, .int 0]))]) [0, 7, 18, 27, 28] rfl
  have hDc := hD.sub (ws' := [(ah, .inr (4, [.ref ac, .ref au, .ref ab, .ref an, .ref ak, .ref ad, .int tm, .int sl, .long en])), (au, .inr (10, [.ref t1, .ref t2, .ref t3, .ref t4, .ref t5, .ref t6, .ref t7, .int 0, .int 0])), (an, .inr (6, [.ref n1, .ref n2, .ref n3, .ref n4, .ref n5, .int 0, .int 0])), (ak, .inr (8, [.ref ar, .int 105, .int 0, .int (-1), .int 0, .int 0, .int 0])), (ad, .inr (11, [.int (-1), .int 0, .int 0, .int 0, .int 0, .int 0]))]) [0, 7, 18, 27, 28] (by decide) rfl
  have hKc := hK.sub (tys' := [(cI, .int)]) [0] rfl
  have hFc := va_free (wc := [(ah, .inr (4, [.ref ac, .ref au, .ref ab, .ref an, .ref ak, .ref ad, .int tm, .int sl, .long en])), (au, .inr (10, [.ref t1, .ref t2, .ref t3, .ref t4, .ref t5, .ref t6, .ref t7, .int 0, .int 0])), (an, .inr (6, [.ref n1, .ref n2, .ref n3, .ref n4, .ref n5, .int 0, .int 0])), (ak, .inr (8, [.ref ar, .int 105, .int 0, .int (-1), .int 0, .int 0, .int 0])), (ad, .inr (11, [.int (-1), .int 0, .int 0, .int 0, .int 0, .int 0]))]) hD hS hA [0, 7, 18, 27, 28] rfl
  refine va_calli (va_runV (As := []) (rest := []) ⟨hx, hb, hml, hown, hts⟩ (c_X0_beatsToEvent l dC dI g ah ac ab au t1 t2 t3 t4 t5 t6 t7 an n1 n2 n3 n4 n5 ak ar ad cI tm sl en s.heap.size) (cwV 0 hts gX0_goByEvents_X0_beatsToEvent rfl rfl rfl (by decide +kernel) ⟨Nat.le_of_ble_eq_true rfl, Nat.le_of_ble_eq_true rfl⟩) ⟨wIn_blind, va_recv hK hP (ci := 4) (q0 := 0) rfl rfl, wIn_at hPc hKc hDc hG hS hFc⟩ rfl rfl hl.1 rfl (lv_room (Nat.le_of_ble_eq_true rfl)) dX0_goByEvents_24 ⟨Nat.le_of_ble_eq_true rfl, Nat.le_of_ble_eq_true rfl⟩) hS (fun q _ h => hFc q h) hFc (fun r_1 u t H1 locs ht hvm hw hB hz1 hk1 hS => ?_)
  obtain ⟨hP1, hK1, hD1⟩ := hB
  rw [ht] at hP1
  obtain ⟨hP, hD⟩ := va_join (wr := [(ac, .inr (5, [.ref c1, .ref c2, .ref c3, .ref c4, .ref c5, .int 15])), (c1, .inl (cI, 4, .inl (cn 0))), (c2, .inl (cI, 4, .inl (cn 1))), (c3, .inl (cI, 4, .inl (cn 0))), (c4, .inl (cI, 4, .inl (cn tk))), (c5, .inl (cI, 4, .inl (cn fr))), (t1, .inl (cI, 4, .inl (cn 0))), (t2, .inl (cI, 4, .inl (cn 10))), (t3, .inl (cI, 4, .inl (cn 10))), (t4, .inl (cI, 4, .inl (cn (-1)))), (t5, .inl (cI, 4, .inl (cn 0))), (t6, .inl (cI, 4, .inl (cn 0))), (t7, .inl (cI, 4, .inl (cn 110))), (ab, .inr (7, [.ref b1, .ref b2, .int 0, .int 0])), (b1, .inl (cI, 200, .inl (cn 0))), (b2, .inl (cI, 200, .inl (cn 0))), (n1, .inl (cI, 8, .inl (cn 7))), (n2, .inl (cI, 8, .inl (cn 1))), (n3, .inl (cI, 8, .inl (cn 110))), (n4, .inl (cI, 8, .inl (cn 0))), (n5, .inl (cI, 8, .inl (cn 0))), (ar, .inr (9, [.ref r1, .ref r2, .int 0])), (r1, .inl (cI, 8, .inl (cn 0))), (r2, .inl (cI, 8, .inl (cn 0)))]) (w1 := [(ah, .inr (4, [.ref ac, .ref au, .ref ab, .ref an, .ref ak, .ref ad, .int tm, .int sl, .long en])), (au, .inr (10, [.ref t1, .ref t2, .ref t3, .ref t4, .ref t5, .ref t6, .ref t7, .int 0, .int 0])), (an, .inr (6, [.ref n1, .ref n2, .ref n3, .ref n4, .ref n5, .int 0, .int 0])), (ak, .inr (8, [.ref ar, .int 105, .int 0, .int (-1), .int 0, .int 0, .int 0])), (ad, .inr (11, [.int (-1), .int 0, .int 0, .int 0, .int 0, .int 0]))]) hP hD [0, 7, 18, 27, 28] [1, 2, 3, 4, 5, 6, 8, 9, 10, 11, 12, 13, 14, 15, 16, 17, 19, 20, 21, 22, 23, 24, 25, 26] rfl rfl (by decide) (by decide) hk1 hFc hP1 hD1
  generalize H1 = H at hP hS ⊢
  have hP : va_P (dC, dI) vwCl [(ac, .inr (5, [.ref c1, .ref c2, .ref c3, .ref c4, .ref c5, .int 15])), (c1, .inl (cI, 4, .inl (cn 0))), (c2, .inl (cI, 4, .inl (cn 1))), (c3, .inl (cI, 4, .inl (cn 0))), (c4, .inl (cI, 4, .inl (cn tk))), (c5, .inl (cI, 4, .inl (cn fr))), (t1, .inl (cI, 4, .inl (cn 0))), (t2, .inl (cI, 4, .inl (cn 10))), (t3, .inl (cI, 4, .inl (cn 10))), (t4, .inl (cI, 4, .inl (cn (-1)))), (t5, .inl (cI, 4, .inl (cn 0))), (t6, .inl (cI, 4, .inl (cn 0))), (t7, .inl (cI, 4, .inl (cn 110))), (ab, .inr (7, [.ref b1, .ref b2, .int 0, .int 0])), (b1, .inl (cI, 200, .inl (cn 0))), (b2, .inl (cI, 200, .inl (cn 0))), (n1, .inl (cI, 8, .inl (cn 7))), (n2, .inl (cI, 8, .inl (cn 1))), (n3, .inl (cI, 8, .inl (cn 110))), (n4, .inl (cI, 8, .inl (cn 0))), (n5, .inl (cI, 8, .inl (cn 0))), (ar, .inr (9, [.ref r1, .ref r2, .int 0])), (r1, .inl (cI, 8, .inl (cn 0))), (r2, .inl (cI, 8, .inl (cn 0))), (ah, .inr (4, [.ref ac, .ref au, .ref ab, .ref an, .ref ak, .ref ad, .int tm, .int sl, .long en])), (au, .inr (10, [.ref t1, .ref t2, .ref t3, .ref t4, .ref t5, .ref t6, .ref t7, .int 0, .int 0])), (an, .inr (6, [.ref n1, .ref n2, .ref n3, .ref n4, .ref n5, .int 0, .int 0])), (ak, .inr (8, [.ref ar, .int 105, .int 0, .int (-1), .int 0, .int 0, .int 0])), (ad, .inr (11, [.int (-1), .int 0, .int 0, .int 0, .int 0, .int 0]))] H := hP
  have hD : va_D A [(ac, .inr (5, [.ref c1, .ref c2, .ref c3, .ref c4, .ref c5, .int 15])), (c1, .inl (cI, 4, .inl (cn 0))), (c2, .inl (cI, 4, .inl (cn 1))), (c3, .inl (cI, 4, .inl (cn 0))), (c4, .inl (cI, 4, .inl (cn tk))), (c5, .inl (cI, 4, .inl (cn fr))), (t1, .inl (cI, 4, .inl (cn 0))), (t2, .inl (cI, 4, .inl (cn 10))), (t3, .inl (cI, 4, .inl (cn 10))), (t4, .inl (cI, 4, .inl (cn (-1)))), (t5, .inl (cI, 4, .inl (cn 0))), (t6, .inl (cI, 4, .inl (cn 0))), (t7, .inl (cI, 4, .inl (cn 110))), (ab, .inr (7, [.ref b1, .ref b2, .int 0, .int 0])), (b1, .inl (cI, 200, .inl (cn 0))), (b2, .inl (cI, 200, .inl (cn 0))), (n1, .inl (cI, 8, .inl (cn 7))), (n2, .inl (cI, 8, .inl (cn 1))), (n3, .inl (cI, 8, .inl (cn 110))), (n4, .inl (cI, 8, .inl (cn 0))), (n5, .inl (cI, 8, .inl (cn 0))), (ar, .inr (9, [.ref r1, .ref r2, .int 0])), (r1, .inl (cI, 8, .inl (cn 0))), (r2, .inl (cI, 8, .inl (cn 0))), (ah, .inr (4, [.ref ac, .ref au, .ref ab, .ref an, .ref ak, .ref ad, .int tm, .int sl, .long en])), (au, .inr (10, [.ref t1, .ref t2, .ref t3, .ref t4, .ref t5, .ref t6, .ref t7, .int 0, .int 0])), (an, .inr (6, [.ref n1, .ref n2, .ref n3, .ref n4, .ref n5, .int 0, .int 0])), (ak, .inr (8, [.ref ar, .int 105, .int 0, .int (-1), .int 0, .int 0, .int 0])), (ad, .inr (11, [.int (-1), .int 0, .int 0, .int 0, .int 0, .int 0]))] := hD
  refine lt_ci (y := 1000000000) hw ?_
  refine lv_iconst (v := 1) hx hb dX0_goByEvents_27 (by decide) ?_
  refine lv_isub hx hb dX0_goByEvents_28 ?_
  refine lt_ci (y := 999999999) (by first | rfl | decide) ?_
  refine lv_iload_n hx hb dX0_goByEvents_29 rfl (lv_at hl 1 rfl) ?_
  refine va_mmin hx hb (by rw [hml]; exact hl.1.symm) hown hw4 hw5 hw6 hw7 (Nat.le_of_ble_eq_true rfl) (Nat.le_of_ble_eq_true rfl) (Nat.le_of_ble_eq_true rfl) (Nat.le_of_ble_eq_true rfl) dX0_goByEvents_30 ?_
  refine lt_ci (y := z) (if_pos hz) ?_
  refine lv_istore (lv' := [(5, .int z), (4, .int 0), (3, .int z), (2, .int 0), (0, .ref ah), (1, .int z)]) hx hb dX0_goByEvents_33 hl (by decide) rfl (fun ls hl => ?_)
  refine lv_iload hx hb dX0_goByEvents_35 (lv_at hl 0 rfl) ?_
  refine lv_if_le (tgt := 51) hx hb dX0_goByEvents_37 (by decide) (fun c => absurd c (h0)) (fun _ => ?_)
  refine lv_aload_n hx hb dX0_goByEvents_40 rfl (lv_at hl 4 rfl) ?_
  refine lv_iload hx hb dX0_goByEvents_41 (lv_at hl 0 rfl) ?_
  have hPc := hP.sub (ws' := [(ah, .inr (4, [.ref ac, .ref au, .ref ab, .ref an, .ref ak, .ref ad, .int tm, .int sl, .long en])), (ac, .inr (5, [.ref c1, .ref c2, .ref c3, .ref c4, .ref c5, .int 15])), (c1, .inl (cI, 4, .inl (cn 0))), (c2, .inl (cI, 4, .inl (cn 1))), (c3, .inl (cI, 4, .inl (cn 0))), (c4, .inl (cI, 4, .inl (cn tk))), (c5, .inl (cI, 4, .inl (cn fr))), (au, .inr (10, [.ref t1, .ref t2, .ref t3, .ref t4, .ref t5, .ref t6, .ref t7, .int 0, .int 0])), (ak, .inr (8, [.ref ar, .int 105, .int 0, .int (-1), .int 0, .int 0, .int 0])), (ad, .inr (11, [.int (-1), .int 0, .int 0, .int 0, .int 0, .int 0]))]) [24, 0, 1, 2, 3, 4, 5, 25, 27, 28] rfl
  have hDc := hD.sub (ws' := [(ah, .inr (4, [.ref ac, .ref au, .ref ab, .ref an, .ref ak, .ref ad, .int tm, .int sl, .long en])), (ac, .inr (5, [.ref c1, .ref c2, .ref c3, .ref c4, .ref c5, .int 15])), (c1, .inl (cI, 4, .inl (cn 0))), (c2, .inl (cI, 4, .inl (cn 1))), (c3, .inl (cI, 4, .inl (cn 0))), (c4, .inl (cI, 4, .inl (cn tk))), (c5, .inl (cI, 4, .inl (cn fr))), (au, .inr (10, [.ref t1, .ref t2, .ref t3, .ref t4, .ref t5, .ref t6, .ref t7, .int 0, .int 0])), (ak, .inr (8, [.ref ar, .int 105, .int 0, .int (-1), .int 0, .int 0, .int 0])), (ad, .inr (11, [.int (-1), .int 0, .int 0, .int 0, .int 0, .int 0]))]) [24, 0, 1, 2, 3, 4, 5, 25, 27, 28] (by decide) rfl
  have hKc := hK.sub (tys' := [(cI, .int)]) [0] rfl
  have hFc := va_free (wc := [(ah, .inr (4, [.ref ac, .ref au, .ref ab, .ref an, .ref ak, .ref ad, .int tm, .int sl, .long en])), (ac, .inr (5, [.ref c1, .ref c2, .ref c3, .ref c4, .ref c5, .int 15])), (c1, .inl (cI, 4, .inl (cn 0))), (c2, .inl (cI, 4, .inl (cn 1))), (c3, .inl (cI, 4, .inl (cn 0))), (c4, .inl (cI, 4, .inl (cn tk))), (c5, .inl (cI, 4, .inl (cn fr))), (au, .inr (10, [.ref t1, .ref t2, .ref t3, .ref t4, .ref t5, .ref t6, .ref t7, .int 0, .int 0])), (ak, .inr (8, [.ref ar, .int 105, .int 0, .int (-1), .int 0, .int 0, .int 0])), (ad, .inr (11, [.int (-1), .int 0, .int 0, .int 0, .int 0, .int 0]))]) hD hS hA [24, 0, 1, 2, 3, 4, 5, 25, 27, 28] rfl
  refine va_callv (va_runV (As := [.int z]) (rest := []) ⟨hx, hb, hml, hown, hts⟩ (c_X0_skip l dC dI g ah ac c1 c2 c3 c4 c5 au t1 t2 t3 t4 t5 t6 t7 ab an ar ak ad cI tm sl tk fr z en H.size hn) (cwV 1 hts gX0_goByEvents_X0_skip rfl rfl rfl (by decide +kernel) ⟨Nat.le_of_ble_eq_true rfl, Nat.le_of_ble_eq_true rfl⟩) ⟨wIn_blind, va_recv hK hP (ci := 4) (q0 := 24) rfl rfl, wIn_at hPc hKc hDc hG hS hFc⟩ rfl rfl hl.1 rfl (lv_room (Nat.le_of_ble_eq_true rfl)) dX0_goByEvents_43 ⟨Nat.le_of_ble_eq_true rfl, Nat.le_of_ble_eq_true rfl⟩) hS (fun q _ h => hFc q h) hFc (fun u t H1 locs ht hvm hw hB hz1 hk1 hS => ?_)
  obtain ⟨hP1, hK1, hD1⟩ := hB
  rw [ht] at hP1
  obtain ⟨hP, hD⟩ := va_join (wr := [(t1, .inl (cI, 4, .inl (cn 0))), (t2, .inl (cI, 4, .inl (cn 10))), (t3, .inl (cI, 4, .inl (cn 10))), (t4, .inl (cI, 4, .inl (cn (-1)))), (t5, .inl (cI, 4, .inl (cn 0))), (t6, .inl (cI, 4, .inl (cn 0))), (t7, .inl (cI, 4, .inl (cn 110))), (ab, .inr (7, [.ref b1, .ref b2, .int 0, .int 0])), (b1, .inl (cI, 200, .inl (cn 0))), (b2, .inl (cI, 200, .inl (cn 0))), (n1, .inl (cI, 8, .inl (cn 7))), (n2, .inl (cI, 8, .inl (cn 1))), (n3, .inl (cI, 8, .inl (cn 110))), (n4, .inl (cI, 8, .inl (cn 0))), (n5, .inl (cI, 8, .inl (cn 0))), (ar, .inr (9, [.ref r1, .ref r2, .int 0])), (r1, .inl (cI, 8, .inl (cn 0))), (r2, .inl (cI, 8, .inl (cn 0))), (an, .inr (6, [.ref n1, .ref n2, .ref n3, .ref n4, .ref n5, .int 0, .int 0]))]) (w1 := [(ah, .inr (4, [.ref ac, .ref au, .ref ab, .ref an, .ref ak, .ref ad, .int (tm + z), .int sl, .long (en + (5 * (z).toInt64))])), (ac, .inr (5, [.ref c1, .ref c2, .ref c3, .ref c4, .ref c5, .int 15])), (c1, .inl (cI, 4, .inl (cn 0))), (c2, .inl (cI, 4, .inl (cn 1))), (c3, .inl (cI, 4, .inl (cn 0))), (c4, .inl (cI, 4, .inl (cn (tk + z)))), (c5, .inl (cI, 4, .inl (cn z))), (au, .inr (10, [.ref t1, .ref t2, .ref t3, .ref t4, .ref t5, .ref t6, .ref t7, .int 0, .int 0])), (ak, .inr (8, [.ref ar, .int 105, .int 0, .int (-1), .int 0, .int 0, .int 0])), (ad, .inr (11, [.int (-1), .int 0, .int 0, .int 0, .int 0, .int 0]))]) hP hD [24, 0, 1, 2, 3, 4, 5, 25, 27, 28] [6, 7, 8, 9, 10, 11, 12, 13, 14, 15, 16, 17, 18, 19, 20, 21, 22, 23, 26] rfl rfl (by decide) (by decide) hk1 hFc hP1 hD1
  generalize H1 = H at hP hS ⊢
  have hP : va_P (dC, dI) vwCl [(t1, .inl (cI, 4, .inl (cn 0))), (t2, .inl (cI, 4, .inl (cn 10))), (t3, .inl (cI, 4, .inl (cn 10))), (t4, .inl (cI, 4, .inl (cn (-1)))), (t5, .inl (cI, 4, .inl (cn 0))), (t6, .inl (cI, 4, .inl (cn 0))), (t7, .inl (cI, 4, .inl (cn 110))), (ab, .inr (7, [.ref b1, .ref b2, .int 0, .int 0])), (b1, .inl (cI, 200, .inl (cn 0))), (b2, .inl (cI, 200, .inl (cn 0))), (n1, .inl (cI, 8, .inl (cn 7))), (n2, .inl (cI, 8, .inl (cn 1))), (n3, .inl (cI, 8, .inl (cn 110))), (n4, .inl (cI, 8, .inl (cn 0))), (n5, .inl (cI, 8, .inl (cn 0))), (ar, .inr (9, [.ref r1, .ref r2, .int 0])), (r1, .inl (cI, 8, .inl (cn 0))), (r2, .inl (cI, 8, .inl (cn 0))), (an, .inr (6, [.ref n1, .ref n2, .ref n3, .ref n4, .ref n5, .int 0, .int 0])), (ah, .inr (4, [.ref ac, .ref au, .ref ab, .ref an, .ref ak, .ref ad, .int (tm + z), .int sl, .long (en + (5 * (z).toInt64))])), (ac, .inr (5, [.ref c1, .ref c2, .ref c3, .ref c4, .ref c5, .int 15])), (c1, .inl (cI, 4, .inl (cn 0))), (c2, .inl (cI, 4, .inl (cn 1))), (c3, .inl (cI, 4, .inl (cn 0))), (c4, .inl (cI, 4, .inl (cn (tk + z)))), (c5, .inl (cI, 4, .inl (cn z))), (au, .inr (10, [.ref t1, .ref t2, .ref t3, .ref t4, .ref t5, .ref t6, .ref t7, .int 0, .int 0])), (ak, .inr (8, [.ref ar, .int 105, .int 0, .int (-1), .int 0, .int 0, .int 0])), (ad, .inr (11, [.int (-1), .int 0, .int 0, .int 0, .int 0, .int 0]))] H := hP
  have hD : va_D A [(t1, .inl (cI, 4, .inl (cn 0))), (t2, .inl (cI, 4, .inl (cn 10))), (t3, .inl (cI, 4, .inl (cn 10))), (t4, .inl (cI, 4, .inl (cn (-1)))), (t5, .inl (cI, 4, .inl (cn 0))), (t6, .inl (cI, 4, .inl (cn 0))), (t7, .inl (cI, 4, .inl (cn 110))), (ab, .inr (7, [.ref b1, .ref b2, .int 0, .int 0])), (b1, .inl (cI, 200, .inl (cn 0))), (b2, .inl (cI, 200, .inl (cn 0))), (n1, .inl (cI, 8, .inl (cn 7))), (n2, .inl (cI, 8, .inl (cn 1))), (n3, .inl (cI, 8, .inl (cn 110))), (n4, .inl (cI, 8, .inl (cn 0))), (n5, .inl (cI, 8, .inl (cn 0))), (ar, .inr (9, [.ref r1, .ref r2, .int 0])), (r1, .inl (cI, 8, .inl (cn 0))), (r2, .inl (cI, 8, .inl (cn 0))), (an, .inr (6, [.ref n1, .ref n2, .ref n3, .ref n4, .ref n5, .int 0, .int 0])), (ah, .inr (4, [.ref ac, .ref au, .ref ab, .ref an, .ref ak, .ref ad, .int (tm + z), .int sl, .long (en + (5 * (z).toInt64))])), (ac, .inr (5, [.ref c1, .ref c2, .ref c3, .ref c4, .ref c5, .int 15])), (c1, .inl (cI, 4, .inl (cn 0))), (c2, .inl (cI, 4, .inl (cn 1))), (c3, .inl (cI, 4, .inl (cn 0))), (c4, .inl (cI, 4, .inl (cn (tk + z)))), (c5, .inl (cI, 4, .inl (cn z))), (au, .inr (10, [.ref t1, .ref t2, .ref t3, .ref t4, .ref t5, .ref t6, .ref t7, .int 0, .int 0])), (ak, .inr (8, [.ref ar, .int 105, .int 0, .int (-1), .int 0, .int 0, .int 0])), (ad, .inr (11, [.int (-1), .int 0, .int 0, .int 0, .int 0, .int 0]))] := hD
  refine lv_iload_n hx hb dX0_goByEvents_46 rfl (lv_at hl 2 rfl) ?_
  refine lv_iload hx hb dX0_goByEvents_47 (lv_at hl 0 rfl) ?_
  refine lv_isub hx hb dX0_goByEvents_49 ?_
  refine lt_ci (y := 0) (Int32.sub_self z) ?_
  refine lv_istore_n (lv' := [(3, .int 0), (5, .int z), (4, .int 0), (2, .int 0), (0, .ref ah), (1, .int z)]) hx hb dX0_goByEvents_50 rfl hl (by decide) rfl (fun ls hl => ?_)
  refine lv_iload_n hx hb dX0_goByEvents_51 rfl (lv_at hl 0 rfl) ?_
  refine lv_if_le (tgt := 62) hx hb dX0_goByEvents_52 (by decide) (fun _ => ?_) (fun c => absurd (by decide) c)
  refine lv_iinc (v := 1) (lv' := [(4, .int 1), (3, .int 0), (5, .int z), (2, .int 0), (0, .ref ah), (1, .int z)]) hx hb dX0_goByEvents_62 hl (k := 2) rfl (by first | rfl | decide) (by decide) rfl (fun ls hl => ?_)
  refine lv_goto (tgt := 13) hx hb dX0_goByEvents_65 (by decide) ?_
  refine lv_iload hx hb dX0_goByEvents_13 (lv_at hl 0 rfl) ?_
  refine lv_iload_n hx hb dX0_goByEvents_15 rfl (lv_at hl 5 rfl) ?_
  refine lv_icmp_ge (tgt := 68) hx hb dX0_goByEvents_16 (by decide) (fun c_16 => ?_) (fun c_16 => ?_)
  · refine lv_aload_n hx hb dX0_goByEvents_68 rfl (lv_at hl 4 rfl) ?_
    refine va_get (D := (dC, dI)) (ci := 4) (v := .ref ab) (C := RX0) (T := TX0) (N := 9) hx hb hts hiX0 hown hK hP 19 rfl rfl 2 (by decide) (hw0) (fun _ h9 => h9) rfl dX0_goByEvents_69 ?_
    refine va_get (D := (dC, dI)) (ci := 7) (v := .int 0) (C := RX3) (T := TX3) (N := 4) hx hb hts hiX3 hown hK hP 7 rfl rfl 3 (by decide) (hw2) (fun _ h9 => h9) rfl dX0_goByEvents_72 ?_
    refine lv_iload_n hx hb dX0_goByEvents_75 rfl (lv_at hl 3 rfl) ?_
    refine lv_isub hx hb dX0_goByEvents_76 ?_
    refine lt_ci (y := 0) (by first | rfl | decide) ?_
    have hP9 := hP.sub (ws' := [(ah, .inr (4, [.ref ac, .ref au, .ref ab, .ref an, .ref ak, .ref ad, .int (tm + z), .int sl, .long (en + (5 * (z).toInt64))])), (ac, .inr (5, [.ref c1, .ref c2, .ref c3, .ref c4, .ref c5, .int 15])), (c1, .inl (cI, 4, .inl (cn 0))), (c2, .inl (cI, 4, .inl (cn 1))), (c3, .inl (cI, 4, .inl (cn 0))), (c4, .inl (cI, 4, .inl (cn (tk + z)))), (c5, .inl (cI, 4, .inl (cn z))), (au, .inr (10, [.ref t1, .ref t2, .ref t3, .ref t4, .ref t5, .ref t6, .ref t7, .int 0, .int 0])), (t1, .inl (cI, 4, .inl (cn 0))), (t2, .inl (cI, 4, .inl (cn 10))), (t3, .inl (cI, 4, .inl (cn 10))), (t4, .inl (cI, 4, .inl (cn (-1)))), (t5, .inl (cI, 4, .inl (cn 0))), (t6, .inl (cI, 4, .inl (cn 0))), (t7, .inl (cI, 4, .inl (cn 110))), (ab, .inr (7, [.ref b1, .ref b2, .int 0, .int 0])), (b1, .inl (cI, 200, .inl (cn 0))), (b2, .inl (cI, 200, .inl (cn 0))), (an, .inr (6, [.ref n1, .ref n2, .ref n3, .ref n4, .ref n5, .int 0, .int 0])), (n1, .inl (cI, 8, .inl (cn 7))), (n2, .inl (cI, 8, .inl (cn 1))), (n3, .inl (cI, 8, .inl (cn 110))), (n4, .inl (cI, 8, .inl (cn 0))), (n5, .inl (cI, 8, .inl (cn 0))), (ar, .inr (9, [.ref r1, .ref r2, .int 0])), (r1, .inl (cI, 8, .inl (cn 0))), (r2, .inl (cI, 8, .inl (cn 0))), (ak, .inr (8, [.ref ar, .int 105, .int 0, .int (-1), .int 0, .int 0, .int 0])), (ad, .inr (11, [.int (-1), .int 0, .int 0, .int 0, .int 0, .int 0]))]) [19, 20, 21, 22, 23, 24, 25, 26, 0, 1, 2, 3, 4, 5, 6, 7, 8, 9, 18, 10, 11, 12, 13, 14, 15, 16, 17, 27, 28] rfl
    have hD9 := hD.sub (ws' := [(ah, .inr (4, [.ref ac, .ref au, .ref ab, .ref an, .ref ak, .ref ad, .int (tm + z), .int sl, .long (en + (5 * (z).toInt64))])), (ac, .inr (5, [.ref c1, .ref c2, .ref c3, .ref c4, .ref c5, .int 15])), (c1, .inl (cI, 4, .inl (cn 0))), (c2, .inl (cI, 4, .inl (cn 1))), (c3, .inl (cI, 4, .inl (cn 0))), (c4, .inl (cI, 4, .inl (cn (tk + z)))), (c5, .inl (cI, 4, .inl (cn z))), (au, .inr (10, [.ref t1, .ref t2, .ref t3, .ref t4, .ref t5, .ref t6, .ref t7, .int 0, .int 0])), (t1, .inl (cI, 4, .inl (cn 0))), (t2, .inl (cI, 4, .inl (cn 10))), (t3, .inl (cI, 4, .inl (cn 10))), (t4, .inl (cI, 4, .inl (cn (-1)))), (t5, .inl (cI, 4, .inl (cn 0))), (t6, .inl (cI, 4, .inl (cn 0))), (t7, .inl (cI, 4, .inl (cn 110))), (ab, .inr (7, [.ref b1, .ref b2, .int 0, .int 0])), (b1, .inl (cI, 200, .inl (cn 0))), (b2, .inl (cI, 200, .inl (cn 0))), (an, .inr (6, [.ref n1, .ref n2, .ref n3, .ref n4, .ref n5, .int 0, .int 0])), (n1, .inl (cI, 8, .inl (cn 7))), (n2, .inl (cI, 8, .inl (cn 1))), (n3, .inl (cI, 8, .inl (cn 110))), (n4, .inl (cI, 8, .inl (cn 0))), (n5, .inl (cI, 8, .inl (cn 0))), (ar, .inr (9, [.ref r1, .ref r2, .int 0])), (r1, .inl (cI, 8, .inl (cn 0))), (r2, .inl (cI, 8, .inl (cn 0))), (ak, .inr (8, [.ref ar, .int 105, .int 0, .int (-1), .int 0, .int 0, .int 0])), (ad, .inr (11, [.int (-1), .int 0, .int 0, .int 0, .int 0, .int 0]))]) [19, 20, 21, 22, 23, 24, 25, 26, 0, 1, 2, 3, 4, 5, 6, 7, 8, 9, 18, 10, 11, 12, 13, 14, 15, 16, 17, 27, 28] (by decide) rfl
    have hK9 := hK.sub (tys' := [(cI, .int)]) [0] rfl
    exact W.iret (v := 0) hx hb hr (fun t ht hW => ⟨⟨0, (), rfl, rfl, wOut_at ht hW hP9 hK9 hD9⟩, hS.F ht⟩) hS.2.2 dX0_goByEvents_77
  · refine lv_iload_n hx hb dX0_goByEvents_19 rfl (lv_at hl 1 rfl) ?_
    refine lv_if_le (tgt := 68) hx hb dX0_goByEvents_20 (by decide) (fun _ => ?_) (fun c => absurd (by decide) c)
    refine lv_aload_n hx hb dX0_goByEvents_68 rfl (lv_at hl 4 rfl) ?_
    refine va_get (D := (dC, dI)) (ci := 4) (v := .ref ab) (C := RX0) (T := TX0) (N := 9) hx hb hts hiX0 hown hK hP 19 rfl rfl 2 (by decide) (hw0) (fun _ h9 => h9) rfl dX0_goByEvents_69 ?_
    refine va_get (D := (dC, dI)) (ci := 7) (v := .int 0) (C := RX3) (T := TX3) (N := 4) hx hb hts hiX3 hown hK hP 7 rfl rfl 3 (by decide) (hw2) (fun _ h9 => h9) rfl dX0_goByEvents_72 ?_
    refine lv_iload_n hx hb dX0_goByEvents_75 rfl (lv_at hl 3 rfl) ?_
    refine lv_isub hx hb dX0_goByEvents_76 ?_
    refine lt_ci (y := 0) (by first | rfl | decide) ?_
    have hP9 := hP.sub (ws' := [(ah, .inr (4, [.ref ac, .ref au, .ref ab, .ref an, .ref ak, .ref ad, .int (tm + z), .int sl, .long (en + (5 * (z).toInt64))])), (ac, .inr (5, [.ref c1, .ref c2, .ref c3, .ref c4, .ref c5, .int 15])), (c1, .inl (cI, 4, .inl (cn 0))), (c2, .inl (cI, 4, .inl (cn 1))), (c3, .inl (cI, 4, .inl (cn 0))), (c4, .inl (cI, 4, .inl (cn (tk + z)))), (c5, .inl (cI, 4, .inl (cn z))), (au, .inr (10, [.ref t1, .ref t2, .ref t3, .ref t4, .ref t5, .ref t6, .ref t7, .int 0, .int 0])), (t1, .inl (cI, 4, .inl (cn 0))), (t2, .inl (cI, 4, .inl (cn 10))), (t3, .inl (cI, 4, .inl (cn 10))), (t4, .inl (cI, 4, .inl (cn (-1)))), (t5, .inl (cI, 4, .inl (cn 0))), (t6, .inl (cI, 4, .inl (cn 0))), (t7, .inl (cI, 4, .inl (cn 110))), (ab, .inr (7, [.ref b1, .ref b2, .int 0, .int 0])), (b1, .inl (cI, 200, .inl (cn 0))), (b2, .inl (cI, 200, .inl (cn 0))), (an, .inr (6, [.ref n1, .ref n2, .ref n3, .ref n4, .ref n5, .int 0, .int 0])), (n1, .inl (cI, 8, .inl (cn 7))), (n2, .inl (cI, 8, .inl (cn 1))), (n3, .inl (cI, 8, .inl (cn 110))), (n4, .inl (cI, 8, .inl (cn 0))), (n5, .inl (cI, 8, .inl (cn 0))), (ar, .inr (9, [.ref r1, .ref r2, .int 0])), (r1, .inl (cI, 8, .inl (cn 0))), (r2, .inl (cI, 8, .inl (cn 0))), (ak, .inr (8, [.ref ar, .int 105, .int 0, .int (-1), .int 0, .int 0, .int 0])), (ad, .inr (11, [.int (-1), .int 0, .int 0, .int 0, .int 0, .int 0]))]) [19, 20, 21, 22, 23, 24, 25, 26, 0, 1, 2, 3, 4, 5, 6, 7, 8, 9, 18, 10, 11, 12, 13, 14, 15, 16, 17, 27, 28] rfl
    have hD9 := hD.sub (ws' := [(ah, .inr (4, [.ref ac, .ref au, .ref ab, .ref an, .ref ak, .ref ad, .int (tm + z), .int sl, .long (en + (5 * (z).toInt64))])), (ac, .inr (5, [.ref c1, .ref c2, .ref c3, .ref c4, .ref c5, .int 15])), (c1, .inl (cI, 4, .inl (cn 0))), (c2, .inl (cI, 4, .inl (cn 1))), (c3, .inl (cI, 4, .inl (cn 0))), (c4, .inl (cI, 4, .inl (cn (tk + z)))), (c5, .inl (cI, 4, .inl (cn z))), (au, .inr (10, [.ref t1, .ref t2, .ref t3, .ref t4, .ref t5, .ref t6, .ref t7, .int 0, .int 0])), (t1, .inl (cI, 4, .inl (cn 0))), (t2, .inl (cI, 4, .inl (cn 10))), (t3, .inl (cI, 4, .inl (cn 10))), (t4, .inl (cI, 4, .inl (cn (-1)))), (t5, .inl (cI, 4, .inl (cn 0))), (t6, .inl (cI, 4, .inl (cn 0))), (t7, .inl (cI, 4, .inl (cn 110))), (ab, .inr (7, [.ref b1, .ref b2, .int 0, .int 0])), (b1, .inl (cI, 200, .inl (cn 0))), (b2, .inl (cI, 200, .inl (cn 0))), (an, .inr (6, [.ref n1, .ref n2, .ref n3, .ref n4, .ref n5, .int 0, .int 0])), (n1, .inl (cI, 8, .inl (cn 7))), (n2, .inl (cI, 8, .inl (cn 1))), (n3, .inl (cI, 8, .inl (cn 110))), (n4, .inl (cI, 8, .inl (cn 0))), (n5, .inl (cI, 8, .inl (cn 0))), (ar, .inr (9, [.ref r1, .ref r2, .int 0])), (r1, .inl (cI, 8, .inl (cn 0))), (r2, .inl (cI, 8, .inl (cn 0))), (ak, .inr (8, [.ref ar, .int 105, .int 0, .int (-1), .int 0, .int 0, .int 0])), (ad, .inr (11, [.int (-1), .int 0, .int 0, .int 0, .int 0, .int 0]))]) [19, 20, 21, 22, 23, 24, 25, 26, 0, 1, 2, 3, 4, 5, 6, 7, 8, 9, 18, 10, 11, 12, 13, 14, 15, 16, 17, 27, 28] (by decide) rfl
    have hK9 := hK.sub (tys' := [(cI, .int)]) [0] rfl
    exact W.iret (v := 0) hx hb hr (fun t ht hW => ⟨⟨0, (), rfl, rfl, wOut_at ht hW hP9 hK9 hD9⟩, hS.F ht⟩) hS.2.2 dX0_goByEvents_77

set_option maxHeartbeats 4000000 in
set_option maxRecDepth 100000 in
theorem c_X8_copyInts_4 (l : Launch) (dC : Nat → ClassId) (dI : Nat → Nat → Nat) (g : Nat × Nat × Nat) (a : Nat) (o : Nat) (cI : ClassId) (x : Int32) (fo : Nat → Int32) (sz : Nat) : Met l yX8_copyInts wsX8_copyInts ({ frames := 1, cells := 0, slots := 0, locals := 60 } : Room) (va_Pc [.ref a, .ref o] (wIn dC dI g [(a, .inl (cI, 4, .inl (cn x))), (o, .inl (cI, 4, .inl fo))] [(cI, .int)] sz)) (va_Qv (fun (u : Unit) => True) (fun (u : Unit) (t : State) => wOut dC dI [(a, .inl (cI, 4, .inl (cn x))), (o, .inl (cI, 4, .inl (cn x)))] [(cI, .int)] (va_A [(a, .inl (cI, 4, .inl (cn x))), (o, .inl (cI, 4, .inl fo))] sz) t) (va_A [(a, .inl (cI, 4, .inl (cn x))), (o, .inl (cI, 4, .inl fo))] sz)) 0 0 (va_A [(a, .inl (cI, 4, .inl (cn x))), (o, .inl (cI, 4, .inl fo))] sz) := by
  refine Met.ofW (cc := cX8_copyInts) (maxL := 2) (ret := none) (by decide) rfl ?_
  intro p e s m args below meth c s₁ B hml hv
  obtain ⟨rfl, hsz, hP, hK, hD0, hG⟩ := hv
  have hx := B.exec
  have hb := B.bytes
  have hr := B.returns
  have hts := atoms_spec (ws := wsX8_copyInts) B.pre
  have hown : s.vm.findClass RX8 = some m.cls := findClass_of_methodNamed B.named
  have hlocks := B.notSynchronized
  subst hsz
  have hD := hD0.self (sz := s.heap.size)
  generalize hAe : va_A [(a, .inl (cI, 4, .inl (cn x))), (o, .inl (cI, 4, .inl fo))] s.heap.size = A at hD hG ⊢
  have hN := hG.1
  have hA : ∀ q : Nat, s.heap.size ≤ q → A q := fun q h => by rw [← hAe]; exact Or.inr h
  have hS : va_S A s.heap s.heap [] := va_S.rf
  have hP : va_P (dC, dI) vwCl [(a, .inl (cI, 4, .inl (cn x))), (o, .inl (cI, 4, .inl fo))] s.heap := hP
  have hw0 : (Cond.methodLink RX8 274 Lib.Math.min.name).before _ s = true := hts _ (List.mem_cons_of_mem _ (List.mem_of_getElem? (i := 0) rfl))
  have hw1 : (Cond.static Lib.Math.min.name).before _ s = true := hts _ (List.mem_cons_of_mem _ (List.mem_of_getElem? (i := 1) rfl))
  have hw2 : (Cond.initialized "java/lang/Math").before _ s = true := hts _ (List.mem_cons_of_mem _ (List.mem_of_getElem? (i := 2) rfl))
  have hw3 : (Cond.code Lib.Math.min.name Lib.Math.min.code 2 (some .int)).before _ s = true := hts _ (List.mem_cons_of_mem _ (List.mem_of_getElem? (i := 3) rfl))
  have hw4 : (Cond.methodLink RX8 280 arraycopyName).before _ s = true := hts _ (List.mem_cons_of_mem _ (List.mem_of_getElem? (i := 4) rfl))
  have hw5 : (Cond.native arraycopyName).before _ s = true := hts _ (List.mem_cons_of_mem _ (List.mem_of_getElem? (i := 5) rfl))
  have hw6 : (Cond.static arraycopyName).before _ s = true := hts _ (List.mem_cons_of_mem _ (List.mem_of_getElem? (i := 6) rfl))
  have hw7 : (Cond.initialized "java/lang/System").before _ s = true := hts _ (List.mem_cons_of_mem _ (List.mem_of_getElem? (i := 7) rfl))
  have hl := lv_entry ([.ref a, .ref o]) (n := 2) (Nat.le_of_ble_eq_true rfl)
  rw [lg_entry_eq]
  generalize (lg_sl ([.ref a, .ref o]) ++ List.replicate (2 - (lg_sl ([.ref a, .ref o])).length) Slot.unset).toArray = ls at hl ⊢
  have hl : lv_has ls 2 [(0, .ref a), (1, .ref o)] := hl
  refine lv_aload_n hx hb dX8_copyInts_0 rfl (lv_at hl 0 rfl) ?_
  refine lv_iconst (v := 0) hx hb dX8_copyInts_1 (by decide) ?_
  refine lv_aload_n hx hb dX8_copyInts_2 rfl (lv_at hl 1 rfl) ?_
  refine lv_iconst (v := 0) hx hb dX8_copyInts_3 (by decide) ?_
  refine lv_aload_n hx hb dX8_copyInts_4 rfl (lv_at hl 0 rfl) ?_
  refine va_alen (D := (dC, dI)) hx hb hK hP 0 0 rfl rfl (v := 4) rfl dX8_copyInts_5 ?_
  refine lv_aload_n hx hb dX8_copyInts_6 rfl (lv_at hl 1 rfl) ?_
  refine va_alen (D := (dC, dI)) hx hb hK hP 1 0 rfl rfl (v := 4) rfl dX8_copyInts_7 ?_
  refine va_mmin hx hb (by rw [hml]; exact hl.1.symm) hown hw0 hw1 hw2 hw3 (Nat.le_of_ble_eq_true rfl) (Nat.le_of_ble_eq_true rfl) (Nat.le_of_ble_eq_true rfl) (Nat.le_of_ble_eq_true rfl) dX8_copyInts_8 ?_
  refine lt_ci (y := 4) (by first | rfl | decide) ?_
  refine va_copyi (D := (dC, dI)) hx hb (by rw [hml]; exact hl.1.symm) hown hw4 hw5 hw6 hw7 hK hP hD hS 0 1 0 0 rfl rfl rfl rfl rfl (by decide) (by decide) (by decide) (by decide) (by decide) (fun _ _ => rfl) (Nat.le_of_ble_eq_true rfl) (by decide) dX8_copyInts_11 (fun H locs hP hD hS => ?_)
  have hP : va_P (dC, dI) vwCl [(a, .inl (cI, 4, .inl (cn x))), (o, .inl (cI, 4, .inl (va_cpy (cn x) fo 0 0 4)))] H := hP
  have hD : va_D A [(a, .inl (cI, 4, .inl (cn x))), (o, .inl (cI, 4, .inl (va_cpy (cn x) fo 0 0 4)))] := hD
  obtain ⟨hP, hD⟩ := arr_to (cn x) 1 hP hD rfl cpy_all
  have hP : va_P (dC, dI) vwCl [(a, .inl (cI, 4, .inl (cn x))), (o, .inl (cI, 4, .inl (cn x)))] H := hP
  have hD : va_D A [(a, .inl (cI, 4, .inl (cn x))), (o, .inl (cI, 4, .inl (cn x)))] := hD
  have hP9 := hP.sub (ws' := [(a, .inl (cI, 4, .inl (cn x))), (o, .inl (cI, 4, .inl (cn x)))]) [0, 1] rfl
  have hD9 := hD.sub (ws' := [(a, .inl (cI, 4, .inl (cn x))), (o, .inl (cI, 4, .inl (cn x)))]) [0, 1] (by decide) rfl
  have hK9 := hK.sub (tys' := [(cI, .int)]) [0] rfl
  exact W.vret hx hb hr (fun t ht hW => ⟨⟨(), rfl, trivial, wOut_at ht hW hP9 hK9 hD9⟩, hS.F ht⟩) hS.2.2 dX8_copyInts_14

set_option maxHeartbeats 4000000 in
set_option maxRecDepth 100000 in
theorem c_X8_copyInts_8 (l : Launch) (dC : Nat → ClassId) (dI : Nat → Nat → Nat) (g : Nat × Nat × Nat) (a : Nat) (o : Nat) (cI : ClassId) (x : Int32) (fo : Nat → Int32) (sz : Nat) : Met l yX8_copyInts wsX8_copyInts ({ frames := 1, cells := 0, slots := 0, locals := 60 } : Room) (va_Pc [.ref a, .ref o] (wIn dC dI g [(a, .inl (cI, 8, .inl (cn x))), (o, .inl (cI, 8, .inl fo))] [(cI, .int)] sz)) (va_Qv (fun (u : Unit) => True) (fun (u : Unit) (t : State) => wOut dC dI [(a, .inl (cI, 8, .inl (cn x))), (o, .inl (cI, 8, .inl (cn x)))] [(cI, .int)] (va_A [(a, .inl (cI, 8, .inl (cn x))), (o, .inl (cI, 8, .inl fo))] sz) t) (va_A [(a, .inl (cI, 8, .inl (cn x))), (o, .inl (cI, 8, .inl fo))] sz)) 0 0 (va_A [(a, .inl (cI, 8, .inl (cn x))), (o, .inl (cI, 8, .inl fo))] sz) := by
  refine Met.ofW (cc := cX8_copyInts) (maxL := 2) (ret := none) (by decide) rfl ?_
  intro p e s m args below meth c s₁ B hml hv
  obtain ⟨rfl, hsz, hP, hK, hD0, hG⟩ := hv
  have hx := B.exec
  have hb := B.bytes
  have hr := B.returns
  have hts := atoms_spec (ws := wsX8_copyInts) B.pre
  have hown : s.vm.findClass RX8 = some m.cls := findClass_of_methodNamed B.named
  have hlocks := B.notSynchronized
  subst hsz
  have hD := hD0.self (sz := s.heap.size)
  generalize hAe : va_A [(a, .inl (cI, 8, .inl (cn x))), (o, .inl (cI, 8, .inl fo))] s.heap.size = A at hD hG ⊢
  have hN := hG.1
  have hA : ∀ q : Nat, s.heap.size ≤ q → A q := fun q h => by rw [← hAe]; exact Or.inr h
  have hS : va_S A s.heap s.heap [] := va_S.rf
  have hP : va_P (dC, dI) vwCl [(a, .inl (cI, 8, .inl (cn x))), (o, .inl (cI, 8, .inl fo))] s.heap := hP
  have hw0 : (Cond.methodLink RX8 274 Lib.Math.min.name).before _ s = true := hts _ (List.mem_cons_of_mem _ (List.mem_of_getElem? (i := 0) rfl))
  have hw1 : (Cond.static Lib.Math.min.name).before _ s = true := hts _ (List.mem_cons_of_mem _ (List.mem_of_getElem? (i := 1) rfl))
  have hw2 : (Cond.initialized "java/lang/Math").before _ s = true := hts _ (List.mem_cons_of_mem _ (List.mem_of_getElem? (i := 2) rfl))
  have hw3 : (Cond.code Lib.Math.min.name Lib.Math.min.code 2 (some .int)).before _ s = true := hts _ (List.mem_cons_of_mem _ (List.mem_of_getElem? (i := 3) rfl))
  have hw4 : (Cond.methodLink RX8 280 arraycopyName).before _ s = true := hts _ (List.mem_cons_of_mem _ (List.mem_of_getElem? (i := 4) rfl))
  have hw5 : (Cond.native arraycopyName).before _ s = true := hts _ (List.mem_cons_of_mem _ (List.mem_of_getElem? (i := 5) rfl))
  have hw6 : (Cond.static arraycopyName).before _ s = true := hts _ (List.mem_cons_of_mem _ (List.mem_of_getElem? (i := 6) rfl))
  have hw7 : (Cond.initialized "java/lang/System").before _ s = true := hts _ (List.mem_cons_of_mem _ (List.mem_of_getElem? (i := 7) rfl))
  have hl := lv_entry ([.ref a, .ref o]) (n := 2) (Nat.le_of_ble_eq_true rfl)
  rw [lg_entry_eq]
  generalize (lg_sl ([.ref a, .ref o]) ++ List.replicate (2 - (lg_sl ([.ref a, .ref o])).length) Slot.unset).toArray = ls at hl ⊢
  have hl : lv_has ls 2 [(0, .ref a), (1, .ref o)] := hl
  refine lv_aload_n hx hb dX8_copyInts_0 rfl (lv_at hl 0 rfl) ?_
  refine lv_iconst (v := 0) hx hb dX8_copyInts_1 (by decide) ?_
  refine lv_aload_n hx hb dX8_copyInts_2 rfl (lv_at hl 1 rfl) ?_
  refine lv_iconst (v := 0) hx hb dX8_copyInts_3 (by decide) ?_
  refine lv_aload_n hx hb dX8_copyInts_4 rfl (lv_at hl 0 rfl) ?_
  refine va_alen (D := (dC, dI)) hx hb hK hP 0 0 rfl rfl (v := 8) rfl dX8_copyInts_5 ?_
  refine lv_aload_n hx hb dX8_copyInts_6 rfl (lv_at hl 1 rfl) ?_
  refine va_alen (D := (dC, dI)) hx hb hK hP 1 0 rfl rfl (v := 8) rfl dX8_copyInts_7 ?_
  refine va_mmin hx hb (by rw [hml]; exact hl.1.symm) hown hw0 hw1 hw2 hw3 (Nat.le_of_ble_eq_true rfl) (Nat.le_of_ble_eq_true rfl) (Nat.le_of_ble_eq_true rfl) (Nat.le_of_ble_eq_true rfl) dX8_copyInts_8 ?_
  refine lt_ci (y := 8) (by first | rfl | decide) ?_
  refine va_copyi (D := (dC, dI)) hx hb (by rw [hml]; exact hl.1.symm) hown hw4 hw5 hw6 hw7 hK hP hD hS 0 1 0 0 rfl rfl rfl rfl rfl (by decide) (by decide) (by decide) (by decide) (by decide) (fun _ _ => rfl) (Nat.le_of_ble_eq_true rfl) (by decide) dX8_copyInts_11 (fun H locs hP hD hS => ?_)
  have hP : va_P (dC, dI) vwCl [(a, .inl (cI, 8, .inl (cn x))), (o, .inl (cI, 8, .inl (va_cpy (cn x) fo 0 0 8)))] H := hP
  have hD : va_D A [(a, .inl (cI, 8, .inl (cn x))), (o, .inl (cI, 8, .inl (va_cpy (cn x) fo 0 0 8)))] := hD
  obtain ⟨hP, hD⟩ := arr_to (cn x) 1 hP hD rfl cpy_all
  have hP : va_P (dC, dI) vwCl [(a, .inl (cI, 8, .inl (cn x))), (o, .inl (cI, 8, .inl (cn x)))] H := hP
  have hD : va_D A [(a, .inl (cI, 8, .inl (cn x))), (o, .inl (cI, 8, .inl (cn x)))] := hD
  have hP9 := hP.sub (ws' := [(a, .inl (cI, 8, .inl (cn x))), (o, .inl (cI, 8, .inl (cn x)))]) [0, 1] rfl
  have hD9 := hD.sub (ws' := [(a, .inl (cI, 8, .inl (cn x))), (o, .inl (cI, 8, .inl (cn x)))]) [0, 1] (by decide) rfl
  have hK9 := hK.sub (tys' := [(cI, .int)]) [0] rfl
  exact W.vret hx hb hr (fun t ht hW => ⟨⟨(), rfl, trivial, wOut_at ht hW hP9 hK9 hD9⟩, hS.F ht⟩) hS.2.2 dX8_copyInts_14

set_option maxHeartbeats 4000000 in
set_option maxRecDepth 100000 in
theorem c_X8_copyInts_200 (l : Launch) (dC : Nat → ClassId) (dI : Nat → Nat → Nat) (g : Nat × Nat × Nat) (a : Nat) (o : Nat) (cI : ClassId) (x : Int32) (fo : Nat → Int32) (sz : Nat) : Met l yX8_copyInts wsX8_copyInts ({ frames := 1, cells := 0, slots := 0, locals := 60 } : Room) (va_Pc [.ref a, .ref o] (wIn dC dI g [(a, .inl (cI, 200, .inl (cn x))), (o, .inl (cI, 200, .inl fo))] [(cI, .int)] sz)) (va_Qv (fun (u : Unit) => True) (fun (u : Unit) (t : State) => wOut dC dI [(a, .inl (cI, 200, .inl (cn x))), (o, .inl (cI, 200, .inl (cn x)))] [(cI, .int)] (va_A [(a, .inl (cI, 200, .inl (cn x))), (o, .inl (cI, 200, .inl fo))] sz) t) (va_A [(a, .inl (cI, 200, .inl (cn x))), (o, .inl (cI, 200, .inl fo))] sz)) 0 0 (va_A [(a, .inl (cI, 200, .inl (cn x))), (o, .inl (cI, 200, .inl fo))] sz) := by
  refine Met.ofW (cc := cX8_copyInts) (maxL := 2) (ret := none) (by decide) rfl ?_
  intro p e s m args below meth c s₁ B hml hv
  obtain ⟨rfl, hsz, hP, hK, hD0, hG⟩ := hv
  have hx := B.exec
  have hb := B.bytes
  have hr := B.returns
  have hts := atoms_spec (ws := wsX8_copyInts) B.pre
  have hown : s.vm.findClass RX8 = some m.cls := findClass_of_methodNamed B.named
  have hlocks := B.notSynchronized
  subst hsz
  have hD := hD0.self (sz := s.heap.size)
  generalize hAe : va_A [(a, .inl (cI, 200, .inl (cn x))), (o, .inl (cI, 200, .inl fo))] s.heap.size = A at hD hG ⊢
  have hN := hG.1
  have hA : ∀ q : Nat, s.heap.size ≤ q → A q := fun q h => by rw [← hAe]; exact Or.inr h
  have hS : va_S A s.heap s.heap [] := va_S.rf
  have hP : va_P (dC, dI) vwCl [(a, .inl (cI, 200, .inl (cn x))), (o, .inl (cI, 200, .inl fo))] s.heap := hP
  have hw0 : (Cond.methodLink RX8 274 Lib.Math.min.name).before _ s = true := hts _ (List.mem_cons_of_mem _ (List.mem_of_getElem? (i := 0) rfl))
  have hw1 : (Cond.static Lib.Math.min.name).before _ s = true := hts _ (List.mem_cons_of_mem _ (List.mem_of_getElem? (i := 1) rfl))
  have hw2 : (Cond.initialized "java/lang/Math").before _ s = true := hts _ (List.mem_cons_of_mem _ (List.mem_of_getElem? (i := 2) rfl))
  have hw3 : (Cond.code Lib.Math.min.name Lib.Math.min.code 2 (some .int)).before _ s = true := hts _ (List.mem_cons_of_mem _ (List.mem_of_getElem? (i := 3) rfl))
  have hw4 : (Cond.methodLink RX8 280 arraycopyName).before _ s = true := hts _ (List.mem_cons_of_mem _ (List.mem_of_getElem? (i := 4) rfl))
  have hw5 : (Cond.native arraycopyName).before _ s = true := hts _ (List.mem_cons_of_mem _ (List.mem_of_getElem? (i := 5) rfl))
  have hw6 : (Cond.static arraycopyName).before _ s = true := hts _ (List.mem_cons_of_mem _ (List.mem_of_getElem? (i := 6) rfl))
  have hw7 : (Cond.initialized "java/lang/System").before _ s = true := hts _ (List.mem_cons_of_mem _ (List.mem_of_getElem? (i := 7) rfl))
  have hl := lv_entry ([.ref a, .ref o]) (n := 2) (Nat.le_of_ble_eq_true rfl)
  rw [lg_entry_eq]
  generalize (lg_sl ([.ref a, .ref o]) ++ List.replicate (2 - (lg_sl ([.ref a, .ref o])).length) Slot.unset).toArray = ls at hl ⊢
  have hl : lv_has ls 2 [(0, .ref a), (1, .ref o)] := hl
  refine lv_aload_n hx hb dX8_copyInts_0 rfl (lv_at hl 0 rfl) ?_
  refine lv_iconst (v := 0) hx hb dX8_copyInts_1 (by decide) ?_
  refine lv_aload_n hx hb dX8_copyInts_2 rfl (lv_at hl 1 rfl) ?_
  refine lv_iconst (v := 0) hx hb dX8_copyInts_3 (by decide) ?_
  refine lv_aload_n hx hb dX8_copyInts_4 rfl (lv_at hl 0 rfl) ?_
  refine va_alen (D := (dC, dI)) hx hb hK hP 0 0 rfl rfl (v := 200) rfl dX8_copyInts_5 ?_
  refine lv_aload_n hx hb dX8_copyInts_6 rfl (lv_at hl 1 rfl) ?_
  refine va_alen (D := (dC, dI)) hx hb hK hP 1 0 rfl rfl (v := 200) rfl dX8_copyInts_7 ?_
  refine va_mmin hx hb (by rw [hml]; exact hl.1.symm) hown hw0 hw1 hw2 hw3 (Nat.le_of_ble_eq_true rfl) (Nat.le_of_ble_eq_true rfl) (Nat.le_of_ble_eq_true rfl) (Nat.le_of_ble_eq_true rfl) dX8_copyInts_8 ?_
  refine lt_ci (y := 200) (by first | rfl | decide) ?_
  refine va_copyi (D := (dC, dI)) hx hb (by rw [hml]; exact hl.1.symm) hown hw4 hw5 hw6 hw7 hK hP hD hS 0 1 0 0 rfl rfl rfl rfl rfl (by decide) (by decide) (by decide) (by decide) (by decide) (fun _ _ => rfl) (Nat.le_of_ble_eq_true rfl) (by decide) dX8_copyInts_11 (fun H locs hP hD hS => ?_)
  have hP : va_P (dC, dI) vwCl [(a, .inl (cI, 200, .inl (cn x))), (o, .inl (cI, 200, .inl (va_cpy (cn x) fo 0 0 200)))] H := hP
  have hD : va_D A [(a, .inl (cI, 200, .inl (cn x))), (o, .inl (cI, 200, .inl (va_cpy (cn x) fo 0 0 200)))] := hD
  obtain ⟨hP, hD⟩ := arr_to (cn x) 1 hP hD rfl cpy_all
  have hP : va_P (dC, dI) vwCl [(a, .inl (cI, 200, .inl (cn x))), (o, .inl (cI, 200, .inl (cn x)))] H := hP
  have hD : va_D A [(a, .inl (cI, 200, .inl (cn x))), (o, .inl (cI, 200, .inl (cn x)))] := hD
  have hP9 := hP.sub (ws' := [(a, .inl (cI, 200, .inl (cn x))), (o, .inl (cI, 200, .inl (cn x)))]) [0, 1] rfl
  have hD9 := hD.sub (ws' := [(a, .inl (cI, 200, .inl (cn x))), (o, .inl (cI, 200, .inl (cn x)))]) [0, 1] (by decide) rfl
  have hK9 := hK.sub (tys' := [(cI, .int)]) [0] rfl
  exact W.vret hx hb hr (fun t ht hW => ⟨⟨(), rfl, trivial, wOut_at ht hW hP9 hK9 hD9⟩, hS.F ht⟩) hS.2.2 dX8_copyInts_14

set_option maxHeartbeats 4000000 in
set_option maxRecDepth 100000 in
theorem c_X8_areSameInts_4_4 (l : Launch) (dC : Nat → ClassId) (dI : Nat → Nat → Nat) (g : Nat × Nat × Nat) (a : Nat) (o : Nat) (cI : ClassId) (x : Int32) (y : Int32) (sz : Nat) (hxy : x = y) : Met l yX8_areSameInts wsX8_areSameInts ({ frames := 0, cells := 0, slots := 0, locals := 0 } : Room) (va_Pc [.ref a, .ref o, .int 4] (wIn dC dI g [(a, .inl (cI, 4, .inl (cn x))), (o, .inl (cI, 4, .inl (cn y)))] [(cI, .int)] sz)) (va_Qi (fun (r : Int32) (u : Unit) => r = 1) (fun (u : Unit) (t : State) => wOut dC dI [(a, .inl (cI, 4, .inl (cn x))), (o, .inl (cI, 4, .inl (cn y)))] [(cI, .int)] (va_A [(a, .inl (cI, 4, .inl (cn x))), (o, .inl (cI, 4, .inl (cn y)))] sz) t) (va_A [(a, .inl (cI, 4, .inl (cn x))), (o, .inl (cI, 4, .inl (cn y)))] sz)) 0 0 (va_A [(a, .inl (cI, 4, .inl (cn x))), (o, .inl (cI, 4, .inl (cn y)))] sz) := by
  refine Met.ofW (cc := cX8_areSameInts) (maxL := 4) (ret := (some .boolean)) (by decide) rfl ?_
  intro p e s m args below meth c s₁ B hml hv
  obtain ⟨rfl, hsz, hP, hK, hD0, hG⟩ := hv
  have hx := B.exec
  have hb := B.bytes
  have hr := B.returns
  have hts := atoms_spec (ws := wsX8_areSameInts) B.pre
  have hown : s.vm.findClass RX8 = some m.cls := findClass_of_methodNamed B.named
  have hlocks := B.notSynchronized
  subst hsz
  have hD := hD0.self (sz := s.heap.size)
  generalize hAe : va_A [(a, .inl (cI, 4, .inl (cn x))), (o, .inl (cI, 4, .inl (cn y)))] s.heap.size = A at hD hG ⊢
  have hN := hG.1
  have hA : ∀ q : Nat, s.heap.size ≤ q → A q := fun q h => by rw [← hAe]; exact Or.inr h
  have hS : va_S A s.heap s.heap [] := va_S.rf
  have hP : va_P (dC, dI) vwCl [(a, .inl (cI, 4, .inl (cn x))), (o, .inl (cI, 4, .inl (cn y)))] s.heap := hP
  have hl := lv_entry ([.ref a, .ref o, .int 4]) (n := 4) (Nat.le_of_ble_eq_true rfl)
  rw [lg_entry_eq]
  generalize (lg_sl ([.ref a, .ref o, .int 4]) ++ List.replicate (4 - (lg_sl ([.ref a, .ref o, .int 4])).length) Slot.unset).toArray = ls at hl ⊢
  have hl : lv_has ls 4 [(0, .ref a), (1, .ref o), (2, .int 4)] := hl
  refine lv_iconst (v := 0) hx hb dX8_areSameInts_0 (by decide) ?_
  refine lv_istore_n (lv' := [(3, .int 0), (0, .ref a), (1, .ref o), (2, .int 4)]) hx hb dX8_areSameInts_1 rfl hl (by decide) rfl (fun ls hl => ?_)
  refine lv_iload_n hx hb dX8_areSameInts_2 rfl (lv_at hl 0 rfl) ?_
  refine lv_iload_n hx hb dX8_areSameInts_3 rfl (lv_at hl 3 rfl) ?_
  refine lv_icmp_ge (tgt := 36) hx hb dX8_areSameInts_4 (by decide) (fun c => absurd c (by decide)) (fun _ => ?_)
  refine lv_iload_n hx hb dX8_areSameInts_7 rfl (lv_at hl 0 rfl) ?_
  refine lv_aload_n hx hb dX8_areSameInts_8 rfl (lv_at hl 1 rfl) ?_
  refine va_alen (D := (dC, dI)) hx hb hK hP 0 0 rfl rfl (v := 4) rfl dX8_areSameInts_9 ?_
  refine lv_icmp_ge (tgt := 36) hx hb dX8_areSameInts_10 (by decide) (fun c => absurd c (by decide)) (fun _ => ?_)
  refine lv_iload_n hx hb dX8_areSameInts_13 rfl (lv_at hl 0 rfl) ?_
  refine lv_aload_n hx hb dX8_areSameInts_14 rfl (lv_at hl 2 rfl) ?_
  refine va_alen (D := (dC, dI)) hx hb hK hP 1 0 rfl rfl (v := 4) rfl dX8_areSameInts_15 ?_
  refine lv_icmp_ge (tgt := 36) hx hb dX8_areSameInts_16 (by decide) (fun c => absurd c (by decide)) (fun _ => ?_)
  refine lv_aload_n hx hb dX8_areSameInts_19 rfl (lv_at hl 1 rfl) ?_
  refine lv_iload_n hx hb dX8_areSameInts_20 rfl (lv_at hl 0 rfl) ?_
  refine va_iald (D := (dC, dI)) hx hb hK hP 0 0 rfl rfl (by unfold vp_in; decide) dX8_areSameInts_21 ?_
  refine lt_ci (y := x) rfl ?_
  refine lv_aload_n hx hb dX8_areSameInts_22 rfl (lv_at hl 2 rfl) ?_
  refine lv_iload_n hx hb dX8_areSameInts_23 rfl (lv_at hl 0 rfl) ?_
  refine va_iald (D := (dC, dI)) hx hb hK hP 1 0 rfl rfl (by unfold vp_in; decide) dX8_areSameInts_24 ?_
  refine lt_ci (y := y) rfl ?_
  refine lv_icmp_eq (tgt := 30) hx hb dX8_areSameInts_25 (by decide) (fun _ => ?_) (fun c => absurd (hxy) c)
  refine lv_iinc (v := 1) (lv' := [(3, .int 1), (0, .ref a), (1, .ref o), (2, .int 4)]) hx hb dX8_areSameInts_30 hl (k := 0) rfl (by first | rfl | decide) (by decide) rfl (fun ls hl => ?_)
  refine lv_goto (tgt := 2) hx hb dX8_areSameInts_33 (by decide) ?_
  refine lv_iload_n hx hb dX8_areSameInts_2 rfl (lv_at hl 0 rfl) ?_
  refine lv_iload_n hx hb dX8_areSameInts_3 rfl (lv_at hl 3 rfl) ?_
  refine lv_icmp_ge (tgt := 36) hx hb dX8_areSameInts_4 (by decide) (fun c => absurd c (by decide)) (fun _ => ?_)
  refine lv_iload_n hx hb dX8_areSameInts_7 rfl (lv_at hl 0 rfl) ?_
  refine lv_aload_n hx hb dX8_areSameInts_8 rfl (lv_at hl 1 rfl) ?_
  refine va_alen (D := (dC, dI)) hx hb hK hP 0 0 rfl rfl (v := 4) rfl dX8_areSameInts_9 ?_
  refine lv_icmp_ge (tgt := 36) hx hb dX8_areSameInts_10 (by decide) (fun c => absurd c (by decide)) (fun _ => ?_)
  refine lv_iload_n hx hb dX8_areSameInts_13 rfl (lv_at hl 0 rfl) ?_
  refine lv_aload_n hx hb dX8_areSameInts_14 rfl (lv_at hl 2 rfl) ?_
  refine va_alen (D := (dC, dI)) hx hb hK hP 1 0 rfl rfl (v := 4) rfl dX8_areSameInts_15 ?_
  refine lv_icmp_ge (tgt := 36) hx hb dX8_areSameInts_16 (by decide) (fun c => absurd c (by decide)) (fun _ => ?_)
  refine lv_aload_n hx hb dX8_areSameInts_19 rfl (lv_at hl 1 rfl) ?_
  refine lv_iload_n hx hb dX8_areSameInts_20 rfl (lv_at hl 0 rfl) ?_
  refine va_iald (D := (dC, dI)) hx hb hK hP 0 0 rfl rfl (by unfold vp_in; decide) dX8_areSameInts_21 ?_
  refine lt_ci (y := x) rfl ?_
  refine lv_aload_n hx hb dX8_areSameInts_22 rfl (lv_at hl 2 rfl) ?_
  refine lv_iload_n hx hb dX8_areSameInts_23 rfl (lv_at hl 0 rfl) ?_
  refine va_iald (D := (dC, dI)) hx hb hK hP 1 0 rfl rfl (by unfold vp_in; decide) dX8_areSameInts_24 ?_
  refine lt_ci (y := y) rfl ?_
  refine lv_icmp_eq (tgt := 30) hx hb dX8_areSameInts_25 (by decide) (fun _ => ?_) (fun c => absurd (hxy) c)
  refine lv_iinc (v := 2) (lv' := [(3, .int 2), (0, .ref a), (1, .ref o), (2, .int 4)]) hx hb dX8_areSameInts_30 hl (k := 0) rfl (by first | rfl | decide) (by decide) rfl (fun ls hl => ?_)
  refine lv_goto (tgt := 2) hx hb dX8_areSameInts_33 (by decide) ?_
  refine lv_iload_n hx hb dX8_areSameInts_2 rfl (lv_at hl 0 rfl) ?_
  refine lv_iload_n hx hb dX8_areSameInts_3 rfl (lv_at hl 3 rfl) ?_
  refine lv_icmp_ge (tgt := 36) hx hb dX8_areSameInts_4 (by decide) (fun c => absurd c (by decide)) (fun _ => ?_)
  refine lv_iload_n hx hb dX8_areSameInts_7 rfl (lv_at hl 0 rfl) ?_
  refine lv_aload_n hx hb dX8_areSameInts_8 rfl (lv_at hl 1 rfl) ?_
  refine va_alen (D := (dC, dI)) hx hb hK hP 0 0 rfl rfl (v := 4) rfl dX8_areSameInts_9 ?_
  refine lv_icmp_ge (tgt := 36) hx hb dX8_areSameInts_10 (by decide) (fun c => absurd c (by decide)) (fun _ => ?_)
  refine lv_iload_n hx hb dX8_areSameInts_13 rfl (lv_at hl 0 rfl) ?_
  refine lv_aload_n hx hb dX8_areSameInts_14 rfl (lv_at hl 2 rfl) ?_
  refine va_alen (D := (dC, dI)) hx hb hK hP 1 0 rfl rfl (v := 4) rfl dX8_areSameInts_15 ?_
  refine lv_icmp_ge (tgt := 36) hx hb dX8_areSameInts_16 (by decide) (fun c => absurd c (by decide)) (fun _ => ?_)
  refine lv_aload_n hx hb dX8_areSameInts_19 rfl (lv_at hl 1 rfl) ?_
  refine lv_iload_n hx hb dX8_areSameInts_20 rfl (lv_at hl 0 rfl) ?_
  refine va_iald (D := (dC, dI)) hx hb hK hP 0 0 rfl rfl (by unfold vp_in; decide) dX8_areSameInts_21 ?_
  refine lt_ci (y := x) rfl ?_
  refine lv_aload_n hx hb dX8_areSameInts_22 rfl (lv_at hl 2 rfl) ?_
  refine lv_iload_n hx hb dX8_areSameInts_23 rfl (lv_at hl 0 rfl) ?_
  refine va_iald (D := (dC, dI)) hx hb hK hP 1 0 rfl rfl (by unfold vp_in; decide) dX8_areSameInts_24 ?_
  refine lt_ci (y := y) rfl ?_
  refine lv_icmp_eq (tgt := 30) hx hb dX8_areSameInts_25 (by decide) (fun _ => ?_) (fun c => absurd (hxy) c)
  refine lv_iinc (v := 3) (lv' := [(3, .int 3), (0, .ref a), (1, .ref o), (2, .int 4)]) hx hb dX8_areSameInts_30 hl (k := 0) rfl (by first | rfl | decide) (by decide) rfl (fun ls hl => ?_)
  refine lv_goto (tgt := 2) hx hb dX8_areSameInts_33 (by decide) ?_
  refine lv_iload_n hx hb dX8_areSameInts_2 rfl (lv_at hl 0 rfl) ?_
  refine lv_iload_n hx hb dX8_areSameInts_3 rfl (lv_at hl 3 rfl) ?_
  refine lv_icmp_ge (tgt := 36) hx hb dX8_areSameInts_4 (by decide) (fun c => absurd c (by decide)) (fun _ => ?_)
  refine lv_iload_n hx hb dX8_areSameInts_7 rfl (lv_at hl 0 rfl) ?_
  refine lv_aload_n hx hb dX8_areSameInts_8 rfl (lv_at hl 1 rfl) ?_
  refine va_alen (D := (dC, dI)) hx hb hK hP 0 0 rfl rfl (v := 4) rfl dX8_areSameInts_9 ?_
  refine lv_icmp_ge (tgt := 36) hx hb dX8_areSameInts_10 (by decide) (fun c => absurd c (by decide)) (fun _ => ?_)
  refine lv_iload_n hx hb dX8_areSameInts_13 rfl (lv_at hl 0 rfl) ?_
  refine lv_aload_n hx hb dX8_areSameInts_14 rfl (lv_at hl 2 rfl) ?_
  refine va_alen (D := (dC, dI)) hx hb hK hP 1 0 rfl rfl (v := 4) rfl dX8_areSameInts_15 ?_
  refine lv_icmp_ge (tgt := 36) hx hb dX8_areSameInts_16 (by decide) (fun c => absurd c (by decide)) (fun _ => ?_)
  refine lv_aload_n hx hb dX8_areSameInts_19 rfl (lv_at hl 1 rfl) ?_
  refine lv_iload_n hx hb dX8_areSameInts_20 rfl (lv_at hl 0 rfl) ?_
  refine va_iald (D := (dC, dI)) hx hb hK hP 0 0 rfl rfl (by unfold vp_in; decide) dX8_areSameInts_21 ?_
  refine lt_ci (y := x) rfl ?_
  refine lv_aload_n hx hb dX8_areSameInts_22 rfl (lv_at hl 2 rfl) ?_
  refine lv_iload_n hx hb dX8_areSameInts_23 rfl (lv_at hl 0 rfl) ?_
  refine va_iald (D := (dC, dI)) hx hb hK hP 1 0 rfl rfl (by unfold vp_in; decide) dX8_areSameInts_24 ?_
  refine lt_ci (y := y) rfl ?_
  refine lv_icmp_eq (tgt := 30) hx hb dX8_areSameInts_25 (by decide) (fun _ => ?_) (fun c => absurd (hxy) c)
  refine lv_iinc (v := 4) (lv' := [(3, .int 4), (0, .ref a), (1, .ref o), (2, .int 4)]) hx hb dX8_areSameInts_30 hl (k := 0) rfl (by first | rfl | decide) (by decide) rfl (fun ls hl => ?_)
  refine lv_goto (tgt := 2) hx hb dX8_areSameInts_33 (by decide) ?_
  refine lv_iload_n hx hb dX8_areSameInts_2 rfl (lv_at hl 0 rfl) ?_
  refine lv_iload_n hx hb dX8_areSameInts_3 rfl (lv_at hl 3 rfl) ?_
  refine lv_icmp_ge (tgt := 36) hx hb dX8_areSameInts_4 (by decide) (fun _ => ?_) (fun c => absurd (by decide) c)
  refine lv_iconst (v := 1) hx hb dX8_areSameInts_36 (by decide) ?_
  have hP9 := hP.sub (ws' := [(a, .inl (cI, 4, .inl (cn x))), (o, .inl (cI, 4, .inl (cn y)))]) [0, 1] rfl
  have hD9 := hD.sub (ws' := [(a, .inl (cI, 4, .inl (cn x))), (o, .inl (cI, 4, .inl (cn y)))]) [0, 1] (by decide) rfl
  have hK9 := hK.sub (tys' := [(cI, .int)]) [0] rfl
  exact W.zret (v := 1) hx hb hr (by first | rfl | decide) (fun t ht hW => ⟨⟨1, (), rfl, rfl, wOut_at ht hW hP9 hK9 hD9⟩, hS.F ht⟩) hS.2.2 dX8_areSameInts_37

set_option maxHeartbeats 4000000 in
set_option maxRecDepth 100000 in
theorem c_X8_areSameInts_8_8 (l : Launch) (dC : Nat → ClassId) (dI : Nat → Nat → Nat) (g : Nat × Nat × Nat) (a : Nat) (o : Nat) (cI : ClassId) (x : Int32) (y : Int32) (sz : Nat) (hxy : x = y) : Met l yX8_areSameInts wsX8_areSameInts ({ frames := 0, cells := 0, slots := 0, locals := 0 } : Room) (va_Pc [.ref a, .ref o, .int 8] (wIn dC dI g [(a, .inl (cI, 8, .inl (cn x))), (o, .inl (cI, 8, .inl (cn y)))] [(cI, .int)] sz)) (va_Qi (fun (r : Int32) (u : Unit) => r = 1) (fun (u : Unit) (t : State) => wOut dC dI [(a, .inl (cI, 8, .inl (cn x))), (o, .inl (cI, 8, .inl (cn y)))] [(cI, .int)] (va_A [(a, .inl (cI, 8, .inl (cn x))), (o, .inl (cI, 8, .inl (cn y)))] sz) t) (va_A [(a, .inl (cI, 8, .inl (cn x))), (o, .inl (cI, 8, .inl (cn y)))] sz)) 0 0 (va_A [(a, .inl (cI, 8, .inl (cn x))), (o, .inl (cI, 8, .inl (cn y)))] sz) := by
  refine Met.ofW (cc := cX8_areSameInts) (maxL := 4) (ret := (some .boolean)) (by decide) rfl ?_
  intro p e s m args below meth c s₁ B hml hv
  obtain ⟨rfl, hsz, hP, hK, hD0, hG⟩ := hv
  have hx := B.exec
  have hb := B.bytes
  have hr := B.returns
  have hts := atoms_spec (ws := wsX8_areSameInts) B.pre
  have hown : s.vm.findClass RX8 = some m.cls := findClass_of_methodNamed B.named
  have hlocks := B.notSynchronized
  subst hsz
  have hD := hD0.self (sz := s.heap.size)
  generalize hAe : va_A [(a, .inl (cI, 8, .inl (cn x))), (o, .inl (cI, 8, .inl (cn y)))] s.heap.size = A at hD hG ⊢
  have hN := hG.1
  have hA : ∀ q : Nat, s.heap.size ≤ q → A q := fun q h => by rw [← hAe]; exact Or.inr h
  have hS : va_S A s.heap s.heap [] := va_S.rf
  have hP : va_P (dC, dI) vwCl [(a, .inl (cI, 8, .inl (cn x))), (o, .inl (cI, 8, .inl (cn y)))] s.heap := hP
  have hl := lv_entry ([.ref a, .ref o, .int 8]) (n := 4) (Nat.le_of_ble_eq_true rfl)
  rw [lg_entry_eq]
  generalize (lg_sl ([.ref a, .ref o, .int 8]) ++ List.replicate (4 - (lg_sl ([.ref a, .ref o, .int 8])).length) Slot.unset).toArray = ls at hl ⊢
  have hl : lv_has ls 4 [(0, .ref a), (1, .ref o), (2, .int 8)] := hl
  refine lv_iconst (v := 0) hx hb dX8_areSameInts_0 (by decide) ?_
  refine lv_istore_n (lv' := [(3, .int 0), (0, .ref a), (1, .ref o), (2, .int 8)]) hx hb dX8_areSameInts_1 rfl hl (by decide) rfl (fun ls hl => ?_)
  refine lv_iload_n hx hb dX8_areSameInts_2 rfl (lv_at hl 0 rfl) ?_
  refine lv_iload_n hx hb dX8_areSameInts_3 rfl (lv_at hl 3 rfl) ?_
  refine lv_icmp_ge (tgt := 36) hx hb dX8_areSameInts_4 (by decide) (fun c => absurd c (by decide)) (fun _ => ?_)
  refine lv_iload_n hx hb dX8_areSameInts_7 rfl (lv_at hl 0 rfl) ?_
  refine lv_aload_n hx hb dX8_areSameInts_8 rfl (lv_at hl 1 rfl) ?_
  refine va_alen (D := (dC, dI)) hx hb hK hP 0 0 rfl rfl (v := 8) rfl dX8_areSameInts_9 ?_
  refine lv_icmp_ge (tgt := 36) hx hb dX8_areSameInts_10 (by decide) (fun c => absurd c (by decide)) (fun _ => ?_)
  refine lv_iload_n hx hb dX8_areSameInts_13 rfl (lv_at hl 0 rfl) ?_
  refine lv_aload_n hx hb dX8_areSameInts_14 rfl (lv_at hl 2 rfl) ?_
  refine va_alen (D := (dC, dI)) hx hb hK hP 1 0 rfl rfl (v := 8) rfl dX8_areSameInts_15 ?_
  refine lv_icmp_ge (tgt := 36) hx hb dX8_areSameInts_16 (by decide) (fun c => absurd c (by decide)) (fun _ => ?_)
  refine lv_aload_n hx hb dX8_areSameInts_19 rfl (lv_at hl 1 rfl) ?_
  refine lv_iload_n hx hb dX8_areSameInts_20 rfl (lv_at hl 0 rfl) ?_
  refine va_iald (D := (dC, dI)) hx hb hK hP 0 0 rfl rfl (by unfold vp_in; decide) dX8_areSameInts_21 ?_
  refine lt_ci (y := x) rfl ?_
  refine lv_aload_n hx hb dX8_areSameInts_22 rfl (lv_at hl 2 rfl) ?_
  refine lv_iload_n hx hb dX8_areSameInts_23 rfl (lv_at hl 0 rfl) ?_
  refine va_iald (D := (dC, dI)) hx hb hK hP 1 0 rfl rfl (by unfold vp_in; decide) dX8_areSameInts_24 ?_
  refine lt_ci (y := y) rfl ?_
  refine lv_icmp_eq (tgt := 30) hx hb dX8_areSameInts_25 (by decide) (fun _ => ?_) (fun c => absurd (hxy) c)
  refine lv_iinc (v := 1) (lv' := [(3, .int 1), (0, .ref a), (1, .ref o), (2, .int 8)]) hx hb dX8_areSameInts_30 hl (k := 0) rfl (by first | rfl | decide) (by decide) rfl (fun ls hl => ?_)
  refine lv_goto (tgt := 2) hx hb dX8_areSameInts_33 (by decide) ?_
  refine lv_iload_n hx hb dX8_areSameInts_2 rfl (lv_at hl 0 rfl) ?_
  refine lv_iload_n hx hb dX8_areSameInts_3 rfl (lv_at hl 3 rfl) ?_
  refine lv_icmp_ge (tgt := 36) hx hb dX8_areSameInts_4 (by decide) (fun c => absurd c (by decide)) (fun _ => ?_)
  refine lv_iload_n hx hb dX8_areSameInts_7 rfl (lv_at hl 0 rfl) ?_
  refine lv_aload_n hx hb dX8_areSameInts_8 rfl (lv_at hl 1 rfl) ?_
  refine va_alen (D := (dC, dI)) hx hb hK hP 0 0 rfl rfl (v := 8) rfl dX8_areSameInts_9 ?_
  refine lv_icmp_ge (tgt := 36) hx hb dX8_areSameInts_10 (by decide) (fun c => absurd c (by decide)) (fun _ => ?_)
  refine lv_iload_n hx hb dX8_areSameInts_13 rfl (lv_at hl 0 rfl) ?_
  refine lv_aload_n hx hb dX8_areSameInts_14 rfl (lv_at hl 2 rfl) ?_
  refine va_alen (D := (dC, dI)) hx hb hK hP 1 0 rfl rfl (v := 8) rfl dX8_areSameInts_15 ?_
  refine lv_icmp_ge (tgt := 36) hx hb dX8_areSameInts_16 (by decide) (fun c => absurd c (by decide)) (fun _ => ?_)
  refine lv_aload_n hx hb dX8_areSameInts_19 rfl (lv_at hl 1 rfl) ?_
  refine lv_iload_n hx hb dX8_areSameInts_20 rfl (lv_at hl 0 rfl) ?_
  refine va_iald (D := (dC, dI)) hx hb hK hP 0 0 rfl rfl (by unfold vp_in; decide) dX8_areSameInts_21 ?_
  refine lt_ci (y := x) rfl ?_
  refine lv_aload_n hx hb dX8_areSameInts_22 rfl (lv_at hl 2 rfl) ?_
  refine lv_iload_n hx hb dX8_areSameInts_23 rfl (lv_at hl 0 rfl) ?_
  refine va_iald (D := (dC, dI)) hx hb hK hP 1 0 rfl rfl (by unfold vp_in; decide) dX8_areSameInts_24 ?_
  refine lt_ci (y := y) rfl ?_
  refine lv_icmp_eq (tgt := 30) hx hb dX8_areSameInts_25 (by decide) (fun _ => ?_) (fun c => absurd (hxy) c)
  refine lv_iinc (v := 2) (lv' := [(3, .int 2), (0, .ref a), (1, .ref o), (2, .int 8)]) hx hb dX8_areSameInts_30 hl (k := 0) rfl (by first | rfl | decide) (by decide) rfl (fun ls hl => ?_)
  refine lv_goto (tgt := 2) hx hb dX8_areSameInts_33 (by decide) ?_
  refine lv_iload_n hx hb dX8_areSameInts_2 rfl (lv_at hl 0 rfl) ?_
  refine lv_iload_n hx hb dX8_areSameInts_3 rfl (lv_at hl 3 rfl) ?_
  refine lv_icmp_ge (tgt := 36) hx hb dX8_areSameInts_4 (by decide) (fun c => absurd c (by decide)) (fun _ => ?_)
  refine lv_iload_n hx hb dX8_areSameInts_7 rfl (lv_at hl 0 rfl) ?_
  refine lv_aload_n hx hb dX8_areSameInts_8 rfl (lv_at hl 1 rfl) ?_
  refine va_alen (D := (dC, dI)) hx hb hK hP 0 0 rfl rfl (v := 8) rfl dX8_areSameInts_9 ?_
  refine lv_icmp_ge (tgt := 36) hx hb dX8_areSameInts_10 (by decide) (fun c => absurd c (by decide)) (fun _ => ?_)
  refine lv_iload_n hx hb dX8_areSameInts_13 rfl (lv_at hl 0 rfl) ?_
  refine lv_aload_n hx hb dX8_areSameInts_14 rfl (lv_at hl 2 rfl) ?_
  refine va_alen (D := (dC, dI)) hx hb hK hP 1 0 rfl rfl (v := 8) rfl dX8_areSameInts_15 ?_
  refine lv_icmp_ge (tgt := 36) hx hb dX8_areSameInts_16 (by decide) (fun c => absurd c (by decide)) (fun _ => ?_)
  refine lv_aload_n hx hb dX8_areSameInts_19 rfl (lv_at hl 1 rfl) ?_
  refine lv_iload_n hx hb dX8_areSameInts_20 rfl (lv_at hl 0 rfl) ?_
  refine va_iald (D := (dC, dI)) hx hb hK hP 0 0 rfl rfl (by unfold vp_in; decide) dX8_areSameInts_21 ?_
  refine lt_ci (y := x) rfl ?_
  refine lv_aload_n hx hb dX8_areSameInts_22 rfl (lv_at hl 2 rfl) ?_
  refine lv_iload_n hx hb dX8_areSameInts_23 rfl (lv_at hl 0 rfl) ?_
  refine va_iald (D := (dC, dI)) hx hb hK hP 1 0 rfl rfl (by unfold vp_in; decide) dX8_areSameInts_24 ?_
  refine lt_ci (y := y) rfl ?_
  refine lv_icmp_eq (tgt := 30) hx hb dX8_areSameInts_25 (by decide) (fun _ => ?_) (fun c => absurd (hxy) c)
  refine lv_iinc (v := 3) (lv' := [(3, .int 3), (0, .ref a), (1, .ref o), (2, .int 8)]) hx hb dX8_areSameInts_30 hl (k := 0) rfl (by first | rfl | decide) (by decide) rfl (fun ls hl => ?_)
  refine lv_goto (tgt := 2) hx hb dX8_areSameInts_33 (by decide) ?_
  refine lv_iload_n hx hb dX8_areSameInts_2 rfl (lv_at hl 0 rfl) ?_
  refine lv_iload_n hx hb dX8_areSameInts_3 rfl (lv_at hl 3 rfl) ?_
  refine lv_icmp_ge (tgt := 36) hx hb dX8_areSameInts_4 (by decide) (fun c => absurd c (by decide)) (fun _ => ?_)
  refine lv_iload_n hx hb dX8_areSameInts_7 rfl (lv_at hl 0 rfl) ?_
  refine lv_aload_n hx hb dX8_areSameInts_8 rfl (lv_at hl 1 rfl) ?_
  refine va_alen (D := (dC, dI)) hx hb hK hP 0 0 rfl rfl (v := 8) rfl dX8_areSameInts_9 ?_
  refine lv_icmp_ge (tgt := 36) hx hb dX8_areSameInts_10 (by decide) (fun c => absurd c (by decide)) (fun _ => ?_)
  refine lv_iload_n hx hb dX8_areSameInts_13 rfl (lv_at hl 0 rfl) ?_
  refine lv_aload_n hx hb dX8_areSameInts_14 rfl (lv_at hl 2 rfl) ?_
  refine va_alen (D := (dC, dI)) hx hb hK hP 1 0 rfl rfl (v := 8) rfl dX8_areSameInts_15 ?_
  refine lv_icmp_ge (tgt := 36) hx hb dX8_areSameInts_16 (by decide) (fun c => absurd c (by decide)) (fun _ => ?_)
  refine lv_aload_n hx hb dX8_areSameInts_19 rfl (lv_at hl 1 rfl) ?_
  refine lv_iload_n hx hb dX8_areSameInts_20 rfl (lv_at hl 0 rfl) ?_
  refine va_iald (D := (dC, dI)) hx hb hK hP 0 0 rfl rfl (by unfold vp_in; decide) dX8_areSameInts_21 ?_
  refine lt_ci (y := x) rfl ?_
  refine lv_aload_n hx hb dX8_areSameInts_22 rfl (lv_at hl 2 rfl) ?_
  refine lv_iload_n hx hb dX8_areSameInts_23 rfl (lv_at hl 0 rfl) ?_
  refine va_iald (D := (dC, dI)) hx hb hK hP 1 0 rfl rfl (by unfold vp_in; decide) dX8_areSameInts_24 ?_
  refine lt_ci (y := y) rfl ?_
  refine lv_icmp_eq (tgt := 30) hx hb dX8_areSameInts_25 (by decide) (fun _ => ?_) (fun c => absurd (hxy) c)
  refine lv_iinc (v := 4) (lv' := [(3, .int 4), (0, .ref a), (1, .ref o), (2, .int 8)]) hx hb dX8_areSameInts_30 hl (k := 0) rfl (by first | rfl | decide) (by decide) rfl (fun ls hl => ?_)
  refine lv_goto (tgt := 2) hx hb dX8_areSameInts_33 (by decide) ?_
  refine lv_iload_n hx hb dX8_areSameInts_2 rfl (lv_at hl 0 rfl) ?_
  refine lv_iload_n hx hb dX8_areSameInts_3 rfl (lv_at hl 3 rfl) ?_
  refine lv_icmp_ge (tgt := 36) hx hb dX8_areSameInts_4 (by decide) (fun c => absurd c (by decide)) (fun _ => ?_)
  refine lv_iload_n hx hb dX8_areSameInts_7 rfl (lv_at hl 0 rfl) ?_
  refine lv_aload_n hx hb dX8_areSameInts_8 rfl (lv_at hl 1 rfl) ?_
  refine va_alen (D := (dC, dI)) hx hb hK hP 0 0 rfl rfl (v := 8) rfl dX8_areSameInts_9 ?_
  refine lv_icmp_ge (tgt := 36) hx hb dX8_areSameInts_10 (by decide) (fun c => absurd c (by decide)) (fun _ => ?_)
  refine lv_iload_n hx hb dX8_areSameInts_13 rfl (lv_at hl 0 rfl) ?_
  refine lv_aload_n hx hb dX8_areSameInts_14 rfl (lv_at hl 2 rfl) ?_
  refine va_alen (D := (dC, dI)) hx hb hK hP 1 0 rfl rfl (v := 8) rfl dX8_areSameInts_15 ?_
  refine lv_icmp_ge (tgt := 36) hx hb dX8_areSameInts_16 (by decide) (fun c => absurd c (by decide)) (fun _ => ?_)
  refine lv_aload_n hx hb dX8_areSameInts_19 rfl (lv_at hl 1 rfl) ?_
  refine lv_iload_n hx hb dX8_areSameInts_20 rfl (lv_at hl 0 rfl) ?_
  refine va_iald (D := (dC, dI)) hx hb hK hP 0 0 rfl rfl (by unfold vp_in; decide) dX8_areSameInts_21 ?_
  refine lt_ci (y := x) rfl ?_
  refine lv_aload_n hx hb dX8_areSameInts_22 rfl (lv_at hl 2 rfl) ?_
  refine lv_iload_n hx hb dX8_areSameInts_23 rfl (lv_at hl 0 rfl) ?_
  refine va_iald (D := (dC, dI)) hx hb hK hP 1 0 rfl rfl (by unfold vp_in; decide) dX8_areSameInts_24 ?_
  refine lt_ci (y := y) rfl ?_
  refine lv_icmp_eq (tgt := 30) hx hb dX8_areSameInts_25 (by decide) (fun _ => ?_) (fun c => absurd (hxy) c)
  refine lv_iinc (v := 5) (lv' := [(3, .int 5), (0, .ref a), (1, .ref o), (2, .int 8)]) hx hb dX8_areSameInts_30 hl (k := 0) rfl (by first | rfl | decide) (by decide) rfl (fun ls hl => ?_)
  refine lv_goto (tgt := 2) hx hb dX8_areSameInts_33 (by decide) ?_
  refine lv_iload_n hx hb dX8_areSameInts_2 rfl (lv_at hl 0 rfl) ?_
  refine lv_iload_n hx hb dX8_areSameInts_3 rfl (lv_at hl 3 rfl) ?_
  refine lv_icmp_ge (tgt := 36) hx hb dX8_areSameInts_4 (by decide) (fun c => absurd c (by decide)) (fun _ => ?_)
  refine lv_iload_n hx hb dX8_areSameInts_7 rfl (lv_at hl 0 rfl) ?_
  refine lv_aload_n hx hb dX8_areSameInts_8 rfl (lv_at hl 1 rfl) ?_
  refine va_alen (D := (dC, dI)) hx hb hK hP 0 0 rfl rfl (v := 8) rfl dX8_areSameInts_9 ?_
  refine lv_icmp_ge (tgt := 36) hx hb dX8_areSameInts_10 (by decide) (fun c => absurd c (by decide)) (fun _ => ?_)
  refine lv_iload_n hx hb dX8_areSameInts_13 rfl (lv_at hl 0 rfl) ?_
  refine lv_aload_n hx hb dX8_areSameInts_14 rfl (lv_at hl 2 rfl) ?_
  refine va_alen (D := (dC, dI)) hx hb hK hP 1 0 rfl rfl (v := 8) rfl dX8_areSameInts_15 ?_
  refine lv_icmp_ge (tgt := 36) hx hb dX8_areSameInts_16 (by decide) (fun c => absurd c (by decide)) (fun _ => ?_)
  refine lv_aload_n hx hb dX8_areSameInts_19 rfl (lv_at hl 1 rfl) ?_
  refine lv_iload_n hx hb dX8_areSameInts_20 rfl (lv_at hl 0 rfl) ?_
  refine va_iald (D := (dC, dI)) hx hb hK hP 0 0 rfl rfl (by unfold vp_in; decide) dX8_areSameInts_21 ?_
  refine lt_ci (y := x) rfl ?_
  refine lv_aload_n hx hb dX8_areSameInts_22 rfl (lv_at hl 2 rfl) ?_
  refine lv_iload_n hx hb dX8_areSameInts_23 rfl (lv_at hl 0 rfl) ?_
  refine va_iald (D := (dC, dI)) hx hb hK hP 1 0 rfl rfl (by unfold vp_in; decide) dX8_areSameInts_24 ?_
  refine lt_ci (y := y) rfl ?_
  refine lv_icmp_eq (tgt := 30) hx hb dX8_areSameInts_25 (by decide) (fun _ => ?_) (fun c => absurd (hxy) c)
  refine lv_iinc (v := 6) (lv' := [(3, .int 6), (0, .ref a), (1, .ref o), (2, .int 8)]) hx hb dX8_areSameInts_30 hl (k := 0) rfl (by first | rfl | decide) (by decide) rfl (fun ls hl => ?_)
  refine lv_goto (tgt := 2) hx hb dX8_areSameInts_33 (by decide) ?_
  refine lv_iload_n hx hb dX8_areSameInts_2 rfl (lv_at hl 0 rfl) ?_
  refine lv_iload_n hx hb dX8_areSameInts_3 rfl (lv_at hl 3 rfl) ?_
  refine lv_icmp_ge (tgt := 36) hx hb dX8_areSameInts_4 (by decide) (fun c => absurd c (by decide)) (fun _ => ?_)
  refine lv_iload_n hx hb dX8_areSameInts_7 rfl (lv_at hl 0 rfl) ?_
  refine lv_aload_n hx hb dX8_areSameInts_8 rfl (lv_at hl 1 rfl) ?_
  refine va_alen (D := (dC, dI)) hx hb hK hP 0 0 rfl rfl (v := 8) rfl dX8_areSameInts_9 ?_
  refine lv_icmp_ge (tgt := 36) hx hb dX8_areSameInts_10 (by decide) (fun c => absurd c (by decide)) (fun _ => ?_)
  refine lv_iload_n hx hb dX8_areSameInts_13 rfl (lv_at hl 0 rfl) ?_
  refine lv_aload_n hx hb dX8_areSameInts_14 rfl (lv_at hl 2 rfl) ?_
  refine va_alen (D := (dC, dI)) hx hb hK hP 1 0 rfl rfl (v := 8) rfl dX8_areSameInts_15 ?_
  refine lv_icmp_ge (tgt := 36) hx hb dX8_areSameInts_16 (by decide) (fun c => absurd c (by decide)) (fun _ => ?_)
  refine lv_aload_n hx hb dX8_areSameInts_19 rfl (lv_at hl 1 rfl) ?_
  refine lv_iload_n hx hb dX8_areSameInts_20 rfl (lv_at hl 0 rfl) ?_
  refine va_iald (D := (dC, dI)) hx hb hK hP 0 0 rfl rfl (by unfold vp_in; decide) dX8_areSameInts_21 ?_
  refine lt_ci (y := x) rfl ?_
  refine lv_aload_n hx hb dX8_areSameInts_22 rfl (lv_at hl 2 rfl) ?_
  refine lv_iload_n hx hb dX8_areSameInts_23 rfl (lv_at hl 0 rfl) ?_
  refine va_iald (D := (dC, dI)) hx hb hK hP 1 0 rfl rfl (by unfold vp_in; decide) dX8_areSameInts_24 ?_
  refine lt_ci (y := y) rfl ?_
  refine lv_icmp_eq (tgt := 30) hx hb dX8_areSameInts_25 (by decide) (fun _ => ?_) (fun c => absurd (hxy) c)
  refine lv_iinc (v := 7) (lv' := [(3, .int 7), (0, .ref a), (1, .ref o), (2, .int 8)]) hx hb dX8_areSameInts_30 hl (k := 0) rfl (by first | rfl | decide) (by decide) rfl (fun ls hl => ?_)
  refine lv_goto (tgt := 2) hx hb dX8_areSameInts_33 (by decide) ?_
  refine lv_iload_n hx hb dX8_areSameInts_2 rfl (lv_at hl 0 rfl) ?_
  refine lv_iload_n hx hb dX8_areSameInts_3 rfl (lv_at hl 3 rfl) ?_
  refine lv_icmp_ge (tgt := 36) hx hb dX8_areSameInts_4 (by decide) (fun c => absurd c (by decide)) (fun _ => ?_)
  refine lv_iload_n hx hb dX8_areSameInts_7 rfl (lv_at hl 0 rfl) ?_
  refine lv_aload_n hx hb dX8_areSameInts_8 rfl (lv_at hl 1 rfl) ?_
  refine va_alen (D := (dC, dI)) hx hb hK hP 0 0 rfl rfl (v := 8) rfl dX8_areSameInts_9 ?_
  refine lv_icmp_ge (tgt := 36) hx hb dX8_areSameInts_10 (by decide) (fun c => absurd c (by decide)) (fun _ => ?_)
  refine lv_iload_n hx hb dX8_areSameInts_13 rfl (lv_at hl 0 rfl) ?_
  refine lv_aload_n hx hb dX8_areSameInts_14 rfl (lv_at hl 2 rfl) ?_
  refine va_alen (D := (dC, dI)) hx hb hK hP 1 0 rfl rfl (v := 8) rfl dX8_areSameInts_15 ?_
  refine lv_icmp_ge (tgt := 36) hx hb dX8_areSameInts_16 (by decide) (fun c => absurd c (by decide)) (fun _ => ?_)
  refine lv_aload_n hx hb dX8_areSameInts_19 rfl (lv_at hl 1 rfl) ?_
  refine lv_iload_n hx hb dX8_areSameInts_20 rfl (lv_at hl 0 rfl) ?_
  refine va_iald (D := (dC, dI)) hx hb hK hP 0 0 rfl rfl (by unfold vp_in; decide) dX8_areSameInts_21 ?_
  refine lt_ci (y := x) rfl ?_
  refine lv_aload_n hx hb dX8_areSameInts_22 rfl (lv_at hl 2 rfl) ?_
  refine lv_iload_n hx hb dX8_areSameInts_23 rfl (lv_at hl 0 rfl) ?_
  refine va_iald (D := (dC, dI)) hx hb hK hP 1 0 rfl rfl (by unfold vp_in; decide) dX8_areSameInts_24 ?_
  refine lt_ci (y := y) rfl ?_
  refine lv_icmp_eq (tgt := 30) hx hb dX8_areSameInts_25 (by decide) (fun _ => ?_) (fun c => absurd (hxy) c)
  refine lv_iinc (v := 8) (lv' := [(3, .int 8), (0, .ref a), (1, .ref o), (2, .int 8)]) hx hb dX8_areSameInts_30 hl (k := 0) rfl (by first | rfl | decide) (by decide) rfl (fun ls hl => ?_)
  refine lv_goto (tgt := 2) hx hb dX8_areSameInts_33 (by decide) ?_
  refine lv_iload_n hx hb dX8_areSameInts_2 rfl (lv_at hl 0 rfl) ?_
  refine lv_iload_n hx hb dX8_areSameInts_3 rfl (lv_at hl 3 rfl) ?_
  refine lv_icmp_ge (tgt := 36) hx hb dX8_areSameInts_4 (by decide) (fun _ => ?_) (fun c => absurd (by decide) c)
  refine lv_iconst (v := 1) hx hb dX8_areSameInts_36 (by decide) ?_
  have hP9 := hP.sub (ws' := [(a, .inl (cI, 8, .inl (cn x))), (o, .inl (cI, 8, .inl (cn y)))]) [0, 1] rfl
  have hD9 := hD.sub (ws' := [(a, .inl (cI, 8, .inl (cn x))), (o, .inl (cI, 8, .inl (cn y)))]) [0, 1] (by decide) rfl
  have hK9 := hK.sub (tys' := [(cI, .int)]) [0] rfl
  exact W.zret (v := 1) hx hb hr (by first | rfl | decide) (fun t ht hW => ⟨⟨1, (), rfl, rfl, wOut_at ht hW hP9 hK9 hD9⟩, hS.F ht⟩) hS.2.2 dX8_areSameInts_37

set_option maxHeartbeats 4000000 in
set_option maxRecDepth 100000 in
theorem c_X8_areSameInts_0_8 (l : Launch) (dC : Nat → ClassId) (dI : Nat → Nat → Nat) (g : Nat × Nat × Nat) (a : Nat) (o : Nat) (cI : ClassId) (x : Int32) (y : Int32) (sz : Nat) : Met l yX8_areSameInts wsX8_areSameInts ({ frames := 0, cells := 0, slots := 0, locals := 0 } : Room) (va_Pc [.ref a, .ref o, .int 0] (wIn dC dI g [(a, .inl (cI, 8, .inl (cn x))), (o, .inl (cI, 8, .inl (cn y)))] [(cI, .int)] sz)) (va_Qi (fun (r : Int32) (u : Unit) => r = 1) (fun (u : Unit) (t : State) => wOut dC dI [(a, .inl (cI, 8, .inl (cn x))), (o, .inl (cI, 8, .inl (cn y)))] [(cI, .int)] (va_A [(a, .inl (cI, 8, .inl (cn x))), (o, .inl (cI, 8, .inl (cn y)))] sz) t) (va_A [(a, .inl (cI, 8, .inl (cn x))), (o, .inl (cI, 8, .inl (cn y)))] sz)) 0 0 (va_A [(a, .inl (cI, 8, .inl (cn x))), (o, .inl (cI, 8, .inl (cn y)))] sz) := by
  refine Met.ofW (cc := cX8_areSameInts) (maxL := 4) (ret := (some .boolean)) (by decide) rfl ?_
  intro p e s m args below meth c s₁ B hml hv
  obtain ⟨rfl, hsz, hP, hK, hD0, hG⟩ := hv
  have hx := B.exec
  have hb := B.bytes
  have hr := B.returns
  have hts := atoms_spec (ws := wsX8_areSameInts) B.pre
  have hown : s.vm.findClass RX8 = some m.cls := findClass_of_methodNamed B.named
  have hlocks := B.notSynchronized
  subst hsz
  have hD := hD0.self (sz := s.heap.size)
  generalize hAe : va_A [(a, .inl (cI, 8, .inl (cn x))), (o, .inl (cI, 8, .inl (cn y)))] s.heap.size = A at hD hG ⊢
  have hN := hG.1
  have hA : ∀ q : Nat, s.heap.size ≤ q → A q := fun q h => by rw [← hAe]; exact Or.inr h
  have hS : va_S A s.heap s.heap [] := va_S.rf
  have hP : va_P (dC, dI) vwCl [(a, .inl (cI, 8, .inl (cn x))), (o, .inl (cI, 8, .inl (cn y)))] s.heap := hP
  have hl := lv_entry ([.ref a, .ref o, .int 0]) (n := 4) (Nat.le_of_ble_eq_true rfl)
  rw [lg_entry_eq]
  generalize (lg_sl ([.ref a, .ref o, .int 0]) ++ List.replicate (4 - (lg_sl ([.ref a, .ref o, .int 0])).length) Slot.unset).toArray = ls at hl ⊢
  have hl : lv_has ls 4 [(0, .ref a), (1, .ref o), (2, .int 0)] := hl
  refine lv_iconst (v := 0) hx hb dX8_areSameInts_0 (by decide) ?_
  refine lv_istore_n (lv' := [(3, .int 0), (0, .ref a), (1, .ref o), (2, .int 0)]) hx hb dX8_areSameInts_1 rfl hl (by decide) rfl (fun ls hl => ?_)
  refine lv_iload_n hx hb dX8_areSameInts_2 rfl (lv_at hl 0 rfl) ?_
  refine lv_iload_n hx hb dX8_areSameInts_3 rfl (lv_at hl 3 rfl) ?_
  refine lv_icmp_ge (tgt := 36) hx hb dX8_areSameInts_4 (by decide) (fun _ => ?_) (fun c => absurd (by decide) c)
  refine lv_iconst (v := 1) hx hb dX8_areSameInts_36 (by decide) ?_
  have hP9 := hP.sub (ws' := [(a, .inl (cI, 8, .inl (cn x))), (o, .inl (cI, 8, .inl (cn y)))]) [0, 1] rfl
  have hD9 := hD.sub (ws' := [(a, .inl (cI, 8, .inl (cn x))), (o, .inl (cI, 8, .inl (cn y)))]) [0, 1] (by decide) rfl
  have hK9 := hK.sub (tys' := [(cI, .int)]) [0] rfl
  exact W.zret (v := 1) hx hb hr (by first | rfl | decide) (fun t ht hW => ⟨⟨1, (), rfl, rfl, wOut_at ht hW hP9 hK9 hD9⟩, hS.F ht⟩) hS.2.2 dX8_areSameInts_37

set_option maxHeartbeats 4000000 in
set_option maxRecDepth 100000 in
theorem c_X8_areSameInts_0_200 (l : Launch) (dC : Nat → ClassId) (dI : Nat → Nat → Nat) (g : Nat × Nat × Nat) (a : Nat) (o : Nat) (cI : ClassId) (x : Int32) (y : Int32) (sz : Nat) : Met l yX8_areSameInts wsX8_areSameInts ({ frames := 0, cells := 0, slots := 0, locals := 0 } : Room) (va_Pc [.ref a, .ref o, .int 0] (wIn dC dI g [(a, .inl (cI, 200, .inl (cn x))), (o, .inl (cI, 200, .inl (cn y)))] [(cI, .int)] sz)) (va_Qi (fun (r : Int32) (u : Unit) => r = 1) (fun (u : Unit) (t : State) => wOut dC dI [(a, .inl (cI, 200, .inl (cn x))), (o, .inl (cI, 200, .inl (cn y)))] [(cI, .int)] (va_A [(a, .inl (cI, 200, .inl (cn x))), (o, .inl (cI, 200, .inl (cn y)))] sz) t) (va_A [(a, .inl (cI, 200, .inl (cn x))), (o, .inl (cI, 200, .inl (cn y)))] sz)) 0 0 (va_A [(a, .inl (cI, 200, .inl (cn x))), (o, .inl (cI, 200, .inl (cn y)))] sz) := by
  refine Met.ofW (cc := cX8_areSameInts) (maxL := 4) (ret := (some .boolean)) (by decide) rfl ?_
  intro p e s m args below meth c s₁ B hml hv
  obtain ⟨rfl, hsz, hP, hK, hD0, hG⟩ := hv
  have hx := B.exec
  have hb := B.bytes
  have hr := B.returns
  have hts := atoms_spec (ws := wsX8_areSameInts) B.pre
  have hown : s.vm.findClass RX8 = some m.cls := findClass_of_methodNamed B.named
  have hlocks := B.notSynchronized
  subst hsz
  have hD := hD0.self (sz := s.heap.size)
  generalize hAe : va_A [(a, .inl (cI, 200, .inl (cn x))), (o, .inl (cI, 200, .inl (cn y)))] s.heap.size = A at hD hG ⊢
  have hN := hG.1
  have hA : ∀ q : Nat, s.heap.size ≤ q → A q := fun q h => by rw [← hAe]; exact Or.inr h
  have hS : va_S A s.heap s.heap [] := va_S.rf
  have hP : va_P (dC, dI) vwCl [(a, .inl (cI, 200, .inl (cn x))), (o, .inl (cI, 200, .inl (cn y)))] s.heap := hP
  have hl := lv_entry ([.ref a, .ref o, .int 0]) (n := 4) (Nat.le_of_ble_eq_true rfl)
  rw [lg_entry_eq]
  generalize (lg_sl ([.ref a, .ref o, .int 0]) ++ List.replicate (4 - (lg_sl ([.ref a, .ref o, .int 0])).length) Slot.unset).toArray = ls at hl ⊢
  have hl : lv_has ls 4 [(0, .ref a), (1, .ref o), (2, .int 0)] := hl
  refine lv_iconst (v := 0) hx hb dX8_areSameInts_0 (by decide) ?_
  refine lv_istore_n (lv' := [(3, .int 0), (0, .ref a), (1, .ref o), (2, .int 0)]) hx hb dX8_areSameInts_1 rfl hl (by decide) rfl (fun ls hl => ?_)
  refine lv_iload_n hx hb dX8_areSameInts_2 rfl (lv_at hl 0 rfl) ?_
  refine lv_iload_n hx hb dX8_areSameInts_3 rfl (lv_at hl 3 rfl) ?_
  refine lv_icmp_ge (tgt := 36) hx hb dX8_areSameInts_4 (by decide) (fun _ => ?_) (fun c => absurd (by decide) c)
  refine lv_iconst (v := 1) hx hb dX8_areSameInts_36 (by decide) ?_
  have hP9 := hP.sub (ws' := [(a, .inl (cI, 200, .inl (cn x))), (o, .inl (cI, 200, .inl (cn y)))]) [0, 1] rfl
  have hD9 := hD.sub (ws' := [(a, .inl (cI, 200, .inl (cn x))), (o, .inl (cI, 200, .inl (cn y)))]) [0, 1] (by decide) rfl
  have hK9 := hK.sub (tys' := [(cI, .int)]) [0] rfl
  exact W.zret (v := 1) hx hb hr (by first | rfl | decide) (fun t ht hW => ⟨⟨1, (), rfl, rfl, wOut_at ht hW hP9 hK9 hD9⟩, hS.F ht⟩) hS.2.2 dX8_areSameInts_37
