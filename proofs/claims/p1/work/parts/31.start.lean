set_option maxRecDepth 20000 in
theorem start_G {b : Nat} {s : State} (hts : ∀ w ∈ lw_tbl, w.before #[Value.ref b] s = true) (hgv : (Jvm.Cond.and given_1 narrow_1).before #[Value.ref b] s = true) : ∃ g : Nat × Nat × Nat, gx g (fun q => s.heap.size ≤ q) s s.heap := by
  have hs := flat_of_before _ hgv
  have hA : ∀ a : Nat, a < s.heap.size → ¬ (fun q : Nat => s.heap.size ≤ q) a := fun a h => Nat.not_le.mpr h
  have t1 : ∀ w ∈ nwL, w ∈ lw_tbl := by decide +kernel
  have t2 : ∀ q ∈ fwL, Cond.declares q.2.1 ∈ lw_tbl ∧ Cond.interfaceMethod q.2.1.cls q.2.1.cls q.2.1.name q.2.1.desc ∈ lw_tbl ∧ Cond.publicMethod q.2.2 ∈ lw_tbl ∧ Cond.unhidden q.1 q.2.1.name q.2.1.desc ∈ lw_tbl ∧ Cond.castable q.1 q.2.1.cls ∈ lw_tbl := by decide +kernel
  have t3 : ∀ q ∈ stL, Cond.stringRef q.1 q.2.1 q.2.2 ∈ lw_tbl := by decide +kernel
  have t4 : ∀ q ∈ stL, Cond.exactly (.string q.1 q.2.1) "java/lang/String" ∈ flatC (Jvm.Cond.and given_1 narrow_1) := by decide +kernel
  have t5 : ∀ q ∈ ncL, Cond.not (.castable q.1 q.2) ∈ flatC (Jvm.Cond.and given_1 narrow_1) := by decide +kernel
  obtain ⟨d0, hd0, hT0⟩ := va_Tof (tm := .static "java/util/ArrayList" "DEFAULTCAPACITY_EMPTY_ELEMENTDATA" "[Ljava/lang/Object;") (ty := .object "java/lang/Object") (N := 0) (f := fun _ => .null) (A := fun q => s.heap.size ≤ q) (by decide) (hs _ (by decide +kernel)) (va_eqt (hs _ (by decide +kernel))) (fun j h => absurd h (Nat.not_lt_zero _)) hA
  obtain ⟨aK, aV, hS, hSe⟩ := vk_Sof (N := 1) (tm := fun _ => .string "TickstationModel" 109) (len := [4]) (byt := [[115, 99, 116, 110]]) (A := fun q => s.heap.size ≤ q)
    (fun i hi => by obtain rfl := Nat.lt_one_iff.mp hi; decide)
    (fun i hi => hs _ (by decide +kernel)) (fun i hi => hs _ (by decide +kernel)) (fun i hi => hs _ (by decide +kernel))
    (fun i hi => by obtain rfl := Nat.lt_one_iff.mp hi; exact hs _ (by decide +kernel))
    (fun i hi j hj => by
      obtain rfl := Nat.lt_one_iff.mp hi
      have hj : j < 4 := hj
      rcases (show j = 0 ∨ j = 1 ∨ j = 2 ∨ j = 3 by omega) with rfl | rfl | rfl | rfl <;> exact hs _ (by decide +kernel))
    (fun i j hi hj hij => absurd ((Nat.lt_one_iff.mp hi).trans (Nat.lt_one_iff.mp hj).symm) hij) hA
  have hS' : vk_S 1 [4] [[115, 99, 116, 110]] (fun _ => aK 0) (fun _ => aV 0) (fun q => s.heap.size ≤ q) s s.heap := by
    refine ⟨fun i hi => ?_, fun i j hi hj _ => (Nat.lt_one_iff.mp hi).trans (Nat.lt_one_iff.mp hj).symm⟩
    obtain rfl := Nat.lt_one_iff.mp hi
    exact hS.1 0 hi
  refine ⟨(d0, aK 0, aV 0), fun w hw => va_Nw.of (nw_tab (nwL_ok w hw)) (hts w (t1 w hw)),
    fun q hq => va_Fw.of (hts _ (t2 q hq).1) (hts _ (t2 q hq).2.1) (hts _ (t2 q hq).2.2.1) (hts _ (t2 q hq).2.2.2.1) (hts _ (t2 q hq).2.2.2.2),
    va_AO.of (A := #[Value.ref b]) (hts _ (by decide +kernel)), fun q hq => ?_,
    vx_Zqof (hts _ (by decide +kernel)) (hts _ (by decide +kernel)) (hs _ (by decide +kernel)) hA,
    vx_Zqof (hts _ (by decide +kernel)) (hts _ (by decide +kernel)) (hs _ (by decide +kernel)) hA,
    va_Zof (hts _ (by decide +kernel)) (hts _ (by decide +kernel)) hd0 hA, hT0, vk_R.of (A := #[Value.ref b]) (hts _ (t3 _ (List.mem_of_getElem? (i := 20) rfl))) (hSe 0 (by decide)), hS', fun q hq => va_Nc.of (hs _ (t5 q hq)), va_Zof (hts _ (by decide +kernel)) (hts _ (by decide +kernel)) (va_eqi (hs _ (by decide +kernel))) hA⟩
  obtain ⟨a, c, cA, kA, q1, -⟩ := Cond.exactly_spec (args := #[Value.ref b]) (first := s) (o := none) (s := s) (idx := []) (hs _ (t4 q hq))
  exact ⟨a, vk_R.of (A := #[Value.ref b]) (hts _ (t3 q hq)) q1⟩
theorem start_hl9 {l : Launch} (h : l.flags = flags0) : l.stackTraces = false := by
  unfold Launch.stackTraces
  rw [h]
  decide +kernel
