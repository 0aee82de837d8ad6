/-! words of a world at a call, links between nest mates, small laws -/
def nwL : List Cond := [.methodLinkNest "Tickstation" 9 ⟨"Tickstation$Chip", "<init>", "()V"⟩ "Tickstation",
  .methodLinkNest "Tickstation$Chip" 122 ⟨"Tickstation", "hasBit", "(II)Z"⟩ "Tickstation",
  .methodLinkNest "Tickstation$Chip" 158 ⟨"Tickstation", "withBit", "(IIZ)I"⟩ "Tickstation",
  .methodLinkNest "Tickstation$Chip" 27 ⟨"Tickstation$Probe", "<init>", "()V"⟩ "Tickstation",
  .methodLinkNest "Tickstation$Chip" 41 ⟨"Tickstation$Processor", "<init>", "()V"⟩ "Tickstation",
  .methodLinkNest "Tickstation$Chip" 48 ⟨"Tickstation$Watchdog", "<init>", "()V"⟩ "Tickstation",
  .methodLinkNest "Tickstation$Clocks" 37 ⟨"Tickstation", "hasBit", "(II)Z"⟩ "Tickstation",
  .methodLinkNest "Tickstation$Clocks" 52 ⟨"Tickstation", "copyInts", "([I[I)V"⟩ "Tickstation",
  .methodLinkNest "Tickstation$Clocks" 56 ⟨"Tickstation", "areSameInts", "([I[II)Z"⟩ "Tickstation",
  .methodLinkNest "Tickstation$Lines" 40 ⟨"Tickstation", "hasBit", "(II)Z"⟩ "Tickstation",
  .methodLinkNest "Tickstation$Lines" 48 ⟨"Tickstation", "copyInts", "([I[I)V"⟩ "Tickstation",
  .methodLinkNest "Tickstation$Lines" 52 ⟨"Tickstation", "areSameInts", "([I[II)Z"⟩ "Tickstation",
  .methodLinkNest "Tickstation$Probe" 22 ⟨"Tickstation", "hasBit", "(II)Z"⟩ "Tickstation",
  .methodLinkNest "Tickstation$Probe" 26 ⟨"Tickstation", "withBit", "(IIZ)I"⟩ "Tickstation",
  .methodLinkNest "Tickstation$Probe" 33 ⟨"Tickstation", "copyInts", "([I[I)V"⟩ "Tickstation",
  .methodLinkNest "Tickstation$Probe" 43 ⟨"Tickstation", "areSameInts", "([I[II)Z"⟩ "Tickstation",
  .methodLinkNest "Tickstation$Processor" 11 ⟨"Tickstation$Row", "<init>", "()V"⟩ "Tickstation",
  .methodLinkNest "Tickstation$Processor" 67 ⟨"Tickstation", "withBit", "(IIZ)I"⟩ "Tickstation",
  .methodLinkNest "Tickstation$Row" 28 ⟨"Tickstation", "copyInts", "([I[I)V"⟩ "Tickstation",
  .methodLinkNest "Tickstation$Row" 32 ⟨"Tickstation", "areSameInts", "([I[II)Z"⟩ "Tickstation",
  .methodLinkNest "Tickstation$Timers" 45 ⟨"Tickstation", "hasBit", "(II)Z"⟩ "Tickstation",
  .methodLinkNest "Tickstation$Timers" 53 ⟨"Tickstation", "withBit", "(IIZ)I"⟩ "Tickstation",
  .methodLinkNest "Tickstation$Timers" 77 ⟨"Tickstation", "copyInts", "([I[I)V"⟩ "Tickstation",
  .methodLinkNest "Tickstation$Timers" 81 ⟨"Tickstation", "areSameInts", "([I[II)Z"⟩ "Tickstation",
  .methodLinkNest "TickstationModel" 40 ⟨"TickstationModel$Clock", "<init>", "()V"⟩ "TickstationModel",
  .methodLinkNest "TickstationModel" 49 ⟨"TickstationModel$Timer", "<init>", "()V"⟩ "TickstationModel",
  .methodLinkNest "TickstationModel" 52 ⟨"TickstationModel$Line", "<init>", "()V"⟩ "TickstationModel",
  .fieldLinkNest "TickstationModel" 101 "TickstationModel$Timer" "link" "I" "TickstationModel",
  .fieldLinkNest "TickstationModel" 117 "TickstationModel$Timer" "action" "C" "TickstationModel",
  .fieldLinkNest "TickstationModel" 120 "TickstationModel$Timer" "pin" "I" "TickstationModel",
  .fieldLinkNest "TickstationModel" 123 "TickstationModel$Timer" "runs" "Z" "TickstationModel",
  .fieldLinkNest "TickstationModel" 129 "TickstationModel$Line" "rank" "I" "TickstationModel",
  .fieldLinkNest "TickstationModel" 132 "TickstationModel$Line" "isEnabled" "Z" "TickstationModel",
  .fieldLinkNest "TickstationModel" 141 "TickstationModel$Line" "beats" "I" "TickstationModel",
  .fieldLinkNest "TickstationModel" 144 "TickstationModel$Line" "action" "C" "TickstationModel",
  .fieldLinkNest "TickstationModel" 145 "TickstationModel$Line" "target" "I" "TickstationModel",
  .fieldLinkNest "TickstationModel" 164 "TickstationModel$Line" "isRequested" "Z" "TickstationModel",
  .fieldLinkNest "TickstationModel" 201 "TickstationModel$Timer" "count" "I" "TickstationModel",
  .fieldLinkNest "TickstationModel" 227 "TickstationModel$Clock" "ticks" "I" "TickstationModel",
  .fieldLinkNest "TickstationModel" 230 "TickstationModel$Clock" "count" "I" "TickstationModel",
  .fieldLinkNest "TickstationModel" 231 "TickstationModel$Timer" "overflows" "Z" "TickstationModel",
  .fieldLinkNest "TickstationModel" 273 "TickstationModel$Line" "handled" "I" "TickstationModel",
  .fieldLinkNest "TickstationModel" 70 "TickstationModel$Clock" "divider" "I" "TickstationModel",
  .fieldLinkNest "TickstationModel" 73 "TickstationModel$Clock" "source" "I" "TickstationModel",
  .fieldLinkNest "TickstationModel" 76 "TickstationModel$Clock" "isOn" "Z" "TickstationModel",
  .fieldLinkNest "TickstationModel" 89 "TickstationModel$Timer" "period" "I" "TickstationModel",
  .fieldLinkNest "TickstationModel" 92 "TickstationModel$Timer" "clock" "I" "TickstationModel",
  .fieldLinkNest "TickstationModel" 95 "TickstationModel$Timer" "compare" "I" "TickstationModel",
  .fieldLinkNest "TickstationModel" 98 "TickstationModel$Timer" "mode" "C" "TickstationModel",
  .fieldLinkNest "java/util/ArrayList$Itr" 28 "java/util/ArrayList" "size" "I" "java/util/ArrayList",
  .castable "TickstationModel$Clock" "java/lang/Object",
  .castable "TickstationModel$Line" "java/lang/Object",
  .castable "TickstationModel$Timer" "java/lang/Object",
  .castable "java/lang/ArithmeticException" "java/lang/ArithmeticException",
  .castable "java/lang/IllegalArgumentException" "java/lang/IllegalArgumentException",
  .castable "java/lang/IndexOutOfBoundsException" "java/lang/IndexOutOfBoundsException",
  .castable "java/util/NoSuchElementException" "java/util/NoSuchElementException",
  .declares ⟨"java/lang/Exception", "<init>", "(Ljava/lang/String;)V"⟩,
  .declares ⟨"java/lang/RuntimeException", "<init>", "(Ljava/lang/String;)V"⟩,
  .declares ⟨"java/lang/Throwable", "<init>", "(Ljava/lang/String;)V"⟩]
def nwK : Cond → Bool
  | .methodLinkNest _ _ _ _ => true
  | .fieldLinkNest _ _ _ _ _ _ => true
  | .castable _ _ => true
  | .declares _ => true
  | _ => false
theorem nwL_ok : ∀ w ∈ nwL, nwK w = true := by decide +kernel
def nw_ok (U : State) : Prop := ∀ w ∈ nwL, va_Nw w U
theorem nw_warm1 {w : Cond} {s U : State} (hk : nwK w = true) (hW : s.WarmedH U.vm) (h : va_Nw w s) : va_Nw w U := by
  match w, hk, h with
  | .methodLinkNest a i x q, _, h => exact va_Nw.warmM hW h
  | .fieldLinkNest a i b n d q, _, h => exact va_Nw.warmF hW h
  | .castable a b, _, h => exact va_Nw.warmC hW h
  | .declares x, _, h => exact va_Nw.warmD hW h
theorem nw_tab {w : Cond} (hk : nwK w = true) : w.onTables = true := by
  match w, hk with
  | .methodLinkNest a i x q, _ => rfl
  | .fieldLinkNest a i b n d q, _ => rfl
  | .castable a b, _ => rfl
  | .declares x, _ => rfl
theorem nw_ok.warm {s U : State} (hW : s.WarmedH U.vm) (h : nw_ok s) : nw_ok U := fun w hw => nw_warm1 (nwL_ok w hw) hW (h w hw)
theorem nw_ok.same {s U : State} (hv : s.vm = U.vm) (h : nw_ok s) : nw_ok U := fun w hw => va_Nw.same (nw_tab (nwL_ok w hw)) hv (h w hw)
def fwL : List (String × MethodName × MethodName) := [(RJx35411, ⟨"java/util/Iterator", "hasNext", "()Z"⟩, yJx35411_hasNext_aae02),
  (RJx35411, ⟨"java/util/Iterator", "next", "()Ljava/lang/Object;"⟩, yJx35411_next_0502b),
  (RJx4a65c, ⟨"java/util/List", "add", "(Ljava/lang/Object;)Z"⟩, yJx4a65c_add_9ea2d),
  (RJx4a65c, ⟨"java/util/List", "clear", "()V"⟩, yJx4a65c_clear_da8c8),
  (RJx4a65c, ⟨"java/util/List", "get", "(I)Ljava/lang/Object;"⟩, yJx4a65c_get_915e3),
  (RJx4a65c, ⟨"java/util/List", "isEmpty", "()Z"⟩, yJx4a65c_isEmpty_aae02),
  (RJx4a65c, ⟨"java/util/List", "iterator", "()Ljava/util/Iterator;"⟩, yJx4a65c_iterator_32c93),
  (RJx4a65c, ⟨"java/util/List", "remove", "(I)Ljava/lang/Object;"⟩, yJx4a65c_remove_915e3),
  (RJx4a65c, ⟨"java/util/List", "size", "()I"⟩, yJx4a65c_size_8abf5)]
theorem fwL_ok : ∀ q ∈ fwL, q.2.1.cls ≠ "java/lang/invoke/MethodHandle" ∧ q.2.1.cls ≠ "java/lang/invoke/VarHandle" := by decide +kernel
def fw_ok (U : State) : Prop := ∀ q ∈ fwL, va_Fw q.1 q.2.1 q.2.2 U
def ncL : List (String × String) := [("java/lang/IndexOutOfBoundsException", "java/lang/IllegalArgumentException"),
  ("java/lang/IndexOutOfBoundsException", "java/util/NoSuchElementException"),
  ("java/lang/IndexOutOfBoundsException", "java/lang/ArithmeticException"),
  ("java/lang/IllegalArgumentException", "java/lang/IndexOutOfBoundsException"),
  ("java/lang/IllegalArgumentException", "java/util/NoSuchElementException"),
  ("java/lang/IllegalArgumentException", "java/lang/ArithmeticException"),
  ("java/util/NoSuchElementException", "java/lang/IndexOutOfBoundsException"),
  ("java/util/NoSuchElementException", "java/lang/IllegalArgumentException"),
  ("java/util/NoSuchElementException", "java/lang/ArithmeticException"),
  ("java/lang/ArithmeticException", "java/lang/IndexOutOfBoundsException"),
  ("java/lang/ArithmeticException", "java/lang/IllegalArgumentException"),
  ("java/lang/ArithmeticException", "java/util/NoSuchElementException")]
def nc_ok (U : State) : Prop := ∀ q ∈ ncL, va_Nc q.1 q.2 U
def stL : List (String × Nat × String) := [("Tickstation", 105, "no such line"),
  ("Tickstation", 107, "the rank is out of range"),
  ("Tickstation", 121, "the number of beats is out of range"),
  ("Tickstation", 127, "no such action, or no such target of it"),
  ("Tickstation", 136, "the depth is out of range"),
  ("Tickstation", 192, "no event comes"),
  ("Tickstation", 215, "no such edge was kept"),
  ("Tickstation", 235, "no handler is begun"),
  ("Tickstation", 24, "no such clock"),
  ("Tickstation", 249, "there was no reset"),
  ("Tickstation", 260, "the time is 0"),
  ("Tickstation", 29, "the source is no clock with a lower number"),
  ("Tickstation", 33, "the divider is out of range"),
  ("Tickstation", 57, "no such timer or clock"),
  ("Tickstation", 59, "a number is out of range"),
  ("Tickstation", 61, "no such mode"),
  ("Tickstation", 84, "no such timer"),
  ("Tickstation", 86, "the other one is no timer with a lower number"),
  ("Tickstation", 88, "no such timer or pin"),
  ("Tickstation", 90, "no such action"),
  ("TickstationModel", 109, "sctn")]
def st_ok (U : State) : Prop := ∀ q ∈ stL, ∃ a : Nat, vk_R q.1 q.2.1 q.2.2 a U
/-- what the start gives beside the world: links of nest mates, the lists' interfaces, texts, static cells that nobody writes -/
def gx (g : Nat × Nat × Nat) (A : Nat → Prop) (U : State) (H : Heap) : Prop :=
  nw_ok U ∧ fw_ok U ∧ va_AO "java/lang/Object" U ∧ st_ok U ∧ vx_Zq Bundle.tN "UNASSIGNED_STACK" Bundle.steD A U H ∧ vx_Zq Bundle.tN "SUPPRESSED_SENTINEL" Bundle.listD A U H ∧
    va_Z "java/util/ArrayList" "DEFAULTCAPACITY_EMPTY_ELEMENTDATA" "[Ljava/lang/Object;" (.ref g.1) A U H ∧ va_T (.object "java/lang/Object") g.1 0 (fun _ => .null) A U H ∧
    vk_R "TickstationModel" 109 "sctn" g.2.1 U ∧ vk_S 1 [4] [[115, 99, 116, 110]] (fun _ => g.2.1) (fun _ => g.2.2) A U H ∧ nc_ok U ∧ va_Z "java/lang/String" "COMPACT_STRINGS" "Z" (.int 1) A U H
theorem gx.to {g : Nat × Nat × Nat} {A B : Nat → Prop} {s : State} {H : Heap} {locs : List Loc} (h : gx g A s s.heap) (hS : va_S A s.heap H locs) (hF : ∀ q, B q → A q) (U : State) (hU : U.heap = H) (hW : s.WarmedH U.vm) : gx g B U U.heap := by
  obtain ⟨h1, h2, h3, h4, h5, h6, h7, h8, h9, h10, h11, h12⟩ := h
  subst hU
  exact ⟨h1.warm hW, fun q hq => va_Fw.moved (fwL_ok q hq) hW.alike (h2 q hq), va_AO.moved hW.alike h3, fun q hq => (h4 q hq).elim fun a ha => ⟨a, vk_R.warm hW ha⟩,
    vx_Zq.moved hW.alike ((h5.kept hS.2.1).narrow hF), vx_Zq.moved hW.alike ((h6.kept hS.2.1).narrow hF), va_Z.moved hW.alike ((h7.kept hS.2.1).narrow hF), va_T.moved hW.alike ((h8.kept hS.2.1).narrow hF),
    vk_R.warm hW h9, vk_S.moved hW.alike ((h10.kept hS.2.1).narrow hF), fun q hq => va_Nc.moved hW.alike (h11 q hq), va_Z.moved hW.alike ((h12.kept hS.2.1).narrow hF)⟩
theorem gx.calling {g : Nat × Nat × Nat} {A : Nat → Prop} {U : State} (f : JFrame) (mk : MethodId) (a : Array Value) (h : gx g A U U.heap) : gx g A (U.calling f mk a) (U.calling f mk a).heap := by
  obtain ⟨h1, h2, h3, h4, h5, h6, h7, h8, h9, h10, h11, h12⟩ := h
  have hv : U.vm.Alike (U.calling f mk a).vm := Vm.Alike.refl U.vm
  exact ⟨nw_ok.same (s := U) rfl h1, fun q hq => va_Fw.moved (fwL_ok q hq) hv (h2 q hq), va_AO.moved hv h3, fun q hq => (h4 q hq).elim fun b hb => ⟨b, vk_R.same (u := U) rfl hb⟩,
    vx_Zq.moved hv h5, vx_Zq.moved hv h6, va_Z.moved hv h7, va_T.moved hv h8, vk_R.same (u := U) rfl h9, vk_S.moved hv h10, fun q hq => va_Nc.moved hv (h11 q hq), va_Z.moved hv h12⟩
def wIn (dC : Nat → ClassId) (dI : Nat → Nat → Nat) (g : Nat × Nat × Nat) (ws : va_W) (tys : List (ClassId × FieldType)) (sz : Nat) (U : State) : Prop :=
  U.heap.size = sz ∧ va_P (dC, dI) vwCl ws U.heap ∧ va_K (dC, dI) vwCl tys U ∧ va_D (fun _ => True) ws ∧ gx g (va_A ws sz) U U.heap
def wOut (dC : Nat → ClassId) (dI : Nat → Nat → Nat) (ws : va_W) (tys : List (ClassId × FieldType)) (A : Nat → Prop) (t : State) : Prop :=
  va_P (dC, dI) vwCl ws t.heap ∧ va_K (dC, dI) vwCl tys t ∧ va_D A ws
theorem wIn_blind {dC : Nat → ClassId} {dI : Nat → Nat → Nat} {g : Nat × Nat × Nat} {ws : va_W} {tys : List (ClassId × FieldType)} {sz : Nat} {av : List Value} : FrameBlind (va_Pc av (wIn dC dI g ws tys sz)) := fun a U f mk q => by
  obtain ⟨q0, q1, qP, qK, qD, qG⟩ := q
  exact ⟨q0, q1, qP, va_K.moved (u := U) (U := U.calling f mk a) (Vm.Alike.refl U.vm) qK, qD, gx.calling f mk a qG⟩
theorem wIn_at {dC : Nat → ClassId} {dI : Nat → Nat → Nat} {g : Nat × Nat × Nat} {ws : va_W} {tys : List (ClassId × FieldType)} {av : List Value} {H : Heap} {locs : List Loc} {s : State} {A B : Nat → Prop} (hP : va_P (dC, dI) vwCl ws H) (hK : va_K (dC, dI) vwCl tys s) (hD : va_D B ws) (hG : gx g A s s.heap) (hS : va_S A s.heap H locs) (hF : ∀ q, va_A ws H.size q → A q) : ∀ U : State, U.heap = H → s.WarmedH U.vm → va_Pc av (wIn dC dI g ws tys H.size) av.toArray U :=
  fun U hU hW => ⟨rfl, by rw [hU], by rw [hU]; exact hP, va_K.moved hW.alike hK, hD.weaken (fun _ _ _ _ => trivial), hG.to hS hF U hU hW⟩
theorem wOut_at {dC : Nat → ClassId} {dI : Nat → Nat → Nat} {ws : va_W} {tys : List (ClassId × FieldType)} {H : Heap} {s t : State} {A : Nat → Prop} (ht : t.heap = H) (hW : s.WarmedH t.vm) (hP : va_P (dC, dI) vwCl ws H) (hK : va_K (dC, dI) vwCl tys s) (hD : va_D A ws) : wOut dC dI ws tys A t :=
  ⟨by rw [ht]; exact hP, va_K.moved hW.alike hK, hD⟩
/-- an int array's class is one -/
theorem tyU {D : va_G} {cl : List vw_C} {tys : List (ClassId × FieldType)} {s : State} {cA cB : ClassId} (hK : va_K D cl tys s) (i j : Nat) (hi : tys[i]? = some (cA, .int)) (hj : tys[j]? = some (cB, .int)) : cA = cB :=
  Option.some.inj ((va_nm_int (hK.2 i _ hi).2).symm.trans (va_nm_int (hK.2 j _ hj).2))
theorem tyUz {D : va_G} {cl : List vw_C} {tys : List (ClassId × FieldType)} {s : State} {cA cB : ClassId} (hK : va_K D cl tys s) (i j : Nat) (hi : tys[i]? = some (cA, .boolean)) (hj : tys[j]? = some (cB, .boolean)) : cA = cB :=
  Option.some.inj ((va_nm_boolean (hK.2 i _ hi).2).symm.trans (va_nm_boolean (hK.2 j _ hj).2))
/-- an array of ints may be named by any function that agrees within its length -/
theorem cell_to {cA : ClassId} {n : Nat} {f g : Nat → Int32} (h : ∀ k, k < n → f k = g k) : vp_cell cA (n, .inl f) = vp_cell cA (n, .inl g) := by
  show arrV cA n (fun j => .int (f j)) = arrV cA n (fun j => .int (g j))
  unfold arrV
  have e : (Array.ofFn (n := n) fun j => Value.int (f j.val)) = Array.ofFn (n := n) fun j => Value.int (g j.val) := congrArg Array.ofFn (funext fun j => by rw [h j.val j.isLt])
  rw [e]
theorem arr_to {D : va_G} {cl : List vw_C} {ws : va_W} {H : Heap} {A : Nat → Prop} {a : Nat} {cA : ClassId} {n : Nat} {f : Nat → Int32} (g : Nat → Int32) (q0 : Nat) (hP : va_P D cl ws H) (hD : va_D A ws) (he : ws[q0]? = some (a, .inl (cA, n, .inl f))) (h : ∀ k, k < n → f k = g k) : va_P D cl (ws.set q0 (a, .inl (cA, n, .inl g))) H ∧ va_D A (ws.set q0 (a, .inl (cA, n, .inl g))) := by
  refine ⟨hP.set hD he ?_ (fun _ _ => rfl), hD.set he⟩
  have h1 : H[a]? = some (vp_cell cA (n, .inl f)) := hP q0 _ he
  show H[a]? = some (vp_cell cA (n, .inl g))
  rw [h1, cell_to h]
abbrev nn : Nat → Option Nat := fun _ => none
def cn (v : Int32) : Nat → Int32 := fun _ => v
theorem cpy_all {f g : Nat → Int32} {n : Nat} : ∀ k, k < n → va_cpy f g 0 0 n k = f k := fun k h => by
  unfold va_cpy
  rw [if_pos ⟨Nat.zero_le k, by omega⟩]
  congr 1
  omega
theorem a_z (x : Int32) : x + nI 0 = x := by rw [nI_0]; exact Int32.add_zero x
theorem a_zl (x : Int64) : x + lN (5 * 0) = x := Int64.add_zero x
theorem a_s (x : Int32) (j : Nat) : x + nI j + 1 = x + nI (j + 1) := by rw [Int32.add_assoc, nI_1]
theorem a_sl (x : Int64) (j : Nat) : x + lN (5 * j) + 5 = x + lN (5 * (j + 1)) := by
  rw [Int64.add_assoc, show (5 : Int64) = lN 5 from rfl, lN_add]
  rfl
theorem a_div1 (x : Int32) : x / 1 = x := by
  apply Int32.toInt_inj.mp
  simp [Int32.toInt_div]
theorem a_rem1 (x : Int32) : x - x / 1 * 1 = 0 := by
  rw [a_div1, Int32.mul_one]
  exact Int32.sub_self x
theorem a_back (n : Int32) : 1 + (n - 1) = n := by
  rw [Int32.add_comm]
  exact Int32.sub_add_cancel n 1
section LT
variable {p : Program} {l : Launch} {e : Env} {R : Room} {s : State} {m : MethodId} {args : Array Value} {below : List Frame} {meth : Method} {c : Code} {H : Heap} {locs : List Loc} {cells slots : Nat} {Q : State → Prop} {pc : Nat} {ls : Array Slot} {rest : List Value}
theorem lt_ci {x y : Int32} (h : x = y) (k : W p l e R s m args below meth c H locs cells slots Q (F0 m pc ls (.int y :: rest))) : W p l e R s m args below meth c H locs cells slots Q (F0 m pc ls (.int x :: rest)) := h ▸ k
theorem lt_cl {x y : Int64} (h : x = y) (k : W p l e R s m args below meth c H locs cells slots Q (F0 m pc ls (.long y :: rest))) : W p l e R s m args below meth c H locs cells slots Q (F0 m pc ls (.long x :: rest)) := h ▸ k
theorem lt_v {x y : Value} (h : x = y) (k : W p l e R s m args below meth c H locs cells slots Q (F0 m pc ls (y :: rest))) : W p l e R s m args below meth c H locs cells slots Q (F0 m pc ls (x :: rest)) := h ▸ k
end LT
theorem nw_use {args : Array Value} {s : State} (h : nw_ok s) : ∀ w ∈ nwL, w.before args s = true := fun w hw => va_Nw.use (nw_tab (nwL_ok w hw)) (h w hw)
theorem xg_194 : ∀ w ∈ Cond.classLink RX8 190 "java/util/NoSuchElementException" :: Cond.initialized "java/util/NoSuchElementException" :: ns_at RX8 194 "java/util/NoSuchElementException" 13 nsR ["java/lang/RuntimeException", "java/lang/Exception"], vx_ot w = true := by decide +kernel
theorem xh_194 : ∀ w ∈ (ns_at RX8 194 "java/util/NoSuchElementException" 13 nsR ["java/lang/RuntimeException", "java/lang/Exception"]).filter (fun w => !goodWord w), w ∈ nwL := by decide +kernel
theorem xg_26 : ∀ w ∈ Cond.classLink RX8 22 "java/lang/IndexOutOfBoundsException" :: Cond.initialized "java/lang/IndexOutOfBoundsException" :: vx_atS RX8 26 "java/lang/IndexOutOfBoundsException" ["java/lang/RuntimeException", "java/lang/Exception"], vx_ot w = true := by decide +kernel
theorem xh_26 : ∀ w ∈ (vx_atS RX8 26 "java/lang/IndexOutOfBoundsException" ["java/lang/RuntimeException", "java/lang/Exception"]).filter (fun w => !goodWord w), w ∈ nwL := by decide +kernel
theorem xg_262 : ∀ w ∈ Cond.classLink RX8 258 "java/lang/ArithmeticException" :: Cond.initialized "java/lang/ArithmeticException" :: vx_atS RX8 262 "java/lang/ArithmeticException" ["java/lang/RuntimeException", "java/lang/Exception"], vx_ot w = true := by decide +kernel
theorem xh_262 : ∀ w ∈ (vx_atS RX8 262 "java/lang/ArithmeticException" ["java/lang/RuntimeException", "java/lang/Exception"]).filter (fun w => !goodWord w), w ∈ nwL := by decide +kernel
theorem xg_35 : ∀ w ∈ Cond.classLink RX8 31 "java/lang/IllegalArgumentException" :: Cond.initialized "java/lang/IllegalArgumentException" :: vx_atS RX8 35 "java/lang/IllegalArgumentException" ["java/lang/RuntimeException", "java/lang/Exception"], vx_ot w = true := by decide +kernel
theorem xh_35 : ∀ w ∈ (vx_atS RX8 35 "java/lang/IllegalArgumentException" ["java/lang/RuntimeException", "java/lang/Exception"]).filter (fun w => !goodWord w), w ∈ nwL := by decide +kernel
