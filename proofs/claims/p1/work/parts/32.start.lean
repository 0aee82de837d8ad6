/-- the law from its entry, for scripts of at most 6 ints: all that is wanted of the words is that the law's own list stands in the tables -/
theorem start_walk {p : Program} {e : Env} {s : State} {m : MethodId} {below : List Frame} {meth : Method} {c : Code} (l : Launch) (hflags : l.flags = flags0) {b L : Nat} {xs : Nat → Int32} (hL : L ≤ 6) (C0 : lw_At p s m meth c b L xs) (hin : ∀ w ∈ wsL_law, w ∈ lw_tbl) : W p l e room_1 s m #[Value.ref b] below meth c s.heap [] 0 0 (lw_Z below #[Value.ref b] s) (entryFrame m ([Value.ref b] : List Value).toArray 9) := by
  obtain ⟨hx, hb, hr, hml, hown, hts0, hX, hbl, hlocks, hgv⟩ := id C0
  have hts : ∀ w ∈ wsL_law, w.before #[Value.ref b] s = true := fun w h => hts0 w (hin w h)
  obtain ⟨dC, dI, hC⟩ := start_K hts0
  obtain ⟨g, hG⟩ := start_G hts0 hgv
  obtain ⟨cI, hI⟩ := ty_prim (ty := .int) (hts0 _ (by decide +kernel)) rfl (fun cA h => h)
  obtain ⟨cZ, hZ⟩ := ty_prim (ty := .boolean) (hts0 _ (by decide +kernel)) rfl (fun cA h => h)
  obtain ⟨cO, hO⟩ := ty_obj (C := "java/lang/Object") (s := s) hG.2.2.1
  have hK : va_K (dC, dI) vwCl [(cI, .int), (cZ, .boolean), (cO, .object "java/lang/Object")] s := ⟨hC, fun k q hk => by
    match k, hk with
    | 0, h => cases h; exact hI
    | 1, h => cases h; exact hZ
    | 2, h => cases h; exact hO
    | (n + 3), h => simp at h⟩
  exact c_L_law l (start_hl9 hflags) dC dI g b xs cI cZ cO hx hb hr hml hown hts hL hX hbl hlocks hG hK
