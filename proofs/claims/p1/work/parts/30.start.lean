theorem start_K {args : Array Value} {s : State} (hts : ∀ w ∈ lw_tbl, w.before args s = true) : ∃ (dC : Nat → ClassId) (dI : Nat → Nat → Nat), ∀ (c : Nat) (q : vw_C), vwCl[c]? = some q → u_Kn s q.1 q.2.1 q.2.2 (dC c) (dI c) := by
  obtain ⟨k0, i0, h0⟩ := u_known (C := RJ0) (T := TJ0) (N := 2) (n := 4) hts wsL_law_in0_wsJ00 (hts _ (by decide +kernel))
  obtain ⟨k1, i1, h1⟩ := u_known (C := RJx00060) (T := TJx00060) (N := 6) (n := 6) hts (by decide +kernel) (hts _ (by decide +kernel))
  obtain ⟨k2, i2, h2⟩ := u_known (C := RJx35411) (T := TJx35411) (N := 4) (n := 4) hts wsL_law_in0_wsJx354110 (hts _ (by decide +kernel))
  obtain ⟨k3, i3, h3⟩ := u_known (C := RJx4a65c) (T := TJx4a65c) (N := 3) (n := 3) hts wsL_law_in0_wsJx4a65c0 (hts _ (by decide +kernel))
  obtain ⟨k4, i4, h4⟩ := u_known (C := RX0) (T := TX0) (N := 9) (n := 9) hts wsL_law_in0_wsX00 (hts _ (by decide +kernel))
  obtain ⟨k5, i5, h5⟩ := u_known (C := RX1) (T := TX1) (N := 6) (n := 6) hts wsL_law_in0_wsX10 (hts _ (by decide +kernel))
  obtain ⟨k6, i6, h6⟩ := u_known (C := RX2) (T := TX2) (N := 7) (n := 7) hts wsL_law_in0_wsX20 (hts _ (by decide +kernel))
  obtain ⟨k7, i7, h7⟩ := u_known (C := RX3) (T := TX3) (N := 4) (n := 4) hts wsL_law_in0_wsX30 (hts _ (by decide +kernel))
  obtain ⟨k8, i8, h8⟩ := u_known (C := RX4) (T := TX4) (N := 7) (n := 7) hts wsL_law_in0_wsX40 (hts _ (by decide +kernel))
  obtain ⟨k9, i9, h9⟩ := u_known (C := RX5) (T := TX5) (N := 3) (n := 3) hts wsL_law_in0_wsX50 (hts _ (by decide +kernel))
  obtain ⟨k10, i10, h10⟩ := u_known (C := RX6) (T := TX6) (N := 9) (n := 9) hts wsL_law_in0_wsX60 (hts _ (by decide +kernel))
  obtain ⟨k11, i11, h11⟩ := u_known (C := RX7) (T := TX7) (N := 6) (n := 6) hts wsL_law_in0_wsX70 (hts _ (by decide +kernel))
  obtain ⟨k12, i12, h12⟩ := u_known (C := RX8) (T := TX8) (N := 3) (n := 3) hts wsL_law_in0_wsX80 (hts _ (by decide +kernel))
  obtain ⟨k13, i13, h13⟩ := u_known (C := RX9) (T := TX9) (N := 5) (n := 5) hts wsL_law_in0_wsX90 (hts _ (by decide +kernel))
  obtain ⟨k14, i14, h14⟩ := u_known (C := RX10) (T := TX10) (N := 7) (n := 7) hts wsL_law_in0_wsX100 (hts _ (by decide +kernel))
  obtain ⟨k15, i15, h15⟩ := u_known (C := RX11) (T := TX11) (N := 10) (n := 10) hts wsL_law_in0_wsX110 (hts _ (by decide +kernel))
  obtain ⟨k16, i16, h16⟩ := u_known (C := RX12) (T := TX12) (N := 23) (n := 23) hts wsL_law_in0_wsX120 (hts _ (by decide +kernel))
  refine ⟨fun c => match c with | 0 => k0 | 1 => k1 | 2 => k2 | 3 => k3 | 4 => k4 | 5 => k5 | 6 => k6 | 7 => k7 | 8 => k8 | 9 => k9 | 10 => k10 | 11 => k11 | 12 => k12 | 13 => k13 | 14 => k14 | 15 => k15 | 16 => k16 | _ => k0, fun c => match c with | 0 => i0 | 1 => i1 | 2 => i2 | 3 => i3 | 4 => i4 | 5 => i5 | 6 => i6 | 7 => i7 | 8 => i8 | 9 => i9 | 10 => i10 | 11 => i11 | 12 => i12 | 13 => i13 | 14 => i14 | 15 => i15 | 16 => i16 | _ => i0, fun c q h => ?_⟩
  match c, h with
  | 0, h => cases h; exact h0
  | 1, h => cases h; exact h1
  | 2, h => cases h; exact h2
  | 3, h => cases h; exact h3
  | 4, h => cases h; exact h4
  | 5, h => cases h; exact h5
  | 6, h => cases h; exact h6
  | 7, h => cases h; exact h7
  | 8, h => cases h; exact h8
  | 9, h => cases h; exact h9
  | 10, h => cases h; exact h10
  | 11, h => cases h; exact h11
  | 12, h => cases h; exact h12
  | 13, h => cases h; exact h13
  | 14, h => cases h; exact h14
  | 15, h => cases h; exact h15
  | 16, h => cases h; exact h16
  | (n + 17), h => simp at h
