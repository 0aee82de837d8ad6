theorem zsh (i : Int32) : ((0 : Int32) >>> (i &&& 31)) &&& 1 = 0 := by
  rw [Int32.zero_shiftRight]
  rfl
theorem i_l0 {x : Int32} (h : ¬ x < 0) : 0 ≤ x.toInt := by
  have e : (0 : Int32).toInt = 0 := rfl
  have h1 : ¬ x.toInt < (0 : Int32).toInt := fun q => h (Int32.lt_iff_toInt_lt.mpr q)
  rw [e] at h1
  omega
theorem i_l1 {x : Int32} (h : ¬ x < 1) : 0 ≤ x.toInt := by
  have e : (1 : Int32).toInt = 1 := rfl
  have h1 : ¬ x.toInt < (1 : Int32).toInt := fun q => h (Int32.lt_iff_toInt_lt.mpr q)
  rw [e] at h1
  omega
theorem i_u4 {x : Int32} (h : x < 4) : x.toInt < (4 : Nat) := by
  have e : (4 : Int32).toInt = 4 := rfl
  have h1 := Int32.lt_iff_toInt_lt.mp h
  rw [e] at h1
  omega
theorem i_v4 {x : Int32} (h : ¬ 4 ≤ x) : x.toInt < (4 : Nat) := i_u4 (Int32.not_le.mp h)
theorem i_u8 {x : Int32} (h : x < 8) : x.toInt < (8 : Nat) := by
  have e : (8 : Int32).toInt = 8 := rfl
  have h1 := Int32.lt_iff_toInt_lt.mp h
  rw [e] at h1
  omega
theorem i_v8 {x : Int32} (h : ¬ 8 ≤ x) : x.toInt < (8 : Nat) := i_u8 (Int32.not_le.mp h)
theorem i_p0 {x : Int32} (h : ¬ x < 1) : ¬ x ≤ 0 := by
  have e : (1 : Int32).toInt = 1 := rfl
  have e0 : (0 : Int32).toInt = 0 := rfl
  have h1 : ¬ x.toInt < (1 : Int32).toInt := fun q => h (Int32.lt_iff_toInt_lt.mpr q)
  rw [e] at h1
  intro h2
  have h3 := Int32.le_iff_toInt_le.mp h2
  rw [e0] at h3
  omega
theorem i_big {x : Int32} (h : x ≤ 5000) : x < 999999999 := by
  have e : (5000 : Int32).toInt = 5000 := rfl
  have e0 : (999999999 : Int32).toInt = 999999999 := rfl
  have h1 := Int32.le_iff_toInt_le.mp h
  rw [e] at h1
  apply Int32.lt_iff_toInt_lt.mpr
  rw [e0]
  omega
theorem i_nat {x : Int32} {k : Int32} {n : Nat} (hk : k.toInt = n) (h : ¬ x < 1) (h2 : x ≤ k) : ∃ N : Nat, N ≤ n ∧ x = nI N :=
  nI_of2 hk (fun q => i_p0 h (Int32.le_of_lt q)) h2
