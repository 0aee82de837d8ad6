theorem vf_in_iff (x lo hi : Int64) : (vf_X12_in x lo hi = 0) ↔ (x.toInt < lo.toInt ∨ hi.toInt < x.toInt) := by
  unfold vf_X12_in
  split
  · rename_i h1
    rw [lg_cmp_lt, Int64.lt_iff_toInt_lt] at h1
    exact ⟨fun _ => Or.inl h1, fun _ => rfl⟩
  · rename_i h1
    rw [lg_cmp_lt, Int64.lt_iff_toInt_lt] at h1
    split
    · rename_i h2
      rw [lg_cmp_gt, Int64.lt_iff_toInt_lt] at h2
      exact ⟨fun _ => Or.inr h2, fun _ => rfl⟩
    · rename_i h2
      rw [lg_cmp_gt, Int64.lt_iff_toInt_lt] at h2
      exact ⟨fun h => absurd h (by decide), fun h => h.elim (fun h => absurd h h1) (fun h => absurd h h2)⟩
theorem sub1_toInt (x : Int32) : (x - 1).toInt = (x.toInt - 1).bmod 4294967296 := by
  rw [Int32.toInt_sub]
  rfl
theorem add1_toInt (x : Int32) : (x.toInt64 + 1).toInt = x.toInt + 1 := by
  have h1 := Int32.le_toInt x
  have h2 := Int32.toInt_lt x
  rw [Int64.toInt_add, Int32.toInt_toInt64]
  exact Int.bmod_eq_of_le (by show _ ≤ x.toInt + 1; omega) (by show x.toInt + 1 < _; omega)
theorem aim_iff (v3 v4 : Int32) : (vf_X12_isAim v3 v4 = 0) ↔ (v4.toInt < 0 ∨ (vf_X8_targetsOf v3).toInt ≤ v4.toInt) := by
  unfold vf_X12_isAim vf_X8_targetsOf
  by_cases h1 : v3 = 102
  · rw [if_pos h1, if_pos h1]
    by_cases h7 : v4 = 0
    · rw [if_neg (not_not_intro h7)]
      rw [← Int32.toInt_inj] at h7
      simp at h7 ⊢
      omega
    · rw [if_pos h7]
      rw [← Int32.toInt_inj] at h7
      simp at h7 ⊢
      omega
  by_cases h2 : v3 = 110
  · rw [if_neg h1, if_neg h1, if_pos h2, if_pos h2]
    by_cases h7 : v4 = 0
    · rw [if_neg (not_not_intro h7)]
      rw [← Int32.toInt_inj] at h7
      simp at h7 ⊢
      omega
    · rw [if_pos h7]
      rw [← Int32.toInt_inj] at h7
      simp at h7 ⊢
      omega
  by_cases h3 : v3 = 112
  · rw [if_neg h1, if_neg h1, if_neg h2, if_neg h2, if_pos h3, if_pos h3, vf_in_iff, Int32.toInt_toInt64]
    simp
    omega
  by_cases h4 : v3 = 113
  · have h5 : ¬ v3 = 115 := by rw [h4]; decide
    have h6 : ¬ v3 = 120 := by rw [h4]; decide
    rw [if_neg h1, if_neg h1, if_neg h2, if_neg h2, if_neg h3, if_neg h3, if_neg h5, if_neg h6, if_neg (not_not_intro h4), if_pos h4]
    by_cases h7 : vf_X12_in v4.toInt64 0 7 = 0
    · rw [if_pos h7]
      rw [vf_in_iff, Int32.toInt_toInt64] at h7
      simp at h7 ⊢
      omega
    · rw [if_neg h7]
      rw [vf_in_iff, Int32.toInt_toInt64] at h7
      simp at h7 ⊢
      omega
  by_cases h5 : v3 = 115
  · rw [if_neg h1, if_neg h1, if_neg h2, if_neg h2, if_neg h3, if_neg h3, if_pos h5, if_neg h4, if_pos h5, vf_in_iff, Int32.toInt_toInt64]
    simp
    omega
  by_cases h6 : v3 = 120
  · rw [if_neg h1, if_neg h1, if_neg h2, if_neg h2, if_neg h3, if_neg h3, if_neg h5, if_pos h6, if_neg h4, if_neg h5, if_pos h6, vf_in_iff, Int32.toInt_toInt64]
    simp
    omega
  · rw [if_neg h1, if_neg h1, if_neg h2, if_neg h2, if_neg h3, if_neg h3, if_neg h5, if_neg h6, if_pos h4, if_neg h4, if_neg h5, if_neg h6]
    simp
    omega
def cnL : Nat → Int64 := fun _ => 0
def cnD : Nat → UInt64 := fun _ => 0
set_option maxHeartbeats 20000000 in
theorem sm_X12_setClock (v1 : Int32) (v2 : Int32) (v3 : Int32) : mp_X12_setClock v1 v2 v3 = sp_X8_setClock v1 v2 v3 := by
  unfold mp_X12_setClock sp_X8_setClock
  simp only [vf_in_iff, aim_iff, ix4_ge, sub1_toInt, add1_toInt, Int32.toInt_toInt64, Int64.reduceToInt]
  simp only [← Int32.toInt_inj, Int32.lt_iff_toInt_lt, Int32.le_iff_toInt_le, Int32.reduceToInt]
  have hb1 := Int32.le_toInt v1
  have hb2 := Int32.toInt_lt v1
  have h9 : (v1.toInt - 1).bmod 4294967296 = v1.toInt - 1 ∨ v1.toInt = -2147483648 := by
    by_cases h : v1.toInt = -2147483648
    · exact Or.inr h
    · exact Or.inl (Int.bmod_eq_of_le (by omega) (by omega))
  repeat' split
  all_goals first | rfl | omega
set_option maxHeartbeats 20000000 in
theorem sm_X12_setTimer (v1 : Int32) (v2 : Int32) (v3 : Int32) (v4 : Int32) (v5 : Int32) : mp_X12_setTimer v1 v2 v3 v4 v5 = sp_X8_setTimer v1 v2 v3 v4 v5 := by
  unfold mp_X12_setTimer sp_X8_setTimer
  simp only [vf_in_iff, aim_iff, ix4_ge, sub1_toInt, add1_toInt, Int32.toInt_toInt64, Int64.reduceToInt]
  simp only [← Int32.toInt_inj, Int32.lt_iff_toInt_lt, Int32.le_iff_toInt_le, Int32.reduceToInt]
  repeat' split
  all_goals first | rfl | omega
set_option maxHeartbeats 20000000 in
theorem sm_X12_link (v1 : Int32) (v2 : Int32) : mp_X12_link v1 v2 = sp_X8_link v1 v2 := by
  unfold mp_X12_link sp_X8_link
  simp only [vf_in_iff, aim_iff, ix4_ge, sub1_toInt, add1_toInt, Int32.toInt_toInt64, Int64.reduceToInt]
  simp only [← Int32.toInt_inj, Int32.lt_iff_toInt_lt, Int32.le_iff_toInt_le, Int32.reduceToInt]
  have hb1 := Int32.le_toInt v1
  have hb2 := Int32.toInt_lt v1
  have h9 : (v1.toInt - 1).bmod 4294967296 = v1.toInt - 1 ∨ v1.toInt = -2147483648 := by
    by_cases h : v1.toInt = -2147483648
    · exact Or.inr h
    · exact Or.inl (Int.bmod_eq_of_le (by omega) (by omega))
  repeat' split
  all_goals first | rfl | omega
set_option maxHeartbeats 20000000 in
theorem sm_X12_start (v1 : Int32) : mp_X12_start v1 = sp_X8_start v1 := by
  unfold mp_X12_start sp_X8_start
  simp only [vf_in_iff, aim_iff, ix4_ge, sub1_toInt, add1_toInt, Int32.toInt_toInt64, Int64.reduceToInt]
  simp only [← Int32.toInt_inj, Int32.lt_iff_toInt_lt, Int32.le_iff_toInt_le, Int32.reduceToInt]
  repeat' split
  all_goals first | rfl | omega
set_option maxHeartbeats 20000000 in
theorem sm_X12_setLine (v1 : Int32) (v2 : Int32) : mp_X12_setLine v1 v2 = sp_X8_setLine v1 v2 := by
  unfold mp_X12_setLine sp_X8_setLine
  simp only [vf_in_iff, aim_iff, ix4_ge, sub1_toInt, add1_toInt, Int32.toInt_toInt64, Int64.reduceToInt]
  simp only [← Int32.toInt_inj, Int32.lt_iff_toInt_lt, Int32.le_iff_toInt_le, Int32.reduceToInt]
  repeat' split
  all_goals first | rfl | omega
set_option maxHeartbeats 20000000 in
theorem sm_X12_setSleep (v1 : Int32) : mp_X12_setSleep v1 = sp_X8_setSleep v1 := by
  unfold mp_X12_setSleep sp_X8_setSleep
  simp only [vf_in_iff, aim_iff, ix4_ge, sub1_toInt, add1_toInt, Int32.toInt_toInt64, Int64.reduceToInt]
  simp only [← Int32.toInt_inj, Int32.lt_iff_toInt_lt, Int32.le_iff_toInt_le, Int32.reduceToInt]
  repeat' split
  all_goals first | rfl | omega
set_option maxHeartbeats 20000000 in
theorem sm_X12_setWatchdog (v1 : Int32) (v2 : Int32) (v3 : Int32) : mp_X12_setWatchdog v1 v2 v3 = sp_X8_setWatchdog v1 v2 v3 := by
  unfold mp_X12_setWatchdog sp_X8_setWatchdog
  simp only [vf_in_iff, aim_iff, ix4_ge, sub1_toInt, add1_toInt, Int32.toInt_toInt64, Int64.reduceToInt]
  simp only [← Int32.toInt_inj, Int32.lt_iff_toInt_lt, Int32.le_iff_toInt_le, Int32.reduceToInt]
  repeat' split
  all_goals first | rfl | omega
set_option maxHeartbeats 20000000 in
theorem sm_X12_request (v1 : Int32) : mp_X12_request v1 = sp_X8_request v1 := by
  unfold mp_X12_request sp_X8_request
  simp only [vf_in_iff, aim_iff, ix4_ge, sub1_toInt, add1_toInt, Int32.toInt_toInt64, Int64.reduceToInt]
  simp only [← Int32.toInt_inj, Int32.lt_iff_toInt_lt, Int32.le_iff_toInt_le, Int32.reduceToInt]
  repeat' split
  all_goals first | rfl | omega
set_option maxHeartbeats 20000000 in
theorem sm_X12_ticks (v1 : Int32) : mp_X12_ticks v1 = sp_X8_ticks v1 := by
  unfold mp_X12_ticks sp_X8_ticks
  simp only [vf_in_iff, aim_iff, ix4_ge, sub1_toInt, add1_toInt, Int32.toInt_toInt64, Int64.reduceToInt]
  simp only [← Int32.toInt_inj, Int32.lt_iff_toInt_lt, Int32.le_iff_toInt_le, Int32.reduceToInt]
  repeat' split
  all_goals first | rfl | omega
set_option maxHeartbeats 20000000 in
theorem sm_X12_count_ (v1 : Int32) : mp_X12_count_ v1 = sp_X8_count v1 := by
  unfold mp_X12_count_ sp_X8_count
  simp only [vf_in_iff, aim_iff, ix4_ge, sub1_toInt, add1_toInt, Int32.toInt_toInt64, Int64.reduceToInt]
  simp only [← Int32.toInt_inj, Int32.lt_iff_toInt_lt, Int32.le_iff_toInt_le, Int32.reduceToInt]
  repeat' split
  all_goals first | rfl | omega
set_option maxHeartbeats 20000000 in
theorem sm_X12_isRunning (v1 : Int32) : mp_X12_isRunning v1 = sp_X8_isRunning v1 := by
  unfold mp_X12_isRunning sp_X8_isRunning
  simp only [vf_in_iff, aim_iff, ix4_ge, sub1_toInt, add1_toInt, Int32.toInt_toInt64, Int64.reduceToInt]
  simp only [← Int32.toInt_inj, Int32.lt_iff_toInt_lt, Int32.le_iff_toInt_le, Int32.reduceToInt]
  repeat' split
  all_goals first | rfl | omega
theorem kc_sp_X8_edgeTime (v1 : Int32) : sp_X8_edgeTime v1 = 1 := by
  unfold sp_X8_edgeTime
  repeat' split
  all_goals rfl
theorem kc_mp_X12_edgeTime : mp_X12_edgeTime = 1 := by
  unfold mp_X12_edgeTime
  rfl
theorem kc_sp_X8_edgePin (v1 : Int32) : sp_X8_edgePin v1 = 1 := by
  unfold sp_X8_edgePin
  repeat' split
  all_goals rfl
theorem kc_mp_X12_edgePin : mp_X12_edgePin = 1 := by
  unfold mp_X12_edgePin
  rfl
set_option maxHeartbeats 20000000 in
theorem sm_X12_isRequested (v1 : Int32) : mp_X12_isRequested v1 = sp_X8_isRequested v1 := by
  unfold mp_X12_isRequested sp_X8_isRequested
  simp only [vf_in_iff, aim_iff, ix4_ge, sub1_toInt, add1_toInt, Int32.toInt_toInt64, Int64.reduceToInt]
  simp only [← Int32.toInt_inj, Int32.lt_iff_toInt_lt, Int32.le_iff_toInt_le, Int32.reduceToInt]
  repeat' split
  all_goals first | rfl | omega
set_option maxHeartbeats 20000000 in
theorem sm_X12_handled (v1 : Int32) : mp_X12_handled v1 = sp_X8_handled v1 := by
  unfold mp_X12_handled sp_X8_handled
  simp only [vf_in_iff, aim_iff, ix4_ge, sub1_toInt, add1_toInt, Int32.toInt_toInt64, Int64.reduceToInt]
  simp only [← Int32.toInt_inj, Int32.lt_iff_toInt_lt, Int32.le_iff_toInt_le, Int32.reduceToInt]
  repeat' split
  all_goals first | rfl | omega
set_option maxHeartbeats 20000000 in
theorem sm_X12_setHandler (v1 : Int32) (v2 : Int32) (v3 : Int32) (v4 : Int32) : mp_X12_setHandler v1 v2 v3 v4 = sp_X8_setHandler v1 v2 v3 v4 := by
  unfold mp_X12_setHandler sp_X8_setHandler
  simp only [vf_in_iff, aim_iff, ix4_ge, sub1_toInt, add1_toInt, Int32.toInt_toInt64, Int64.reduceToInt]
  simp only [← Int32.toInt_inj, Int32.lt_iff_toInt_lt, Int32.le_iff_toInt_le, Int32.reduceToInt]
  repeat' split
  all_goals first | rfl | omega
set_option maxHeartbeats 20000000 in
theorem sm_X12_setPin (v1 : Int32) (v2 : Int32) (v3 : Int32) : mp_X12_setPin v1 v2 v3 = sp_X8_setPin v1 v2 v3 := by
  unfold mp_X12_setPin sp_X8_setPin
  simp only [vf_in_iff, aim_iff, ix4_ge, sub1_toInt, add1_toInt, Int32.toInt_toInt64, Int64.reduceToInt]
  simp only [← Int32.toInt_inj, Int32.lt_iff_toInt_lt, Int32.le_iff_toInt_le, Int32.reduceToInt]
  repeat' split
  all_goals first | rfl | omega
theorem kc_sp_X8_toEvent : sp_X8_toEvent = 1 := by
  unfold sp_X8_toEvent
  rfl
theorem kc_mp_X12_toEvent : mp_X12_toEvent = 1 := by
  unfold mp_X12_toEvent
  rfl
theorem kc_sp_X8_onTop : sp_X8_onTop = 1 := by
  unfold sp_X8_onTop
  rfl
theorem kc_mp_X12_onTop : mp_X12_onTop = 1 := by
  unfold mp_X12_onTop
  rfl
theorem kc_sp_X8_lastReset : sp_X8_lastReset = 1 := by
  unfold sp_X8_lastReset
  rfl
theorem kc_mp_X12_lastReset : mp_X12_lastReset = 1 := by
  unfold mp_X12_lastReset
  rfl
theorem kc_sp_X8_asleepShare : sp_X8_asleepShare = 1 := by
  unfold sp_X8_asleepShare
  rfl
theorem kc_mp_X12_asleepShare : mp_X12_asleepShare = 1 := by
  unfold mp_X12_asleepShare
  rfl
theorem kc_sp_X8_meanEnergy : sp_X8_meanEnergy = 1 := by
  unfold sp_X8_meanEnergy
  rfl
theorem kc_mp_X12_meanEnergy : mp_X12_meanEnergy = 1 := by
  unfold mp_X12_meanEnergy
  rfl
set_option maxHeartbeats 20000000 in
theorem sm_X12_run (v1 : Int32) : mp_X12_run v1 = sp_X8_run v1 := by
  unfold mp_X12_run sp_X8_run
  simp only [vf_in_iff, aim_iff, ix4_ge, sub1_toInt, add1_toInt, Int32.toInt_toInt64, Int64.reduceToInt]
  simp only [← Int32.toInt_inj, Int32.lt_iff_toInt_lt, Int32.le_iff_toInt_le, Int32.reduceToInt]
  repeat' split
  all_goals first | rfl | omega
set_option maxHeartbeats 20000000 in
theorem sm_X12_runByBeats (v1 : Int32) : mp_X12_runByBeats v1 = sp_X8_runByBeats v1 := by
  unfold mp_X12_runByBeats sp_X8_runByBeats
  simp only [vf_in_iff, aim_iff, ix4_ge, sub1_toInt, add1_toInt, Int32.toInt_toInt64, Int64.reduceToInt]
  simp only [← Int32.toInt_inj, Int32.lt_iff_toInt_lt, Int32.le_iff_toInt_le, Int32.reduceToInt]
  repeat' split
  all_goals first | rfl | omega
theorem kc_mp_X12_time : mp_X12_time = 0 := by
  unfold mp_X12_time
  rfl
theorem kc_mp_X12_pins : mp_X12_pins = 0 := by
  unfold mp_X12_pins
  rfl
theorem kc_mp_X12_edges : mp_X12_edges = 0 := by
  unfold mp_X12_edges
  rfl
theorem kc_mp_X12_processor : mp_X12_processor = 0 := by
  unfold mp_X12_processor
  rfl
theorem kc_mp_X12_late : mp_X12_late = 0 := by
  unfold mp_X12_late
  rfl
theorem kc_mp_X12_chained : mp_X12_chained = 0 := by
  unfold mp_X12_chained
  rfl
theorem kc_mp_X12_resets : mp_X12_resets = 0 := by
  unfold mp_X12_resets
  rfl
theorem kc_mp_X12_energy : mp_X12_energy = 0 := by
  unfold mp_X12_energy
  rfl
theorem kc_mp_X12_isConsistent : mp_X12_isConsistent = 0 := by
  unfold mp_X12_isConsistent
  rfl
theorem kc_mp_X12_depth : mp_X12_depth = 0 := by
  unfold mp_X12_depth
  rfl
theorem kc_mp_X12_feed : mp_X12_feed = 0 := by
  unfold mp_X12_feed
  rfl
