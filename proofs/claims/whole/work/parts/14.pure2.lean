theorem kin_chan {ka : kM} {i : Int32} (h : ¬ f_X2_isChannel ka i = 0) : vp_in i 8 := by
  unfold f_X2_isChannel at h
  by_cases h1 : i < 0
  · rw [if_pos h1] at h; exact absurd rfl h
  · rw [if_neg h1] at h
    by_cases h2 : 8 ≤ i
    · rw [if_pos h2] at h; exact absurd rfl h
    · exact kin_of (n := 8) (by decide) h1 h2
