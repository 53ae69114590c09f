theorem kin_told {ka : kM} {i : Int32} (h : f_X2_refuseUnlessTold ka i = 0) : vp_in i 6 := by
  unfold f_X2_refuseUnlessTold at h
  by_cases h1 : i < 0
  · rw [if_pos h1] at h; exact absurd h (by decide)
  · rw [if_neg h1] at h
    by_cases h2 : 6 ≤ i
    · rw [if_pos h2] at h; exact absurd h (by decide)
    · exact kin_of (n := 6) (by decide) h1 h2
theorem kin_cnt {ka : kM} (hI : kInv ka) (h : ka 0 5 < 12) : vp_in (ka 0 5) 12 := by
  rw [ki_lt, show (12 : Int32).toInt = 12 from rfl] at h
  rw [vp_in_iff]; exact ⟨hI.2.2.2.1, h⟩
theorem kstep_in {x : Int32} (h0 : ¬ x < 0) (h1 : x ≤ 5000) : x.toInt ≤ 5000 ∧ (x.toNatClampNeg : Int) = x.toInt ∧ 0 ≤ x.toInt := by
  rw [ki_lt, show (0 : Int32).toInt = 0 from rfl] at h0
  rw [ki_le, show (5000 : Int32).toInt = 5000 from rfl] at h1
  refine ⟨h1, ?_, by omega⟩
  obtain ⟨j, hj, rfl⟩ := nI_of (x := x) (by rw [ki_lt, show (0 : Int32).toInt = 0 from rfl]; omega)
  rw [nI_clamp hj, nI_toInt hj]
