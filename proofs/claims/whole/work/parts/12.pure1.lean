/-! ===== what the private methods' answers say of indices ===== -/
theorem holds_in {ka : kM} {j : Nat} {i : Int32} (h : ¬ f_X1_holds ka j i = 0) : ¬ i < 0 ∧ ¬ ka (j + 6) 3 ≤ i := by
  unfold f_X1_holds at h
  by_cases h1 : i < 0
  · rw [if_pos h1] at h; exact absurd rfl h
  · rw [if_neg h1] at h
    by_cases h2 : ka (j + 6) 3 ≤ i
    · rw [if_pos h2] at h; exact absurd rfl h
    · exact ⟨h1, h2⟩
theorem kin_mem {ka : kM} {j : Nat} {i : Int32} (hB : kB ka j) (h : ¬ f_X1_holds ka j i = 0) : vp_in (ka (j + 6) 2 + i) 512 := kin_memo hB.1 hB.2.2 (holds_in h).1 (holds_in h).2
theorem kin_run {ka : kM} {j : Nat} {v i : Int32} (hB : kB ka j) (h : ¬ f_X1_holds ka j i = 0) : vp_in (kup ka (j + 6) 5 v (j + 6) 2 + i) 512 := by
  rw [kup_j (by decide)]; exact kin_mem hB h
theorem kB_up5 {ka : kM} {j r : Nat} {v : Int32} (hB : kB ka j) : kB (kup ka r 5 v) j := by
  unfold kB; rw [kup_j (by decide), kup_j (by decide)]; exact hB
theorem kB_up0 {ka : kM} {j k : Nat} {v : Int32} (hB : kB ka j) : kB (kup ka 0 k v) j := by
  unfold kB; rw [kup_r (by omega), kup_r (by omega)]; exact hB
theorem kin_own {ka : kM} {v : Int32} (hI : kInv ka) (h : ¬ kup ka 0 11 v 4 (kup ka 0 11 v 0 8).toNatClampNeg = -1) : vp_in (kup ka 0 11 v 4 (kup ka 0 11 v 0 8).toNatClampNeg) 6 := by
  rw [kup_r (by decide), kup_j (by decide)] at h ⊢
  rcases hI.2.1 _ (kx_lt hI.1) with g | g
  · exact absurd g h
  · exact g
