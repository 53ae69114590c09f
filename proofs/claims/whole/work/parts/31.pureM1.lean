theorem m_told {mu : kM} {i : Int32} (h : ¬ f_X3_isTold mu i = 0) : vp_in i 6 := by
  unfold f_X3_isTold at h
  by_cases h1 : i < 0
  · rw [if_pos h1] at h; exact absurd rfl h
  · rw [if_neg h1] at h
    by_cases h2 : 6 ≤ i
    · rw [if_pos h2] at h; exact absurd rfl h
    · exact kin_of (n := 6) (by decide) h1 h2
theorem m_word {mu : kM} {p i : Int32} (h : f_X3_noWord mu p i = 0) : ¬ i < 0 ∧ ¬ mu 37 p.toNatClampNeg ≤ i := by
  unfold f_X3_noWord at h
  by_cases h1 : i < 0
  · rw [if_pos h1] at h; exact absurd h (by decide)
  · rw [if_neg h1] at h
    by_cases h2 : i < mu 37 p.toNatClampNeg
    · exact ⟨h1, fun q => by rw [ki_lt] at h2; rw [ki_le] at q; omega⟩
    · rw [if_neg h2] at h; exact absurd h (by decide)
theorem m_memB {mu : kM} {p i : Int32} (hB : mB mu p.toNatClampNeg) (h : f_X3_noWord mu p i = 0) : vp_in (mu 36 p.toNatClampNeg + i) 512 := kin_memo hB.1 hB.2.2 (m_word h).1 (m_word h).2
theorem m_mem {mu : kM} {p i : Int32} (hI : mInv mu) (hp : vp_in p 6) (h : f_X3_noWord mu p i = 0) : vp_in (mu 36 p.toNatClampNeg + i) 512 := m_memB (hI.1 _ (kx_lt hp)) h
theorem m_chan {mu : kM} {i : Int32} (h : f_X3_noChannel mu i = 0) : vp_in i 8 := by
  unfold f_X3_noChannel at h
  by_cases h1 : i < 0
  · rw [if_pos h1] at h; exact absurd h (by decide)
  · rw [if_neg h1] at h
    by_cases h2 : 7 < i
    · rw [if_pos h2] at h; exact absurd h (by decide)
    · exact kin_le (n := 8) (by decide) h1 h2
theorem m_room {mu : kM} {c : Int32} (hC : mC mu) (hc : vp_in c 8) (h1 : ¬ mu 51 c.toNatClampNeg = 0) (h2 : ¬ mu 53 c.toNatClampNeg = mu 51 c.toNatClampNeg) : vp_in (mu 53 c.toNatClampNeg) 8 := by
  obtain ⟨g1, g2, g3, g4, g5⟩ := hC _ (kx_lt hc)
  have g6 := g5 h1
  rw [ki_eq] at h2
  rw [vp_in_iff]; omega
theorem m_win {mu : kM} (hI : mInv mu) (h : ¬ mu 34 12 = 12) : vp_in (mu 34 12) 12 := by
  rw [ki_eq, show (12 : Int32).toInt = 12 from rfl] at h
  have h1 := hI.2.2.1
  have h2 := hI.2.2.2.1
  rw [vp_in_iff]; omega
theorem kin4s {p w : Int32} (hp : vp_in p 6) (h1 : ¬ w ≤ 1) (h2 : ¬ 6 ≤ w) : vp_in (4 * p + w - 2) 24 := by
  rw [vp_in_iff] at hp
  rw [ki_le, show (1 : Int32).toInt = 1 from rfl] at h1
  rw [ki_le, show (6 : Int32).toInt = 6 from rfl] at h2
  have e1 : (4 * p).toInt = 4 * p.toInt := by rw [ki_mul (by rw [show (4 : Int32).toInt = 4 from rfl]; omega) (by rw [show (4 : Int32).toInt = 4 from rfl]; omega)]; rfl
  have e2 : (4 * p + w).toInt = 4 * p.toInt + w.toInt := by rw [ki_add (by omega) (by omega), e1]
  rw [vp_in_iff, ki_sub (by rw [show (2 : Int32).toInt = 2 from rfl]; omega) (by rw [show (2 : Int32).toInt = 2 from rfl]; omega), e2, show (2 : Int32).toInt = 2 from rfl]
  omega
theorem m_q {mu : kM} {c k v : Int32} (hI : mInv mu) (hc : vp_in c 8) (h1 : ¬ k < 0) (h2 : k < kup mu 34 0 v 53 c.toNatClampNeg) : vp_in k 8 := by
  rw [kup_r (by decide)] at h2
  have h := hI.2.1 _ (kx_lt hc)
  rw [ki_lt, show (0 : Int32).toInt = 0 from rfl] at h1
  rw [ki_lt] at h2
  rw [vp_in_iff]; omega
theorem m_cl0 {x : Int32} (h : 0 ≤ x.toInt) : (x.toNatClampNeg : Int) = x.toInt := by
  obtain ⟨j, hj, rfl⟩ := nI_of (x := x) (by rw [ki_lt, show (0 : Int32).toInt = 0 from rfl]; omega)
  rw [nI_clamp hj, nI_toInt hj]
theorem m_cl {mu : kM} (hI : mInv mu) : ((mu 34 12).toNatClampNeg : Int) = (mu 34 12).toInt := m_cl0 hI.2.2.1
theorem m_less {mu : kM} {c : Int32} (hC : mC mu) (hc : vp_in c 8) (h : ¬ mu 53 c.toNatClampNeg = 0) : ((mu 53 c.toNatClampNeg - 1).toNatClampNeg : Int) = (mu 53 c.toNatClampNeg - 1).toInt ∧ (mu 53 c.toNatClampNeg - 1).toNatClampNeg ≤ 7 := by
  obtain ⟨g1, g2, g3, g4, g5⟩ := hC _ (kx_lt hc)
  rw [ki_eq, show (0 : Int32).toInt = 0 from rfl] at h
  have e : (mu 53 c.toNatClampNeg - 1).toInt = (mu 53 c.toNatClampNeg).toInt - 1 := by
    rw [ki_sub (by rw [show (1 : Int32).toInt = 1 from rfl]; omega) (by rw [show (1 : Int32).toInt = 1 from rfl]; omega)]; rfl
  have e2 := m_cl0 (x := mu 53 c.toNatClampNeg - 1) (by omega)
  exact ⟨e2, by omega⟩
theorem kin8k1 {c k : Int32} (hc : vp_in c 8) (h0 : 0 ≤ k.toInt) (h1 : k.toInt < 7) : vp_in (8 * c + k + 1) 64 := by
  have e := ki_8c hc
  rw [vp_in_iff] at hc
  have e2 : (8 * c + k).toInt = 8 * c.toInt + k.toInt := by rw [ki_add (by omega) (by omega), e]
  have e3 := ki_add1 (x := 8 * c + k) (by omega)
  rw [vp_in_iff, e3, e2]; omega
