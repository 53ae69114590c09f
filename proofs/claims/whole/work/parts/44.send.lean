/-! ===== send and take ===== -/
theorem idx8 {c : Nat} (hc : c < 8) : ((8 : Int32) * nI c).toNatClampNeg = 8 * c := by
  rw [show (8 : Int32) = nI 8 from rfl, pk_mul, nI_clamp (by omega)]
theorem idx8k {c k : Nat} (hc : c < 8) (hk : k < 8) : ((8 : Int32) * nI c + nI k).toNatClampNeg = 8 * c + k := by
  rw [show (8 : Int32) = nI 8 from rfl, pk_mul, nI_add, nI_clamp (by omega)]
theorem idx8k1 {c k : Nat} (hc : c < 8) (hk : k < 8) : (((8 : Int32) * nI c + nI k) + 1).toNatClampNeg = 8 * c + k + 1 := by
  rw [show (8 : Int32) = nI 8 from rfl, pk_mul, nI_add, ← nI_succ, nI_clamp (by omega)]
theorem nI_get {x : Int32} {n : Nat} (h : vp_in x n) (hn : n < 2 ^ 31) : ∃ c, c < n ∧ x = nI c := by
  have h2 := vp_in_iff.mp h
  refine ⟨x.toNatClampNeg, kx_lt h, ?_⟩
  have h3 : x.toNatClampNeg = x.toInt.toNat := rfl
  rw [ki_eq, h3, nI_toInt (by omega)]
  omega
theorem put_slot {ka : kM} {c : Nat} {x t : Int32} (h : ka (c + 18) 4 = 0) : f_X0_put ka c x t = (1, kup (kup (kup (kup ka (c + 26) 0 x) (c + 18) 6 1) (c + 18) 7 t) (c + 18) 8 (ka (c + 18) 8 + 1)) := by
  have hs : f_X0_isSlot ka c = 1 := by rw [f_X0_isSlot, if_pos h]
  rw [f_X0_put, hs, if_neg (by decide), show (0 : Int32).toNatClampNeg = 0 from rfl, kup_j (show (8 : Nat) ≠ 7 by decide), kup_j (show (8 : Nat) ≠ 6 by decide), kup_r (show c + 18 ≠ c + 26 by omega)]
theorem put_full {ka : kM} {c : Nat} {x t : Int32} (h : ¬ ka (c + 18) 4 = 0) (h2 : ka (c + 18) 4 ≤ ka (c + 18) 6) : f_X0_put ka c x t = (0, kup ka (c + 18) 9 (ka (c + 18) 9 + 1)) := by
  have hs : f_X0_isSlot ka c = 0 := by rw [f_X0_isSlot, if_neg h]
  rw [f_X0_put, hs, if_pos rfl, if_pos h2]
theorem put_come {ka : kM} {c : Nat} {x t : Int32} (h : ¬ ka (c + 18) 4 = 0) (h2 : ¬ ka (c + 18) 4 ≤ ka (c + 18) 6) : f_X0_put ka c x t = (1, kup (kup (kup ka (c + 26) (f_X0_spotOf ka c (ka (c + 18) 6)).toNatClampNeg x) (c + 18) 6 (ka (c + 18) 6 + 1)) (c + 18) 8 (ka (c + 18) 8 + 1)) := by
  have hs : f_X0_isSlot ka c = 0 := by rw [f_X0_isSlot, if_neg h]
  rw [f_X0_put, hs, if_pos rfl, if_neg h2, kup_j (show (8 : Nat) ≠ 6 by decide), kup_r (show c + 18 ≠ c + 26 by omega), kup_r (show c + 18 ≠ c + 26 by omega)]
theorem nI0 {c : Nat} (hc : c < 8) : ¬ nI c < 0 := nI_pos (by omega)
theorem nI8 {c : Nat} (hc : c < 8) : ¬ (8 : Int32) ≤ nI c := nI_ge (b := 8) hc (by omega)
theorem nI7 {c : Nat} (hc : c < 8) : ¬ (7 : Int32) < nI c := nI_nlt (a := 7) (by omega) (by omega)
theorem isch_1 {ka : kM} {c : Nat} (hc : c < 8) (h : ¬ ka (c + 18) 1 = 0) : f_X2_isChannel ka (nI c) = 1 := by
  rw [f_X2_isChannel, if_neg (nI0 hc), if_neg (nI8 hc), nI_clamp (by omega), if_neg h]
theorem isch_0 {ka : kM} {x : Int32} (h : x < 0 ∨ (8 : Int32) ≤ x ∨ ka (x.toNatClampNeg + 18) 1 = 0) : f_X2_isChannel ka x = 0 := by
  rw [f_X2_isChannel]
  by_cases h1 : x < 0
  · rw [if_pos h1]
  · rw [if_neg h1]
    by_cases h2 : (8 : Int32) ≤ x
    · rw [if_pos h2]
    · rw [if_neg h2, if_pos]
      rcases h with h | h | h
      · exact absurd h h1
      · exact absurd h h2
      · exact h
theorem spot_eq {ka : kM} {c f k : Nat} (hf : ka (c + 18) 5 = nI f) (h : f + k < 2 ^ 32) : f_X0_spotOf ka c (nI k) = nI ((f + k) % 8) := by
  rw [f_X0_spotOf, hf, nI_add, and7 h]
theorem send_yes {ka mu : kM} {j a b c : Nat} (hq : Rq ka mu) (hj : j < 6) (ha : a < 4) (hb : b < 4) (hc : c < 8) (h48 : ¬ mu 48 c = 0) (h49 : mu 49 c = nI j) :
    (f_X2_send ka (nI j) (nI a) (nI b) (nI c)).1 = 0 ∧ f_X3_send mu (nI j) (nI a) (nI b) (nI c) 34 29 = mu 34 29 ∧ Rq (f_X2_send ka (nI j) (nI a) (nI b) (nI c)).2 (f_X3_send mu (nI j) (nI a) (nI b) (nI c)) := by
  have hRp := hq.2.2.1 j hj
  obtain ⟨g1, g2, g3, g4, g5, g6, g7, g8, g9, g10, g11, g12, ⟨f, hf, hf1, hf2⟩, g14, g15⟩ := hq.2.2.2.1 c hc
  have ra : ka (j + 12) a = mu 41 (4 * j + a) := hRp.2.2.2.2.2.2.2.2.2.2.2.2 a ha
  rw [f_X2_send, isch_1 hc (by rw [g1]; exact h48), if_neg (by decide), nI_clamp (show c < 2 ^ 31 by omega), if_pos (g2.trans h49), nI_clamp (show j < 2 ^ 31 by omega), nI_clamp (show a < 2 ^ 31 by omega), nI_clamp (show b < 2 ^ 31 by omega), ra]
  rw [f_X3_send, if_neg (nI0 hc), if_neg (nI7 hc), nI_clamp (show c < 2 ^ 31 by omega), if_neg h48, if_pos h49, idx4 hj ha, idx4 hj hb, idx8 hc]
  by_cases hs : mu 51 c = 0
  · rw [put_slot (g4.trans hs), if_neg (show ¬ (1 : Int32) = 0 by decide), if_pos hs, kup_r (show (55 : Nat) ≠ 54 by decide), kup_r (show (55 : Nat) ≠ 53 by decide), kup_r (show (55 : Nat) ≠ 52 by decide)]
    refine ⟨rfl, ?_, ?_⟩
    · rw [kup_r (by decide), kup_r (by decide), kup_r (by decide), kup_r (by decide), kup_r (by decide)]
    · exact Rq_reg (Rq_slot hq hc hs) hj hb
  · have g46 : ka (c + 18) 4 ≤ ka (c + 18) 6 ↔ mu 53 c = mu 51 c := by
      rw [g4, g5, ki_le, ki_eq]
      have := g11 hs
      omega
    rw [if_neg hs]
    by_cases h2 : mu 53 c = mu 51 c
    · rw [put_full (by rw [g4]; exact hs) (g46.mpr h2), if_pos rfl, if_pos h2]
      refine ⟨rfl, ?_, ?_⟩
      · rw [kup_r (by decide), kup_r (by decide)]
      · exact Rq_reg (Rq_full hq hc) hj hb
    · have h53 : (mu 53 c).toInt < (mu 51 c).toInt := by
        have h1 := g11 hs
        rw [ki_eq] at h2
        omega
      obtain ⟨n, hn8, hn⟩ := nI_get (x := mu 53 c) (n := 8) (vp_in_iff.mpr (by omega)) (by omega)
      have hnt : (nI n).toInt = n := nI_toInt (by omega)
      rw [put_come (by rw [g4]; exact hs) (fun z => h2 (g46.mp z)), if_neg (show ¬ (1 : Int32) = 0 by decide), if_neg h2, kup_r (show (55 : Nat) ≠ 53 by decide), kup_r (show (55 : Nat) ≠ 52 by decide), kup_r (show (53 : Nat) ≠ 52 by decide)]
      refine ⟨rfl, ?_, ?_⟩
      · rw [kup_r (by decide), kup_r (by decide), kup_r (by decide), kup_r (by decide)]
      · refine Rq_reg ?_ hj hb
        have h := Rq_come (x := mu 41 (4 * j + a)) hq hc hs hf hf1 hn (by rw [← hnt, ← hn]; exact h53) hf2
        have e1 : f_X0_spotOf ka c (ka (c + 18) 6) = nI ((f + n) % 8) := by rw [g5, hn]; exact spot_eq hf1 (by omega)
        rw [e1, nI_clamp (show (f + n) % 8 < 2 ^ 31 by omega)]
        have e2 : ((8 : Int32) * nI c + mu 53 c).toNatClampNeg = 8 * c + n := by rw [hn]; exact idx8k hc hn8
        rw [e2]
        exact h
theorem send_no {ka mu : kM} {j a b : Nat} {x : Int32} (hq : ∀ c, c < 8 → ka (c + 18) 1 = mu 48 c ∧ ka (c + 18) 2 = mu 49 c) (hx : ¬ ∃ c, c < 8 ∧ x = nI c ∧ ¬ mu 48 c = 0 ∧ mu 49 c = nI j) :
    f_X2_send ka (nI j) (nI a) (nI b) x = (3, ka) ∧ f_X3_send mu (nI j) (nI a) (nI b) x = kup mu 34 29 3 := by
  by_cases h1 : x < 0
  · rw [f_X2_send, isch_0 (Or.inl h1), if_pos rfl, f_X3_send, if_pos h1]; exact ⟨rfl, rfl⟩
  · by_cases h2 : (8 : Int32) ≤ x
    · rw [f_X2_send, isch_0 (Or.inr (Or.inl h2)), if_pos rfl, f_X3_send, if_neg h1, if_pos (by rw [ki_le, show (8 : Int32).toInt = 8 from rfl] at h2; rw [ki_lt, show (7 : Int32).toInt = 7 from rfl]; omega)]; exact ⟨rfl, rfl⟩
    · obtain ⟨c, hc, rfl⟩ := nI_get (kin_of (n := 8) rfl h1 h2) (by omega)
      obtain ⟨g1, g2⟩ := hq c hc
      rw [f_X3_send, if_neg (nI0 hc), if_neg (nI7 hc)]
      by_cases h3 : mu 48 c = 0
      · rw [f_X2_send, isch_0 (Or.inr (Or.inr (by rw [nI_clamp (by omega)]; exact g1.trans h3))), if_pos rfl, nI_clamp (show c < 2 ^ 31 by omega), if_pos h3]; exact ⟨rfl, rfl⟩
      · have h4 : ¬ mu 49 c = nI j := fun z => hx ⟨c, hc, rfl, h3, z⟩
        rw [f_X2_send, isch_1 hc (by rw [g1]; exact h3), if_neg (by decide), nI_clamp (show c < 2 ^ 31 by omega), if_neg (by rw [g2]; exact h4), if_neg h3, if_neg h4]
        exact ⟨rfl, rfl⟩
