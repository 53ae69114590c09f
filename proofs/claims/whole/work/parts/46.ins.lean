/-! ===== one instruction with what follows a fault ===== -/
def m_rest2 (S : kM) (j : Nat) : kM := if S 43 j = 0 then kup S 39 j 3 else kup (kup (kup (kup (kup (kup (kup S 43 j (S 43 j - 1)) 41 (4 * j + 0) 0) 41 (4 * j + 1) 0) 41 (4 * j + 2) 0) 41 (4 * j + 3) 0) 40 j ((kup (kup (kup (kup (kup S 43 j (S 43 j - 1)) 41 (4 * j + 0) 0) 41 (4 * j + 1) 0) 41 (4 * j + 2) 0) 41 (4 * j + 3) 0) 38 j)) 34 27 1
def m_rest (S : kM) (j : Nat) (v : Int32) : kM := m_rest2 (kup (kup S 44 j v) 45 j (((kup S 44 j v) 45 j) + 1)) j
theorem idx4_0 {j : Nat} (hj : j < 6) : ((4 : Int32) * nI j + 0).toNatClampNeg = 4 * j + 0 := idx4 (a := 0) hj (by omega)
theorem idx4_1 {j : Nat} (hj : j < 6) : ((4 : Int32) * nI j + 1).toNatClampNeg = 4 * j + 1 := idx4 (a := 1) hj (by omega)
theorem idx4_2 {j : Nat} (hj : j < 6) : ((4 : Int32) * nI j + 2).toNatClampNeg = 4 * j + 2 := idx4 (a := 2) hj (by omega)
theorem idx4_3 {j : Nat} (hj : j < 6) : ((4 : Int32) * nI j + 3).toNatClampNeg = 4 * j + 3 := idx4 (a := 3) hj (by omega)
theorem ins_eq {mu : kM} {j : Nat} (hj : j < 6) : f_X3_instruction mu (nI j) =
    if f_X3_noWord (kup mu 34 29 0) (nI j) ((kup mu 34 29 0) 40 j) = 0 then (if (f_X3_act (kup mu 34 29 0) (nI j) ((kup mu 34 29 0) 35 (((kup mu 34 29 0) 36 j) + ((kup mu 34 29 0) 40 j)).toNatClampNeg)) 34 29 = 0 then kup (f_X3_act (kup mu 34 29 0) (nI j) ((kup mu 34 29 0) 35 (((kup mu 34 29 0) 36 j) + ((kup mu 34 29 0) 40 j)).toNatClampNeg)) 42 j (((f_X3_act (kup mu 34 29 0) (nI j) ((kup mu 34 29 0) 35 (((kup mu 34 29 0) 36 j) + ((kup mu 34 29 0) 40 j)).toNatClampNeg)) 42 j) + 1) else m_rest (f_X3_act (kup mu 34 29 0) (nI j) ((kup mu 34 29 0) 35 (((kup mu 34 29 0) 36 j) + ((kup mu 34 29 0) 40 j)).toNatClampNeg)) j ((f_X3_act (kup mu 34 29 0) (nI j) ((kup mu 34 29 0) 35 (((kup mu 34 29 0) 36 j) + ((kup mu 34 29 0) 40 j)).toNatClampNeg)) 34 29)) else m_rest (kup (kup mu 34 29 0) 34 29 1) j 1 := by
  rw [f_X3_instruction, nI_clamp (show j < 2 ^ 31 by omega)]
  generalize f_X3_act (kup mu 34 29 0) (nI j) ((kup mu 34 29 0) 35 (((kup mu 34 29 0) 36 j) + ((kup mu 34 29 0) 40 j)).toNatClampNeg) = M
  simp only [m_rest, m_rest2, idx4_0 hj, idx4_1 hj, idx4_2 hj, idx4_3 hj]
theorem rest2_ok {K S : kM} {j : Nat} (hq : Rq K S) (hj : j < 6) : Rq (if K (j + 6) 7 = 0 then kup K (j + 6) 1 3 else kup (kup (f_J7_fill_53178 (kup K (j + 6) 7 (K (j + 6) 7 - 1)) j 0) (j + 6) 5 ((f_J7_fill_53178 (kup K (j + 6) 7 (K (j + 6) 7 - 1)) j 0) (j + 6) 4)) 0 10 1) (m_rest2 S j) := by
  have e7 := (hq.2.2.1 j hj).2.2.2.2.2.2.2.2.1
  rw [m_rest2, e7]
  by_cases h : S 43 j = 0
  · rw [if_pos h, if_pos h]; exact Rq_state hq hj (by decide) (by decide)
  · rw [if_neg h, if_neg h]
    have h1 := Rq_reg (k := 3) (v := 0) (Rq_reg (k := 2) (v := 0) (Rq_reg (k := 1) (v := 0) (Rq_reg (k := 0) (v := 0) (Rq_rest (v := S 43 j - 1) hq hj) hj (by omega)) hj (by omega)) hj (by omega)) hj (by omega)
    have e4 := (h1.2.2.1 j hj).2.2.2.2.2.1
    have h2 := Rq_yield (v := 1) (Rq_place (v := S 38 j) h1 hj)
    rw [f_J7_fill_53178]
    have e38 : kup (kup (kup (kup (kup S 43 j (S 43 j - 1)) 41 (4 * j + 0) 0) 41 (4 * j + 1) 0) 41 (4 * j + 2) 0) 41 (4 * j + 3) 0 38 j = S 38 j := by
      rw [kup_r (by decide), kup_r (by decide), kup_r (by decide), kup_r (by decide), kup_r (by decide)]
    rw [e38] at e4 ⊢
    have e4' : (kup (kup (kup (kup (kup K (j + 6) 7 (S 43 j - 1)) (j + 12) (0 : Int32).toNatClampNeg 0) (j + 12) (1 : Int32).toNatClampNeg 0) (j + 12) (2 : Int32).toNatClampNeg 0) (j + 12) (3 : Int32).toNatClampNeg 0) (j + 6) 4 = S 38 j := e4
    rw [e4']
    exact h2
theorem rest_ok {K S : kM} {j : Nat} {v : Int32} (hq : Rq K S) (hj : j < 6) : Rq (if (f_X1_restartAfter K j v).1 = 0 then (f_X1_restartAfter K j v).2 else kup (f_X1_restartAfter K j v).2 0 10 1) (m_rest S j v) := by
  have h1 := Rq_last (v := v) hq hj
  have e9 := (h1.2.2.1 j hj).2.2.2.2.2.2.2.2.2.2.1
  have h2 := Rq_faults (v := (kup K (j + 6) 8 v) (j + 6) 9 + 1) h1 hj
  have h3 := rest2_ok h2 hj
  rw [m_rest, ← e9, f_X1_restartAfter]
  by_cases h : (kup (kup K (j + 6) 8 v) (j + 6) 9 (((kup K (j + 6) 8 v) (j + 6) 9) + 1)) (j + 6) 7 = 0
  · rw [if_pos h] at h3 ⊢
    rw [if_pos rfl]
    exact h3
  · rw [if_neg h] at h3 ⊢
    rw [if_neg (show ¬ (1 : Int32) = 0 by decide)]
    exact h3
theorem holds_iff {ka mu : kM} {j : Nat} (hlen : ka (j + 6) 3 = mu 37 j) (hj : j < 6) (x : Int32) : f_X1_holds ka j x = 0 ↔ ¬ f_X3_noWord mu (nI j) x = 0 := by
  unfold f_X1_holds f_X3_noWord
  rw [hlen, nI_clamp (show j < 2 ^ 31 by omega)]
  by_cases q1 : x < 0
  · rw [if_pos q1, if_pos q1]; exact ⟨fun _ => by decide, fun _ => rfl⟩
  · rw [if_neg q1, if_neg q1]
    by_cases q2 : mu 37 j ≤ x
    · rw [if_pos q2, if_neg (fun q => by rw [ki_lt] at q; rw [ki_le] at q2; omega)]; exact ⟨fun _ => by decide, fun _ => rfl⟩
    · rw [if_neg q2, if_pos (by rw [ki_lt]; rw [ki_le] at q2; omega)]; exact ⟨fun q => absurd q (by decide), fun q => absurd rfl q⟩
theorem ins_ok {ka mu : kM} {j : Nat} (hq : Rq ka mu) (hj : j < 6) : Rq (f_X2_runInstruction ka (nI j)) (f_X3_instruction mu (nI j)) := by
  have hq0 : Rq ka (kup mu 34 29 0) := Rq_m34 hq (Or.inr (Or.inr rfl))
  obtain ⟨g1, g2, g3, g4, g5, g6, g7, g8, g9, g10, g11, g12, g13⟩ := hq0.2.2.1 j hj
  rw [ins_eq hj, f_X2_runInstruction, nI_clamp (show j < 2 ^ 31 by omega), g7]
  by_cases h : f_X3_noWord (kup mu 34 29 0) (nI j) ((kup mu 34 29 0) 40 j) = 0
  · rw [if_pos h, if_neg (fun z => (holds_iff g5 hj _).mp z h)]
    have hop := op_ok (w := (kup mu 34 29 0) 35 (((kup mu 34 29 0) 36 j) + ((kup mu 34 29 0) 40 j)).toNatClampNeg) hq0 (kup_at _ _ _ _) hj
    rw [g7] at hop
    have ew : (kup ka (j + 6) 5 (((kup mu 34 29 0) 40 j) + 1)) 1 (((kup ka (j + 6) 5 (((kup mu 34 29 0) 40 j) + 1)) (j + 6) 2) + ((kup mu 34 29 0) 40 j)).toNatClampNeg = (kup mu 34 29 0) 35 (((kup mu 34 29 0) 36 j) + ((kup mu 34 29 0) 40 j)).toNatClampNeg := by
      rw [kup_j (show (2 : Nat) ≠ 5 by decide), kup_r (show (1 : Nat) ≠ j + 6 by omega), g4]; exact hq0.2.1 _
    rw [ew]
    generalize f_X2_perform (kup ka (j + 6) 5 (((kup mu 34 29 0) 40 j) + 1)) (nI j) ((kup mu 34 29 0) 35 (((kup mu 34 29 0) 36 j) + ((kup mu 34 29 0) 40 j)).toNatClampNeg) = P at hop ⊢
    generalize f_X3_act (kup mu 34 29 0) (nI j) ((kup mu 34 29 0) 35 (((kup mu 34 29 0) 36 j) + ((kup mu 34 29 0) 40 j)).toNatClampNeg) = M at hop ⊢
    obtain ⟨o1, o2, o3⟩ := hop
    rw [o1]
    by_cases hz : P.1 = 0
    · rw [if_pos hz, if_pos hz]
      have h1 := o2 hz
      have e6 := (h1.2.2.1 j hj).2.2.2.2.2.2.2.1
      rw [e6]
      exact Rq_done h1 hj
    · rw [if_neg hz, if_neg hz]
      have h1 := o3 hz
      rw [g7] at h1
      exact rest_ok h1 hj
  · rw [if_neg h, if_pos ((holds_iff g5 hj _).mpr h)]
    have e : kup ka (j + 6) 5 ((kup mu 34 29 0) 40 j) = ka := by rw [← g7]; exact kup_self
    rw [e]
    exact rest_ok (Rq_m34 hq0 (Or.inr (Or.inr rfl))) hj
