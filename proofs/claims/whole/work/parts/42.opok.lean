/-! ===== one instruction, in class and reference ===== -/
def OPK (P : Int32 × kM) (M ka : kM) (j : Nat) : Prop := M 34 29 = P.1 ∧ (P.1 = 0 → Rq P.2 M) ∧ (¬ P.1 = 0 → Rq (kup P.2 (j + 6) 5 (ka (j + 6) 5)) M)
theorem OPK_ok {ka ka2 M : kM} {j : Nat} (h29 : M 34 29 = 0) (hr : Rq ka2 M) : OPK (0, ka2) M ka j := ⟨h29, fun _ => hr, fun h => absurd rfl h⟩
theorem OPK_f {ka mu : kM} {j : Nat} {v x : Int32} (hv : ¬ v = 0) (hq : Rq ka mu) : OPK (v, kup ka (j + 6) 5 x) (kup (kup mu 34 29 v) 40 j ((kup mu 34 29 v) 40 j)) ka j := by
  rw [kup_self]
  refine ⟨kup_at _ _ _ _, fun h => absurd h hv, fun _ => ?_⟩
  show Rq (kup (kup ka (j + 6) 5 x) (j + 6) 5 (ka (j + 6) 5)) _
  rw [kup_kup, kup_self]
  exact Rq_m34 hq (Or.inr (Or.inr rfl))
theorem OP_reg {ka mu Y : kM} {j k : Nat} {v v' : Int32} (hq : Rq ka mu) (h29 : mu 34 29 = 0) (hj : j < 6) (hk : k < 4) (hv : v = v') :
    OPK (0, kup (kup ka (j + 6) 5 (ka (j + 6) 5 + 1)) (j + 12) k v) (if ((kup mu 41 (4 * j + k) v') 34 29) ≤ 0 then (kup (kup mu 41 (4 * j + k) v') 40 j ((mu 40 j) + 1)) else Y) ka j := by
  subst hv
  have e5 := (hq.2.2.1 j hj).2.2.2.2.2.2.1
  have h1 : kup mu 41 (4 * j + k) v 34 29 = 0 := by rw [kup_r (by decide)]; exact h29
  rw [if_pos (by rw [h1]; decide)]
  refine OPK_ok (by rw [kup_r (by decide)]; exact h1) ?_
  have h := Rq_reg (k := k) (v := v) (Rq_place (v := ka (j + 6) 5 + 1) hq hj) hj hk
  rw [kup_comm (s := mu) (by omega), e5] at h
  rw [e5]
  exact h
theorem OP_place {ka mu : kM} {j : Nat} {v v' x : Int32} (hq : Rq ka mu) (h29 : mu 34 29 = 0) (hj : j < 6) (hv : v = v') :
    OPK (0, kup (kup ka (j + 6) 5 x) (j + 6) 5 v) (kup mu 40 j v') ka j := by
  subst hv
  refine OPK_ok (by rw [kup_r (by decide)]; exact h29) ?_
  rw [kup_kup]
  exact Rq_place hq hj
theorem op_easy {ka mu : kM} {j k : Nat} {w : Int32} (hq : Rq ka mu) (h29 : mu 34 29 = 0) (hj : j < 6) (hk : k < 16) (hk1 : k ≠ 11) (hk2 : k ≠ 12) (hw : w &&& 15 = nI k) :
    OPK (f_X2_perform (kup ka (j + 6) 5 (ka (j + 6) 5 + 1)) (nI j) w) (f_X3_act mu (nI j) w) ka j := by
  obtain ⟨aj, ha4, ha⟩ := reg_cases (w >>> ((4 : Int32) &&& 31))
  obtain ⟨bj, hb4, hb⟩ := reg_cases (w >>> ((6 : Int32) &&& 31))
  obtain ⟨i8, hi⟩ : ∃ x, w >>> ((8 : Int32) &&& 31) = x := ⟨_, rfl⟩
  obtain ⟨g1, g2, g3, g4, g5, g6, g7, g8, g9, g10, g11, g12, g13⟩ := hq.2.2.1 j hj
  have ra := g13 aj ha4
  have rb := g13 bj hb4
  have ra' : kup ka (j + 6) 5 (ka (j + 6) 5 + 1) (j + 12) aj = mu 41 (4 * j + aj) := by rw [kup_r (by omega)]; exact ra
  have rb' : kup ka (j + 6) 5 (ka (j + 6) 5 + 1) (j + 12) bj = mu 41 (4 * j + bj) := by rw [kup_r (by omega)]; exact rb
  have hmem : ∀ i, kup ka (j + 6) 5 (ka (j + 6) 5 + 1) 1 i = mu 35 i := fun i => by rw [kup_r (by omega)]; exact hq.2.1 i
  have hbase : kup ka (j + 6) 5 (ka (j + 6) 5 + 1) (j + 6) 2 = mu 36 j := by rw [kup_j (by decide)]; exact g4
  have hlen : kup ka (j + 6) 5 (ka (j + 6) 5 + 1) (j + 6) 3 = mu 37 j := by rw [kup_j (by decide)]; exact g5
  have hle : (mu 34 29) ≤ 0 := by rw [h29]; decide
  have hholds : ∀ x : Int32, f_X1_holds (kup ka (j + 6) 5 (ka (j + 6) 5 + 1)) j x = 0 ↔ ¬ f_X3_noWord mu (nI j) x = 0 := by
    intro x
    unfold f_X1_holds f_X3_noWord
    rw [hlen, nI_clamp (show j < 2 ^ 31 by omega)]
    by_cases q1 : x < 0
    · rw [if_pos q1, if_pos q1]; exact ⟨fun _ => by decide, fun _ => rfl⟩
    · rw [if_neg q1, if_neg q1]
      by_cases q2 : mu 37 j ≤ x
      · rw [if_pos q2, if_neg (fun q => by rw [ki_lt] at q; rw [ki_le] at q2; omega)]; exact ⟨fun _ => by decide, fun _ => rfl⟩
      · rw [if_neg q2, if_pos (by rw [ki_lt]; rw [ki_le] at q2; omega)]; exact ⟨fun q => absurd q (by decide), fun q => absurd rfl q⟩
  rcases (show k = 0 ∨ k = 1 ∨ k = 2 ∨ k = 3 ∨ k = 4 ∨ k = 5 ∨ k = 6 ∨ k = 7 ∨ k = 8 ∨ k = 9 ∨ k = 10 ∨ k = 13 ∨ k = 14 ∨ k = 15 by omega) with rfl | rfl | rfl | rfl | rfl | rfl | rfl | rfl | rfl | rfl | rfl | rfl | rfl | rfl
  · rw [perf_0 hj ha4 hb4 hw ha hb hi, act_0 hj ha4 hb4 hw ha hb hi]
    have h1 : kup mu 39 j 2 34 29 = 0 := by rw [kup_r (by decide)]; exact h29
    rw [if_pos (by rw [h1]; decide)]
    refine OPK_ok (by rw [kup_r (by decide)]; exact h1) ?_
    have h := Rq_state (v := 2) (Rq_place (v := ka (j + 6) 5 + 1) hq hj) hj (by decide) (by decide)
    rw [kup_comm (s := mu) (by omega), g7] at h
    rw [g7]
    exact h
  · rw [perf_1 hj ha4 hb4 hw ha hb hi, act_1 hj ha4 hb4 hw ha hb hi]
    exact OP_reg hq h29 hj ha4 rfl
  · rw [perf_2 hj ha4 hb4 hw ha hb hi, act_2 hj ha4 hb4 hw ha hb hi]
    exact OP_reg hq h29 hj ha4 (by rw [ra', rb'])
  · rw [perf_3 hj ha4 hb4 hw ha hb hi, act_3 hj ha4 hb4 hw ha hb hi]
    exact OP_reg hq h29 hj ha4 (by rw [ra', rb'])
  · rw [perf_4 hj ha4 hb4 hw ha hb hi, act_4 hj ha4 hb4 hw ha hb hi]
    exact OP_reg hq h29 hj ha4 (by rw [ra', rb'])
  · rw [perf_5 hj ha4 hb4 hw ha hb hi, act_5 hj ha4 hb4 hw ha hb hi]
    exact OP_reg hq h29 hj ha4 (by rw [ra', rb'])
  · rw [perf_6 hj ha4 hb4 hw ha hb hi, act_6 hj ha4 hb4 hw ha hb hi, rb']
    unfold f_X2_load
    by_cases q : f_X3_noWord mu (nI j) (mu 41 (4 * j + bj) + i8) = 0
    · rw [if_neg (fun z => (hholds _).mp z q), if_pos q, if_pos (show w &&& 15 = 6 from hw), nI_clamp (show aj < 2 ^ 31 by omega)]
      exact OP_reg hq h29 hj ha4 (by rw [hmem, hbase])
    · rw [if_pos ((hholds _).mpr q), if_neg q]
      exact OPK_f (v := 2) (by decide) hq
  · rw [perf_7 hj ha4 hb4 hw ha hb hi, act_7 hj ha4 hb4 hw ha hb hi, rb']
    unfold f_X2_store
    by_cases q : f_X3_noWord mu (nI j) (mu 41 (4 * j + bj) + i8) = 0
    · rw [if_neg (fun z => (hholds _).mp z q), if_pos q, if_neg (show ¬ w &&& 15 = 6 by rw [hw]; decide), nI_clamp (show aj < 2 ^ 31 by omega), ra', hbase]
      have h1 : ∀ i v, kup mu 35 i v 34 29 = 0 := fun i v => by rw [kup_r (by decide)]; exact h29
      rw [if_pos (by rw [h1]; decide)]
      refine OPK_ok (by rw [kup_r (by decide)]; exact h1 _ _) ?_
      have h := Rq_mem (k := (mu 36 j + (mu 41 (4 * j + bj) + i8)).toNatClampNeg) (v := mu 41 (4 * j + aj)) (Rq_place (v := ka (j + 6) 5 + 1) hq hj)
      rw [kup_comm (s := mu) (by omega), g7] at h
      rw [g7]
      exact h
    · rw [if_pos ((hholds _).mpr q), if_neg q]
      exact OPK_f (v := 2) (by decide) hq
  · rw [perf_8 hj ha4 hb4 hw ha hb hi, act_8 hj ha4 hb4 hw ha hb hi, ra', if_pos hle, if_pos hle]
    by_cases q : mu 41 (4 * j + aj) = 0
    · rw [if_pos q, if_pos q]
      unfold f_X1_jumpIf
      rw [if_neg (by decide)]
      exact OP_place hq h29 hj (by rw [kup_at, g7])
    · rw [if_neg q, if_neg q]
      unfold f_X1_jumpIf
      rw [if_pos rfl]
      exact OPK_ok (by rw [kup_r (by decide)]; exact h29) (by rw [g7]; exact Rq_place hq hj)
  · rw [perf_9 hj ha4 hb4 hw ha hb hi, act_9 hj ha4 hb4 hw ha hb hi, ra', if_pos hle, if_pos hle]
    by_cases q : (0 : Int32) ≤ mu 41 (4 * j + aj)
    · rw [if_pos q, if_pos q]
      unfold f_X1_jumpIf
      rw [if_pos rfl]
      exact OPK_ok (by rw [kup_r (by decide)]; exact h29) (by rw [g7]; exact Rq_place hq hj)
    · rw [if_neg q, if_neg q]
      unfold f_X1_jumpIf
      rw [if_neg (by decide)]
      exact OP_place hq h29 hj (by rw [kup_at, g7])
  · rw [perf_10 hj ha4 hb4 hw ha hb hi, act_10 hj ha4 hb4 hw ha hb hi, ra', if_pos hle]
    exact OP_place hq h29 hj rfl
  · rw [perf_13 hj ha4 hb4 hw ha hb hi, act_13 hj ha4 hb4 hw ha hb hi]
    have h1 : kup mu 34 27 1 34 29 = 0 := by rw [kup_j (by decide)]; exact h29
    rw [if_pos (by rw [h1]; decide)]
    refine OPK_ok (by rw [kup_r (by decide)]; exact h1) ?_
    have h := Rq_yield (v := 1) (Rq_place (v := ka (j + 6) 5 + 1) hq hj)
    rw [kup_comm (s := mu) (by omega), g7] at h
    rw [g7]
    exact h
  · rw [perf_14 hj ha4 hb4 hw ha hb hi, act_14 hj ha4 hb4 hw ha hb hi]
    exact OP_reg hq h29 hj ha4 (by rw [kup_j (by decide)]; exact g8)
  · rw [perf_15 hj ha4 hb4 hw ha hb hi, act_15 hj ha4 hb4 hw ha hb hi]
    exact OPK_f (by decide) hq
