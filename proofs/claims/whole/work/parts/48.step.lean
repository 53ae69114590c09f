/-! ===== many ticks ===== -/
theorem Rq_kInv {ka mu : kM} (h : Rq ka mu) : kInv ka := by
  obtain ⟨g1, g2, g3, g4, g5, g6, g7, g8, g9, g10, g11, g12, g13⟩ := h.1
  refine ⟨?_, g10, fun j hj => (h.2.2.1 j hj).2.2.2.2.2.2.2.2.2.2.2.1, g2, g3⟩
  by_cases q : ka 0 7 = 0
  · rw [(g12 q).1, vp_in_iff, show (0 : Int32).toInt = 0 from rfl]; omega
  · rw [vp_in_iff]; have := g13 q; omega
theorem Rq_mInv {ka mu : kM} (h : Rq ka mu) : mInv mu := by
  obtain ⟨g1, g2, g3, g4, g5, g6, g7, g8, g9, g10, g11, g12, g13⟩ := h.1
  refine ⟨fun j hj => ?_, fun c hc => ?_, by rw [← g1]; exact g2, by rw [← g1]; exact g3, by rw [← g6]; exact (Rq_kInv h).1, fun i hi => ?_, fun q => ?_⟩
  · obtain ⟨h1, h2, h3, h4, h5, h6, h7, h8, h9, h10, h11, h12, h13⟩ := h.2.2.1 j hj
    unfold kB at h12
    rw [h4, h5] at h12
    exact h12
  · obtain ⟨h1, h2, h3, h4, h5, h6, h7, h8, h9, h10, h11, h12, -, -, -⟩ := h.2.2.2.1 c hc
    refine ⟨h8, h9, h10, ?_, h11⟩
    by_cases q : mu 51 c = 0
    · have := (h12 q).1; omega
    · have := h11 q; omega
  · rw [← g8]
    rcases g10 i hi with q | q
    · rw [q]; decide
    · have := vp_in_iff.mp q; omega
  · rw [← g5] at q
    intro z
    rw [← g1, ki_eq, show (0 : Int32).toInt = 0 from rfl] at z
    have := g13 q
    omega
theorem steplp_ok : ∀ (n : Nat) (B : Int) (ka mu : kM) (b : Int32), RR B ka mu → ¬ ka 0 7 = 0 → B + n < 2000000000 → (f_X2_step_lp n ka b).1 = (f_X3_step_lp n mu b).1 ∧ RR (B + n) (f_X2_step_lp n ka b).2 (f_X3_step_lp n mu b).2 ∧ (f_X3_step_lp n mu b).2 34 0 = mu 34 0 ∧ (mu 34 0 = 0 → ∀ i, i < n → m_ok (m_it i mu)) := by
  intro n
  induction n with
  | zero => intro B ka mu b h hs hB; rw [f_X2_step_lp, f_X3_step_lp]; exact ⟨rfl, by rw [Int.natCast_zero, Int.add_zero]; exact h, rfl, fun _ i hi => absurd hi (by omega)⟩
  | succ n ih =>
    intro B ka mu b h hs hB
    obtain ⟨t1, t2, t3, t4⟩ := tick_ok h hs (by omega)
    rw [f_X2_step_lp, f_X3_step_lp, t1]
    have hk : ∀ b, (f_X2_step_lp n (f_X2_goOneTick ka).2 b).1 = (f_X3_step_lp n (f_X3_tick mu).2 b).1 ∧ RR (B + 1 + n) (f_X2_step_lp n (f_X2_goOneTick ka).2 b).2 (f_X3_step_lp n (f_X3_tick mu).2 b).2 ∧ (f_X3_step_lp n (f_X3_tick mu).2 b).2 34 0 = (f_X3_tick mu).2 34 0 ∧ ((f_X3_tick mu).2 34 0 = 0 → ∀ i, i < n → m_ok (m_it i (f_X3_tick mu).2)) := fun b => ih (B + 1) _ _ b t2 (by rw [t3]; exact hs) (by omega)
    have hfin : (mu 34 0 = 0 → ∀ i, i < n + 1 → m_ok (m_it i mu)) := by
      intro h0 i hi
      cases i with
      | zero => rw [m_it]; exact ⟨Rq_mInv h.1, h0, by rw [← h.1.1.2.2.2.2.1]; exact hs⟩
      | succ i => rw [m_it]; exact (hk b).2.2.2 (by rw [t4]; exact h0) i (by omega)
    have eB : B + ((n + 1 : Nat) : Int) = B + 1 + n := by omega
    rw [eB]
    by_cases z : (f_X3_tick mu).1 = 0
    · rw [if_pos z, if_pos z]
      obtain ⟨k1, k2, k3, -⟩ := hk b
      exact ⟨k1, k2, k3.trans t4, hfin⟩
    · rw [if_neg z, if_neg z]
      obtain ⟨k1, k2, k3, -⟩ := hk (b + 1)
      exact ⟨k1, k2, k3.trans t4, hfin⟩
