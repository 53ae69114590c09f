/-! ===== one tick ===== -/
def m_mv (S : kM) : kM := if ((S 34 26) - 1) = 0 then kup (kup (kup (kup (kup S 34 26 ((S 34 26) - 1)) 34 25 ((((kup S 34 26 ((S 34 26) - 1)) 34 25) + 1) - (((kup S 34 26 ((S 34 26) - 1)) 34 25) + 1) / ((kup S 34 26 ((S 34 26) - 1)) 34 12) * ((kup S 34 26 ((S 34 26) - 1)) 34 12))) 34 26 ((kup (kup S 34 26 ((S 34 26) - 1)) 34 25 ((((kup S 34 26 ((S 34 26) - 1)) 34 25) + 1) - (((kup S 34 26 ((S 34 26) - 1)) 34 25) + 1) / ((kup S 34 26 ((S 34 26) - 1)) 34 12) * ((kup S 34 26 ((S 34 26) - 1)) 34 12))) 47 ((((kup S 34 26 ((S 34 26) - 1)) 34 25) + 1) - (((kup S 34 26 ((S 34 26) - 1)) 34 25) + 1) / ((kup S 34 26 ((S 34 26) - 1)) 34 12) * ((kup S 34 26 ((S 34 26) - 1)) 34 12)).toNatClampNeg)) 34 27 0) 34 28 (((kup (kup (kup (kup S 34 26 ((S 34 26) - 1)) 34 25 ((((kup S 34 26 ((S 34 26) - 1)) 34 25) + 1) - (((kup S 34 26 ((S 34 26) - 1)) 34 25) + 1) / ((kup S 34 26 ((S 34 26) - 1)) 34 12) * ((kup S 34 26 ((S 34 26) - 1)) 34 12))) 34 26 ((kup (kup S 34 26 ((S 34 26) - 1)) 34 25 ((((kup S 34 26 ((S 34 26) - 1)) 34 25) + 1) - (((kup S 34 26 ((S 34 26) - 1)) 34 25) + 1) / ((kup S 34 26 ((S 34 26) - 1)) 34 12) * ((kup S 34 26 ((S 34 26) - 1)) 34 12))) 47 ((((kup S 34 26 ((S 34 26) - 1)) 34 25) + 1) - (((kup S 34 26 ((S 34 26) - 1)) 34 25) + 1) / ((kup S 34 26 ((S 34 26) - 1)) 34 12) * ((kup S 34 26 ((S 34 26) - 1)) 34 12)).toNatClampNeg)) 34 27 0) 34 28) + 1) else kup (kup S 34 26 ((S 34 26) - 1)) 34 28 (((kup S 34 26 ((S 34 26) - 1)) 34 28) + 1)
theorem ite_pair {c : Prop} [Decidable c] {x : Int32} {a b : kM} : (x, if c then a else b) = if c then (x, a) else (x, b) := by
  by_cases h : c
  · rw [if_pos h, if_pos h]
  · rw [if_neg h, if_neg h]
theorem tick_eq {mu : kM} : f_X3_tick mu = if (f_X3_age_lp 8 0 mu) 46 ((f_X3_age_lp 8 0 mu) 34 25).toNatClampNeg < 0 then (0, m_mv (f_X3_age_lp 8 0 mu)) else if (f_X3_age_lp 8 0 mu) 39 ((f_X3_age_lp 8 0 mu) 46 ((f_X3_age_lp 8 0 mu) 34 25).toNatClampNeg).toNatClampNeg = 1 then (if (f_X3_age_lp 8 0 mu) 34 27 = 0 then (1, m_mv (f_X3_instruction (f_X3_age_lp 8 0 mu) ((f_X3_age_lp 8 0 mu) 46 ((f_X3_age_lp 8 0 mu) 34 25).toNatClampNeg))) else (0, m_mv (f_X3_age_lp 8 0 mu))) else (0, m_mv (f_X3_age_lp 8 0 mu)) := by
  unfold f_X3_tick
  generalize f_X3_age_lp 8 0 mu = M
  generalize f_X3_instruction M (M 46 (M 34 25).toNatClampNeg) = N
  simp only [m_mv, ite_pair]
theorem Rq_move {ka mu ka' mu' : kM} (h : Rq ka mu) (hs : ¬ ka 0 7 = 0) (e : ∀ r k, r ≠ 0 → ka' r k = ka r k) (e0 : ∀ k, k ≠ 8 → k ≠ 9 → k ≠ 10 → ka' 0 k = ka 0 k) (f : ∀ r k, r ≠ 34 → mu' r k = mu r k) (f12 : mu' 34 12 = mu 34 12) (f24 : mu' 34 24 = mu 34 24) (h8 : ka' 0 8 = mu' 34 25) (h10 : ka' 0 10 = mu' 34 27) (hx : 0 ≤ (ka' 0 8).toInt ∧ (ka' 0 8).toInt < (ka 0 5).toInt ∧ 0 ≤ (ka' 0 9).toInt ∧ 0 < (mu' 34 26).toInt ∧ (ka' 0 9).toInt + (mu' 34 26).toInt = (ka 5 (ka' 0 8).toNatClampNeg).toInt) : Rq ka' mu' := by
  obtain ⟨h1, h2, h3, h4, h5, h6⟩ := h
  have e11 : ka' 0 11 = ka 0 11 := e0 11 (by decide) (by decide) (by decide)
  refine ⟨?_, fun i => by rw [e _ _ (by decide), f _ _ (by decide)]; exact h2 i, fun i hi => Rp_of (h3 i hi) (fun _ => e _ _ (by omega)) (fun _ => e _ _ (by omega)) (fun r _ _ _ => f _ _ (by omega)) (fun _ _ => f _ _ (by decide)), fun d hd => by rw [e11]; exact Rc_of (h4 d hd) (fun _ => e _ _ (by omega)) (fun _ => e _ _ (by omega)) (fun r _ _ _ => f _ _ (by omega)) (fun _ _ => f _ _ (by decide)), by rw [e11]; exact h5, by rw [e11]; exact h6⟩
  obtain ⟨g1, g2, g3, g4, g5, g6, g7, g8, g9, g10, g11, g12, g13⟩ := h1
  have e5 : ka' 5 = ka 5 := funext (fun i => e _ _ (by decide))
  have e4 : ∀ i, ka' 4 i = ka 4 i := fun i => e _ _ (by decide)
  unfold Rs
  rw [e0 5 (by decide) (by decide) (by decide), e0 6 (by decide) (by decide) (by decide), e0 7 (by decide) (by decide) (by decide), f12, f24, e5]
  refine ⟨g1, g2, g3, g4, g5, h8, h10, fun i => by rw [e4, f _ _ (by decide)]; exact g8 i, fun i => by rw [f _ _ (by decide)]; exact g9 i, fun i hi => by rw [e4]; exact g10 i hi, g11, fun q => absurd q hs, fun _ => hx⟩
theorem div_lt {a b : Int32} (h0 : 0 ≤ a.toInt) (h : a.toInt < b.toInt) : a / b = 0 := by
  rw [ki_eq, Int32.toInt_div, Int.tdiv_eq_zero_of_lt h0 h]; rfl
theorem div_se {b : Int32} (h : 0 < b.toInt) : b / b = 1 := by
  rw [ki_eq, Int32.toInt_div, Int.tdiv_self (by omega)]; rfl
theorem mv_ok {K S : kM} (hq : Rq K S) (hs : ¬ K 0 7 = 0) : Rq (f_X2_moveWindowOn K) (m_mv S) ∧ f_X2_moveWindowOn K 0 11 = K 0 11 ∧ f_X2_moveWindowOn K 0 7 = K 0 7 ∧ m_mv S 34 28 = S 34 28 + 1 ∧ m_mv S 34 0 = S 34 0 := by
  obtain ⟨g1, g2, g3, g4, g5, g6, g7, g8, g9, g10, g11, g12, g13⟩ := hq.1
  obtain ⟨k1, k2, k3, k4, k5⟩ := g13 hs
  have k6 := g11 (K 0 8).toNatClampNeg (by rw [show (K 0 8).toNatClampNeg = (K 0 8).toInt.toNat from rfl]; omega)
  have e9 : (K 0 9 + 1).toInt = (K 0 9).toInt + 1 := ki_add1 (by omega)
  have e26 : (S 34 26 - 1).toInt = (S 34 26).toInt - 1 := by rw [ki_sub (by rw [show (1 : Int32).toInt = 1 from rfl]; omega) (by rw [show (1 : Int32).toInt = 1 from rfl]; omega)]; rfl
  have e8 : (K 0 8 + 1).toInt = (K 0 8).toInt + 1 := ki_add1 (by omega)
  rw [f_X2_moveWindowOn, m_mv]
  simp only [kup_at, kup_j (show (8 : Nat) ≠ 9 by decide), kup_j (show (8 : Nat) ≠ 10 by decide), kup_j (show (5 : Nat) ≠ 8 by decide), kup_j (show (5 : Nat) ≠ 10 by decide), kup_j (show (5 : Nat) ≠ 9 by decide), kup_r (show (5 : Nat) ≠ 0 by decide), kup_j (show (25 : Nat) ≠ 26 by decide), kup_j (show (12 : Nat) ≠ 26 by decide), kup_r (show (47 : Nat) ≠ 34 by decide), kup_j (show (28 : Nat) ≠ 26 by decide), kup_j (show (28 : Nat) ≠ 27 by decide), kup_j (show (28 : Nat) ≠ 25 by decide)]
  by_cases h : K 5 (K 0 8).toNatClampNeg ≤ K 0 9 + 1
  · have h1 : S 34 26 - 1 = 0 := by rw [ki_le] at h; rw [ki_eq, e26, show (0 : Int32).toInt = 0 from rfl]; omega
    rw [if_pos h, if_pos h1, ← g6, ← g1]
    by_cases h2 : K 0 8 + 1 < K 0 5
    · have hat : K 0 8 + 1 - (K 0 8 + 1) / K 0 5 * K 0 5 = K 0 8 + 1 := by
        rw [ki_lt] at h2
        rw [div_lt (by omega) h2, Int32.zero_mul, Int32.sub_zero]
      rw [if_pos h2, hat]
      rw [ki_lt] at h2
      have k7 := g11 (K 0 8 + 1).toNatClampNeg (by rw [show (K 0 8 + 1).toNatClampNeg = (K 0 8 + 1).toInt.toNat from rfl]; omega)
      refine ⟨Rq_move hq hs (fun r k q => by rw [kup_r q, kup_r q, kup_r q, kup_r q]) (fun k q1 q2 q3 => by rw [kup_j q1, kup_j q3, kup_j q2, kup_j q2]) (fun r k q => by rw [kup_r q, kup_r q, kup_r q, kup_r q, kup_r q]) (by rw [kup_j (by decide), kup_j (by decide), kup_j (by decide), kup_j (by decide), kup_j (by decide)]) (by rw [kup_j (by decide), kup_j (by decide), kup_j (by decide), kup_j (by decide), kup_j (by decide)]) (by rw [kup_at, kup_j (by decide), kup_j (by decide), kup_j (by decide), kup_at]) (by rw [kup_j (by decide), kup_at, kup_j (by decide), kup_at]) ?_, ?_, ?_, ?_, ?_⟩
      · rw [kup_at, kup_j (show (9 : Nat) ≠ 8 by decide), kup_j (show (9 : Nat) ≠ 10 by decide), kup_at, kup_j (show (26 : Nat) ≠ 28 by decide), kup_j (show (26 : Nat) ≠ 27 by decide), kup_at, ← g9]
        rw [show (0 : Int32).toInt = 0 from rfl]
        omega
      · rw [kup_j (by decide), kup_j (by decide), kup_j (by decide), kup_j (by decide)]
      · rw [kup_j (by decide), kup_j (by decide), kup_j (by decide), kup_j (by decide)]
      · rw [kup_at]
      · rw [kup_j (by decide), kup_j (by decide), kup_j (by decide), kup_j (by decide), kup_j (by decide)]
    · have hat : K 0 8 + 1 - (K 0 8 + 1) / K 0 5 * K 0 5 = 0 := by
        rw [ki_lt] at h2
        rw [show K 0 8 + 1 = K 0 5 by rw [ki_eq]; omega, div_se (by omega), Int32.one_mul, Int32.sub_self]
      rw [if_neg h2, hat]
      have k7 := g11 (0 : Int32).toNatClampNeg (by rw [show (0 : Int32).toNatClampNeg = 0 from rfl]; omega)
      refine ⟨Rq_move hq hs (fun r k q => by rw [kup_r q, kup_r q, kup_r q, kup_r q, kup_r q]) (fun k q1 q2 q3 => by rw [kup_j q1, kup_j q1, kup_j q3, kup_j q2, kup_j q2]) (fun r k q => by rw [kup_r q, kup_r q, kup_r q, kup_r q, kup_r q]) (by rw [kup_j (by decide), kup_j (by decide), kup_j (by decide), kup_j (by decide), kup_j (by decide)]) (by rw [kup_j (by decide), kup_j (by decide), kup_j (by decide), kup_j (by decide), kup_j (by decide)]) (by rw [kup_at, kup_j (by decide), kup_j (by decide), kup_j (by decide), kup_at]) (by rw [kup_j (by decide), kup_j (by decide), kup_at, kup_j (by decide), kup_at]) ?_, ?_, ?_, ?_, ?_⟩
      · rw [kup_at, kup_j (show (9 : Nat) ≠ 8 by decide), kup_j (show (9 : Nat) ≠ 8 by decide), kup_j (show (9 : Nat) ≠ 10 by decide), kup_at, kup_j (show (26 : Nat) ≠ 28 by decide), kup_j (show (26 : Nat) ≠ 27 by decide), kup_at, ← g9]
        rw [show (0 : Int32).toInt = 0 from rfl]
        omega
      · rw [kup_j (by decide), kup_j (by decide), kup_j (by decide), kup_j (by decide), kup_j (by decide)]
      · rw [kup_j (by decide), kup_j (by decide), kup_j (by decide), kup_j (by decide), kup_j (by decide)]
      · rw [kup_at]
      · rw [kup_j (by decide), kup_j (by decide), kup_j (by decide), kup_j (by decide), kup_j (by decide)]
  · have h1 : ¬ S 34 26 - 1 = 0 := by rw [ki_le] at h; rw [ki_eq, e26, show (0 : Int32).toInt = 0 from rfl]; omega
    rw [if_neg h, if_neg h1]
    rw [ki_le] at h
    refine ⟨Rq_move hq hs (fun r k q => by rw [kup_r q]) (fun k q1 q2 q3 => by rw [kup_j q2]) (fun r k q => by rw [kup_r q, kup_r q]) (by rw [kup_j (by decide), kup_j (by decide)]) (by rw [kup_j (by decide), kup_j (by decide)]) (by rw [kup_j (by decide), kup_j (by decide), kup_j (by decide)]; exact g6) (by rw [kup_j (by decide), kup_j (by decide), kup_j (by decide)]; exact g7) ?_, ?_, ?_, ?_, ?_⟩
    · rw [kup_at, kup_j (show (8 : Nat) ≠ 9 by decide), kup_j (show (26 : Nat) ≠ 28 by decide), kup_at]
      omega
    · rw [kup_j (by decide)]
    · rw [kup_j (by decide)]
    · rw [kup_at]
    · rw [kup_j (by decide), kup_j (by decide)]
def agef (a b x : Int32) : Int32 := if a = 0 then (if b ≤ 0 then x else if (1000000 : Int32) ≤ x then x else x + 1) else x
theorem agelp_at : ∀ (n k : Nat) (mu : kM) (i : Nat), k + n ≤ 8 → f_X3_age_lp n (nI k) mu 54 i = if k ≤ i ∧ i < k + n then agef (mu 51 i) (mu 53 i) (mu 54 i) else mu 54 i := by
  intro n
  induction n with
  | zero => intro k mu i _; rw [f_X3_age_lp, if_neg (by omega)]
  | succ n ih =>
    intro k mu i h
    have e : f_X3_age_lp (n + 1) (nI k) mu = f_X3_age_lp n (nI (k + 1)) (kup mu 54 k (agef (mu 51 k) (mu 53 k) (mu 54 k))) := by
      rw [f_X3_age_lp, nI_clamp (show k < 2 ^ 31 by omega), ← nI_succ, agef]
      by_cases h1 : mu 51 k = 0
      · rw [if_pos h1, if_pos h1]
        by_cases h2 : mu 53 k ≤ 0
        · rw [if_pos h2, if_pos h2]
        · rw [if_neg h2, if_neg h2]
          by_cases h3 : (1000000 : Int32) ≤ mu 54 k
          · rw [if_pos h3, if_pos h3]
          · rw [if_neg h3, if_neg h3]
      · rw [if_neg h1, if_neg h1]
    rw [e, ih (k + 1) _ i (by omega), kup_r (show (51 : Nat) ≠ 54 by decide), kup_r (show (53 : Nat) ≠ 54 by decide), kup_eq]
    by_cases q : i = k
    · subst q
      rw [if_neg (by omega), if_pos (by omega), if_pos (by omega)]
    · rw [if_neg (show ¬ (54 = 54 ∧ i = k) from fun z => q z.2)]
      by_cases q2 : k + 1 ≤ i ∧ i < k + 1 + n
      · rw [if_pos q2, if_pos (by omega)]
      · rw [if_neg q2, if_neg (by omega)]
theorem Rq_age {ka mu : kM} (h : Rq ka mu) (hT : (ka 0 11).toInt < 1999999999) : Rq (kup ka 0 11 (ka 0 11 + 1)) (f_X3_age_lp 8 0 mu) := by
  obtain ⟨h1, h2, h3, h4, h5, h6⟩ := h
  have hL : ∀ r i, r ≠ 54 → f_X3_age_lp 8 0 mu r i = mu r i := fun r i q => age_fr q
  have h54 : ∀ i, i < 8 → f_X3_age_lp 8 0 mu 54 i = agef (mu 51 i) (mu 53 i) (mu 54 i) := fun i hi => by
    have := agelp_at 8 0 mu i (by omega)
    rw [if_pos (by omega)] at this
    exact this
  have eT : (ka 0 11 + 1).toInt = (ka 0 11).toInt + 1 := ki_add1 (by omega)
  refine ⟨?_, fun i => by rw [kup_r (by decide), hL _ _ (by decide)]; exact h2 i, fun i hi => Rp_of (h3 i hi) (fun _ => kup_r (by omega)) (fun _ => kup_r (by omega)) (fun r _ _ _ => hL _ _ (by omega)) (fun _ _ => hL _ _ (by decide)), fun d hd => ?_, by rw [kup_at, eT]; omega, by rw [kup_at, eT]; omega⟩
  · obtain ⟨g1, g2, g3, g4, g5, g6, g7, g8, g9, g10, g11, g12, g13⟩ := h1
    have e5 : kup ka 0 11 (ka 0 11 + 1) 5 = ka 5 := funext (fun i => kup_r (by decide))
    unfold Rs
    simp only [e5, kup_j (show (5 : Nat) ≠ 11 by decide), kup_j (show (6 : Nat) ≠ 11 by decide), kup_j (show (7 : Nat) ≠ 11 by decide), kup_j (show (8 : Nat) ≠ 11 by decide), kup_j (show (9 : Nat) ≠ 11 by decide), kup_j (show (10 : Nat) ≠ 11 by decide), kup_r (show (4 : Nat) ≠ 0 by decide), hL 34 _ (by decide), hL 46 _ (by decide), hL 47 _ (by decide)]
    exact ⟨g1, g2, g3, g4, g5, g6, g7, g8, g9, g10, g11, g12, g13⟩
  · obtain ⟨g1, g2, g3, g4, g5, g6, g7, g8, g9, g10, g11, g12, ⟨f, hf, hf1, hf2⟩, g14, g15⟩ := h4 d hd
    unfold Rc
    rw [kup_at, eT, h54 d hd]
    simp only [kup_r (show d + 18 ≠ 0 by omega), kup_r (show d + 26 ≠ 0 by omega), hL 48 _ (by decide), hL 49 _ (by decide), hL 50 _ (by decide), hL 51 _ (by decide), hL 52 _ (by decide), hL 53 _ (by decide), hL 55 _ (by decide), hL 56 _ (by decide)]
    refine ⟨g1, g2, g3, g4, g5, g6, g7, g8, g9, g10, g11, g12, ⟨f, hf, hf1, hf2⟩, fun q1 q2 => ?_, fun q1 q2 => ?_⟩
    · obtain ⟨k1, k2, k3⟩ := g14 q1 q2
      refine ⟨k1, by omega, ?_⟩
      have h0 : ¬ mu 53 d ≤ 0 := by
        rw [ki_le, show (0 : Int32).toInt = 0 from rfl]
        rw [ki_eq, show (0 : Int32).toInt = 0 from rfl] at q2
        omega
      rw [agef, if_pos q1, if_neg h0]
      by_cases h7 : (1000000 : Int32) ≤ mu 54 d
      · rw [if_pos h7]
        rw [ki_le, show (1000000 : Int32).toInt = 1000000 from rfl] at h7
        omega
      · rw [if_neg h7]
        rw [ki_le, show (1000000 : Int32).toInt = 1000000 from rfl] at h7
        rw [ki_add1 (by omega)]
        omega
    · rw [agef, if_pos q1, q2, if_pos (by decide)]
      exact g15 q1 q2
theorem tick_ok {B : Int} {ka mu : kM} (h : RR B ka mu) (hs : ¬ ka 0 7 = 0) (hB : B < 1999999999) :
    (f_X2_goOneTick ka).1 = (f_X3_tick mu).1 ∧ RR (B + 1) (f_X2_goOneTick ka).2 (f_X3_tick mu).2 ∧ (f_X2_goOneTick ka).2 0 7 = ka 0 7 ∧ (f_X3_tick mu).2 34 0 = mu 34 0 := by
  obtain ⟨hq, h11, hTB⟩ := h
  have hA := Rq_age hq (by omega)
  have eT : (ka 0 11 + 1).toInt = (ka 0 11).toInt + 1 := ki_add1 (by have := hq.2.2.2.2.2; omega)
  have a28 : f_X3_age_lp 8 0 mu 34 28 = ka 0 11 := by rw [age_fr (by decide), h11]
  have a0 : f_X3_age_lp 8 0 mu 34 0 = mu 34 0 := age_fr (by decide)
  have a7 : ¬ kup ka 0 11 (ka 0 11 + 1) 0 7 = 0 := by rw [kup_j (by decide)]; exact hs
  have b7 : kup ka 0 11 (ka 0 11 + 1) 0 7 = ka 0 7 := kup_j (by decide)
  have b11 : kup ka 0 11 (ka 0 11 + 1) 0 11 = ka 0 11 + 1 := kup_at _ _ _ _
  rw [tick_eq, f_X2_goOneTick]
  generalize f_X3_age_lp 8 0 mu = M at hA a28 a0 ⊢
  generalize kup ka 0 11 (ka 0 11 + 1) = K at hA a7 b7 b11 ⊢
  obtain ⟨g1, g2, g3, g4, g5, g6, g7, g8, g9, g10, g11, g12, g13⟩ := hA.1
  obtain ⟨k1, k2, k3, k4, k5⟩ := g13 a7
  have hidle : (0 : Int32) = 0 ∧ RR (B + 1) (f_X2_moveWindowOn K) (m_mv M) ∧ f_X2_moveWindowOn K 0 7 = ka 0 7 ∧ m_mv M 34 0 = mu 34 0 := by
    obtain ⟨m1, m2, m3, m4, m5⟩ := mv_ok hA a7
    exact ⟨rfl, ⟨m1, by rw [m2, m4, a28, b11], by rw [m2, b11, eT]; omega⟩, by rw [m3, b7], by rw [m5, a0]⟩
  rw [← g6, ← g8, ← g7]
  have hi12 : (K 0 8).toNatClampNeg < 12 := by rw [show (K 0 8).toNatClampNeg = (K 0 8).toInt.toNat from rfl]; omega
  rcases g10 _ hi12 with ho | ho
  · rw [ho, if_pos rfl, if_pos (by decide)]
    exact hidle
  · obtain ⟨j, hj, hjo⟩ := nI_get ho (by omega)
    rw [hjo, if_neg (fun z => by rw [ki_eq, nI_toInt (by omega), show (-1 : Int32).toInt = -1 from rfl] at z; omega), if_neg (nI_pos (by omega)), nI_clamp (show j < 2 ^ 31 by omega), (hA.2.2.1 j hj).1]
    by_cases hst : M 39 j = 1
    · rw [if_pos hst, if_pos hst]
      by_cases hy : K 0 10 = 0
      · rw [if_pos hy, if_pos hy]
        have hI := ins_ok hA hj
        have hsm := kSm_run (p := nI j) (kSm_refl (a := K))
        obtain ⟨m1, m2, m3, m4, m5⟩ := mv_ok hI (by rw [hsm.2.2.2.1]; exact a7)
        have i28 : f_X3_instruction M (nI j) 34 28 = M 34 28 := ins_fr (by unfold kOkM; omega)
        have i0 : f_X3_instruction M (nI j) 34 0 = M 34 0 := ins_fr (by unfold kOkM; omega)
        show (1 : Int32) = 1 ∧ RR (B + 1) (f_X2_moveWindowOn (f_X2_runInstruction K (nI j))) (m_mv (f_X3_instruction M (nI j))) ∧ f_X2_moveWindowOn (f_X2_runInstruction K (nI j)) 0 7 = ka 0 7 ∧ m_mv (f_X3_instruction M (nI j)) 34 0 = mu 34 0
        exact ⟨rfl, ⟨m1, by rw [m2, m4, i28, a28, hsm.2.2.2.2.2.1, b11], by rw [m2, hsm.2.2.2.2.2.1, b11, eT]; omega⟩, by rw [m3, hsm.2.2.2.1, b7], by rw [m5, i0, a0]⟩
      · rw [if_neg hy, if_neg hy]; exact hidle
    · rw [if_neg hst, if_neg hst]
      by_cases hy : K 0 10 = 0
      · rw [if_pos hy]; exact hidle
      · rw [if_neg hy]; exact hidle
