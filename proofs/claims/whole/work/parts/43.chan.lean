/-! ===== channels: a word that comes, a word that is taken ===== -/
theorem Rq_chan {ka mu ka' mu' : kM} {c : Nat} (h : Rq ka mu) (hc : c < 8) (e : ∀ r k, r ≠ c + 18 → r ≠ c + 26 → ka' r k = ka r k) (f : ∀ r k, (r < 48 ∨ 56 < r) → mu' r k = mu r k) (f2 : ∀ r k, 48 ≤ r → r ≤ 56 → r ≠ 52 → k ≠ c → mu' r k = mu r k) (f3 : ∀ k, (k < 8 * c ∨ 8 * c + 8 ≤ k) → mu' 52 k = mu 52 k) (hR : Rc (ka 0 11).toInt ka' mu' c) : Rq ka' mu' := by
  obtain ⟨h1, h2, h3, h4, h5, h6⟩ := h
  have e0 : ∀ k, ka' 0 k = ka 0 k := fun k => e 0 k (by omega) (by omega)
  refine ⟨Rs_of h1 e0 (fun _ => e _ _ (by omega) (by omega)) (fun _ => e _ _ (by omega) (by omega)) (f _ _ (by omega)) (f _ _ (by omega)) (f _ _ (by omega)) (f _ _ (by omega)) (f _ _ (by omega)) (fun _ => f _ _ (by omega)) (fun _ => f _ _ (by omega)), fun i => by rw [e _ _ (by omega) (by omega), f _ _ (by omega)]; exact h2 i, fun i hi => Rp_of (h3 i hi) (fun _ => e _ _ (by omega) (by omega)) (fun _ => e _ _ (by omega) (by omega)) (fun r _ _ _ => f _ _ (by omega)) (fun _ _ => f _ _ (by omega)), fun d hd => ?_, by rw [e0]; exact h5, by rw [e0]; exact h6⟩
  rw [e0]
  by_cases q : d = c
  · subst q; exact hR
  · exact Rc_of (h4 d hd) (fun _ => e _ _ (by omega) (by omega)) (fun _ => e _ _ (by omega) (by omega)) (fun r g1 g2 g3 => f2 _ _ g1 g2 g3 q) (fun k hk => f3 _ (by omega))
theorem Rq_slot {ka mu : kM} {c : Nat} {x : Int32} (h : Rq ka mu) (hc : c < 8) (hr : mu 51 c = 0) :
    Rq (kup (kup (kup (kup ka (c + 26) 0 x) (c + 18) 6 1) (c + 18) 7 (ka 0 11)) (c + 18) 8 (ka (c + 18) 8 + 1)) (kup (kup (kup (kup mu 52 (8 * c) x) 53 c 1) 54 c 0) 55 c (mu 55 c + 1)) := by
  have hT := h.2.2.2.2.1
  obtain ⟨g1, g2, g3, g4, g5, g6, g7, g8, g9, g10, g11, g12, ⟨f, hf, hf1, hf2⟩, g14, g15⟩ := h.2.2.2.1 c hc
  refine Rq_chan h hc (fun r k h1 h2 => by rw [kup_r (by omega), kup_r (by omega), kup_r (by omega), kup_r (by omega)]) (fun r k h1 => by rw [kup_r (by omega), kup_r (by omega), kup_r (by omega), kup_r (by omega)]) (fun r k h1 h2 h3 h4 => by rw [kup_j h4, kup_j h4, kup_j h4, kup_r h3]) (fun k hk => by rw [kup_r (by decide), kup_r (by decide), kup_r (by decide), kup_j (by omega)]) ?_
  have a1 : ∀ k, k ≠ 6 → k ≠ 7 → k ≠ 8 → kup (kup (kup (kup ka (c + 26) 0 x) (c + 18) 6 1) (c + 18) 7 (ka 0 11)) (c + 18) 8 (ka (c + 18) 8 + 1) (c + 18) k = ka (c + 18) k := fun k q1 q2 q3 => by rw [kup_j q3, kup_j q2, kup_j q1, kup_r (by omega)]
  have a6 : kup (kup (kup (kup ka (c + 26) 0 x) (c + 18) 6 1) (c + 18) 7 (ka 0 11)) (c + 18) 8 (ka (c + 18) 8 + 1) (c + 18) 6 = 1 := by rw [kup_j (by decide), kup_j (by decide), kup_at]
  have a7 : kup (kup (kup (kup ka (c + 26) 0 x) (c + 18) 6 1) (c + 18) 7 (ka 0 11)) (c + 18) 8 (ka (c + 18) 8 + 1) (c + 18) 7 = ka 0 11 := by rw [kup_j (by decide), kup_at]
  have aw : kup (kup (kup (kup ka (c + 26) 0 x) (c + 18) 6 1) (c + 18) 7 (ka 0 11)) (c + 18) 8 (ka (c + 18) 8 + 1) (c + 26) 0 = x := by rw [kup_r (by omega), kup_r (by omega), kup_r (by omega), kup_at]
  have b1 : ∀ r, r < 52 → kup (kup (kup (kup mu 52 (8 * c) x) 53 c 1) 54 c 0) 55 c (mu 55 c + 1) r c = mu r c := fun r q => by rw [kup_r (by omega), kup_r (by omega), kup_r (by omega), kup_r (by omega)]
  have b53 : kup (kup (kup (kup mu 52 (8 * c) x) 53 c 1) 54 c 0) 55 c (mu 55 c + 1) 53 c = 1 := by rw [kup_r (by decide), kup_r (by decide), kup_at]
  have b54 : kup (kup (kup (kup mu 52 (8 * c) x) 53 c 1) 54 c 0) 55 c (mu 55 c + 1) 54 c = 0 := by rw [kup_r (by decide), kup_at]
  have b56 : kup (kup (kup (kup mu 52 (8 * c) x) 53 c 1) 54 c 0) 55 c (mu 55 c + 1) 56 c = mu 56 c := by rw [kup_r (by decide), kup_r (by decide), kup_r (by decide), kup_r (by decide)]
  have b52 : kup (kup (kup (kup mu 52 (8 * c) x) 53 c 1) 54 c 0) 55 c (mu 55 c + 1) 52 (8 * c) = x := by rw [kup_r (by decide), kup_r (by decide), kup_r (by decide), kup_at]
  unfold Rc
  rw [a1 1 (by decide) (by decide) (by decide), a1 2 (by decide) (by decide) (by decide), a1 3 (by decide) (by decide) (by decide), a1 4 (by decide) (by decide) (by decide), a1 5 (by decide) (by decide) (by decide), a1 9 (by decide) (by decide) (by decide), a6, a7, b1 48 (by decide), b1 49 (by decide), b1 50 (by decide), b1 51 (by decide), b53, b54, b56]
  refine ⟨g1, g2, g3, g4, rfl, ?_, g7, g8, g9, by decide, fun q => absurd hr q, fun _ => ⟨by decide, (g12 hr).2⟩, ⟨0, by decide, (g12 hr).2, fun k hk => ?_⟩, fun _ _ => ⟨hT, Int.le_refl _, ?_⟩, fun _ q => absurd q (by decide)⟩
  · rw [kup_at, kup_at, g6]
  · have : k = 0 := by rw [show (1 : Int32).toInt = 1 from rfl] at hk; omega
    subst this
    show kup _ _ _ _ (c + 26) 0 = kup _ _ _ _ 52 (8 * c)
    rw [aw, b52]
  · rw [show (0 : Int32).toInt = 0 from rfl]; omega
theorem Rq_full {ka mu : kM} {c : Nat} (h : Rq ka mu) (hc : c < 8) : Rq (kup ka (c + 18) 9 (ka (c + 18) 9 + 1)) (kup mu 56 c (mu 56 c + 1)) := by
  obtain ⟨g1, g2, g3, g4, g5, g6, g7, g8, g9, g10, g11, g12, ⟨f, hf, hf1, hf2⟩, g14, g15⟩ := h.2.2.2.1 c hc
  refine Rq_chan h hc (fun r k h1 h2 => kup_r (by omega)) (fun r k h1 => kup_r (by omega)) (fun r k h1 h2 h3 h4 => kup_j h4) (fun k hk => kup_r (by decide)) ?_
  unfold Rc
  simp only [kup_at, kup_j (show (1 : Nat) ≠ 9 by decide), kup_j (show (2 : Nat) ≠ 9 by decide), kup_j (show (3 : Nat) ≠ 9 by decide), kup_j (show (4 : Nat) ≠ 9 by decide), kup_j (show (5 : Nat) ≠ 9 by decide), kup_j (show (6 : Nat) ≠ 9 by decide), kup_j (show (7 : Nat) ≠ 9 by decide), kup_j (show (8 : Nat) ≠ 9 by decide), kup_r (show (48 : Nat) ≠ 56 by decide), kup_r (show (49 : Nat) ≠ 56 by decide), kup_r (show (50 : Nat) ≠ 56 by decide), kup_r (show (51 : Nat) ≠ 56 by decide), kup_r (show (52 : Nat) ≠ 56 by decide), kup_r (show (53 : Nat) ≠ 56 by decide), kup_r (show (54 : Nat) ≠ 56 by decide), kup_r (show (55 : Nat) ≠ 56 by decide), kup_r (show c + 26 ≠ c + 18 by omega)]
  exact ⟨g1, g2, g3, g4, g5, g6, by rw [g7], g8, g9, g10, g11, g12, ⟨f, hf, hf1, hf2⟩, g14, g15⟩
theorem and7 {n : Nat} (h : n < 2 ^ 32) : nI n &&& 7 = nI (n % 8) := pk_andN h 3 rfl
theorem Rq_come {ka mu : kM} {c f n : Nat} {x : Int32} (h : Rq ka mu) (hc : c < 8) (hr : ¬ mu 51 c = 0) (hf : f < 8) (hf1 : ka (c + 18) 5 = nI f) (hn : mu 53 c = nI n) (hn1 : (n : Int) < (mu 51 c).toInt) (hf2 : ∀ k : Nat, (k : Int) < (mu 53 c).toInt → ka (c + 26) ((f + k) % 8) = mu 52 (8 * c + k)) :
    Rq (kup (kup (kup ka (c + 26) ((f + n) % 8) x) (c + 18) 6 (ka (c + 18) 6 + 1)) (c + 18) 8 (ka (c + 18) 8 + 1)) (kup (kup (kup mu 52 (8 * c + n) x) 53 c (mu 53 c + 1)) 55 c (mu 55 c + 1)) := by
  obtain ⟨g1, g2, g3, g4, g5, g6, g7, g8, g9, g10, g11, g12, -, g14, g15⟩ := h.2.2.2.1 c hc
  have hnt : (nI n).toInt = n := nI_toInt (by omega)
  have hn8 : n < 8 := by omega
  refine Rq_chan h hc (fun r k h1 h2 => by rw [kup_r (by omega), kup_r (by omega), kup_r (by omega)]) (fun r k h1 => by rw [kup_r (by omega), kup_r (by omega), kup_r (by omega)]) (fun r k h1 h2 h3 h4 => by rw [kup_j h4, kup_j h4, kup_r h3]) (fun k hk => by rw [kup_r (by decide), kup_r (by decide), kup_j (by omega)]) ?_
  have e1 : (mu 53 c + 1).toInt = (mu 53 c).toInt + 1 := ki_add1 (by rw [hn, hnt]; omega)
  unfold Rc
  simp only [kup_at, kup_j (show (1 : Nat) ≠ 6 by decide), kup_j (show (2 : Nat) ≠ 6 by decide), kup_j (show (3 : Nat) ≠ 6 by decide), kup_j (show (4 : Nat) ≠ 6 by decide), kup_j (show (5 : Nat) ≠ 6 by decide), kup_j (show (7 : Nat) ≠ 6 by decide), kup_j (show (8 : Nat) ≠ 6 by decide), kup_j (show (9 : Nat) ≠ 6 by decide), kup_j (show (1 : Nat) ≠ 8 by decide), kup_j (show (2 : Nat) ≠ 8 by decide), kup_j (show (3 : Nat) ≠ 8 by decide), kup_j (show (4 : Nat) ≠ 8 by decide), kup_j (show (5 : Nat) ≠ 8 by decide), kup_j (show (6 : Nat) ≠ 8 by decide), kup_j (show (7 : Nat) ≠ 8 by decide), kup_j (show (9 : Nat) ≠ 8 by decide), kup_r (show c + 18 ≠ c + 26 by omega), kup_r (show c + 26 ≠ c + 18 by omega), kup_r (show (48 : Nat) ≠ 55 by decide), kup_r (show (49 : Nat) ≠ 55 by decide), kup_r (show (50 : Nat) ≠ 55 by decide), kup_r (show (51 : Nat) ≠ 55 by decide), kup_r (show (52 : Nat) ≠ 55 by decide), kup_r (show (53 : Nat) ≠ 55 by decide), kup_r (show (54 : Nat) ≠ 55 by decide), kup_r (show (56 : Nat) ≠ 55 by decide), kup_r (show (48 : Nat) ≠ 53 by decide), kup_r (show (49 : Nat) ≠ 53 by decide), kup_r (show (50 : Nat) ≠ 53 by decide), kup_r (show (51 : Nat) ≠ 53 by decide), kup_r (show (52 : Nat) ≠ 53 by decide), kup_r (show (54 : Nat) ≠ 53 by decide), kup_r (show (56 : Nat) ≠ 53 by decide), kup_r (show (48 : Nat) ≠ 52 by decide), kup_r (show (49 : Nat) ≠ 52 by decide), kup_r (show (50 : Nat) ≠ 52 by decide), kup_r (show (51 : Nat) ≠ 52 by decide), kup_r (show (54 : Nat) ≠ 52 by decide), kup_r (show (56 : Nat) ≠ 52 by decide)]
  refine ⟨g1, g2, g3, g4, by rw [g5], by rw [g6], g7, g8, g9, by rw [e1]; omega, fun _ => by rw [e1, hn, hnt]; omega, fun q => absurd q hr, ⟨f, hf, hf1, fun k hk => ?_⟩, fun q => absurd q hr, fun q => absurd q hr⟩
  rw [e1, hn, hnt] at hk
  rw [kup_eq, kup_eq]
  by_cases q : k = n
  · subst q; rw [if_pos ⟨rfl, rfl⟩, if_pos ⟨rfl, rfl⟩]
  · rw [if_neg (fun z => by omega), if_neg (fun z => by omega)]
    exact hf2 k (by rw [hn, hnt]; omega)
