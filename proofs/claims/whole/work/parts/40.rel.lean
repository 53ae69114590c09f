/-! ===== the relation between the class's matrix and the reference's ===== -/
theorem kup_comm {s : kM} {r j r' j' : Nat} {v w : Int32} (h : ¬ (r = r' ∧ j = j')) : kup (kup s r j v) r' j' w = kup (kup s r' j' w) r j v := by
  funext a b
  rw [kup_eq, kup_eq, kup_eq, kup_eq]
  by_cases h1 : a = r' ∧ b = j'
  · rw [if_pos h1]
    by_cases h2 : a = r ∧ b = j
    · exact absurd ⟨h2.1.symm.trans h1.1, h2.2.symm.trans h1.2⟩ h
    · rw [if_neg h2, if_pos h1]
  · rw [if_neg h1]
    by_cases h2 : a = r ∧ b = j
    · rw [if_pos h2, if_pos h2]
    · rw [if_neg h2, if_neg h2, if_neg h1]
theorem kup_kup {s : kM} {r j : Nat} {v w : Int32} : kup (kup s r j v) r j w = kup s r j w := by
  funext a b
  rw [kup_eq, kup_eq, kup_eq]
  by_cases h1 : a = r ∧ b = j
  · rw [if_pos h1, if_pos h1]
  · rw [if_neg h1, if_neg h1, if_neg h1]
theorem kup_self {s : kM} {r j : Nat} : kup s r j (s r j) = s := by
  funext a b
  rw [kup_eq]
  by_cases h1 : a = r ∧ b = j
  · rw [if_pos h1, h1.1, h1.2]
  · rw [if_neg h1]
def msum (f : Nat → Int32) : Nat → Int32
  | 0 => 0
  | n + 1 => msum f n + f n
theorem msum_congr {f g : Nat → Int32} : ∀ {n : Nat}, (∀ i, i < n → f i = g i) → msum f n = msum g n := by
  intro n
  induction n with
  | zero => intro _; rfl
  | succ n ih => intro h; rw [msum, msum, ih (fun i hi => h i (by omega)), h n (by omega)]
/-- numbers and windows -/
def Rs (ka mu : kM) : Prop := ka 0 5 = mu 34 12 ∧ 0 ≤ (ka 0 5).toInt ∧ (ka 0 5).toInt ≤ 12 ∧ ka 0 6 = msum (ka 5) (ka 0 5).toNatClampNeg ∧ ka 0 7 = mu 34 24 ∧ ka 0 8 = mu 34 25 ∧ ka 0 10 = mu 34 27 ∧ (∀ i, ka 4 i = mu 46 i) ∧ (∀ i, ka 5 i = mu 47 i) ∧ (∀ i, i < 12 → ka 4 i = -1 ∨ vp_in (ka 4 i) 6) ∧
  (∀ i : Nat, (i : Int) < (ka 0 5).toInt → 1 ≤ (ka 5 i).toInt ∧ (ka 5 i).toInt ≤ 100) ∧ (ka 0 7 = 0 → ka 0 8 = 0 ∧ ka 0 9 = 0) ∧
  (¬ ka 0 7 = 0 → 0 ≤ (ka 0 8).toInt ∧ (ka 0 8).toInt < (ka 0 5).toInt ∧ 0 ≤ (ka 0 9).toInt ∧ 0 < (mu 34 26).toInt ∧ (ka 0 9).toInt + (mu 34 26).toInt = (ka 5 (ka 0 8).toNatClampNeg).toInt)
/-- a partition -/
def Rp (ka mu : kM) (j : Nat) : Prop := ka (j + 6) 1 = mu 39 j ∧ 0 ≤ (mu 39 j).toInt ∧ (mu 39 j).toInt ≤ 3 ∧ ka (j + 6) 2 = mu 36 j ∧ ka (j + 6) 3 = mu 37 j ∧ ka (j + 6) 4 = mu 38 j ∧ ka (j + 6) 5 = mu 40 j ∧ ka (j + 6) 6 = mu 42 j ∧ ka (j + 6) 7 = mu 43 j ∧ ka (j + 6) 8 = mu 44 j ∧ ka (j + 6) 9 = mu 45 j ∧ kB ka j ∧ (∀ k, k < 4 → ka (j + 12) k = mu 41 (4 * j + k))
/-- a channel; T: ticks -/
def Rc (T : Int) (ka mu : kM) (c : Nat) : Prop := ka (c + 18) 1 = mu 48 c ∧ ka (c + 18) 2 = mu 49 c ∧ ka (c + 18) 3 = mu 50 c ∧ ka (c + 18) 4 = mu 51 c ∧ ka (c + 18) 6 = mu 53 c ∧ ka (c + 18) 8 = mu 55 c ∧ ka (c + 18) 9 = mu 56 c ∧
  0 ≤ (mu 51 c).toInt ∧ (mu 51 c).toInt ≤ 8 ∧ 0 ≤ (mu 53 c).toInt ∧ (¬ mu 51 c = 0 → (mu 53 c).toInt ≤ (mu 51 c).toInt) ∧ (mu 51 c = 0 → (mu 53 c).toInt ≤ 1 ∧ ka (c + 18) 5 = 0) ∧
  (∃ f : Nat, f < 8 ∧ ka (c + 18) 5 = nI f ∧ ∀ k : Nat, (k : Int) < (mu 53 c).toInt → ka (c + 26) ((f + k) % 8) = mu 52 (8 * c + k)) ∧
  (mu 51 c = 0 → ¬ mu 53 c = 0 → 0 ≤ (ka (c + 18) 7).toInt ∧ (ka (c + 18) 7).toInt ≤ T ∧ (mu 54 c).toInt = min (T - (ka (c + 18) 7).toInt) 1000000) ∧ (mu 51 c = 0 → mu 53 c = 0 → mu 54 c = 0)
def Rq (ka mu : kM) : Prop := Rs ka mu ∧ (∀ i, ka 1 i = mu 35 i) ∧ (∀ j, j < 6 → Rp ka mu j) ∧ (∀ c, c < 8 → Rc (ka 0 11).toInt ka mu c) ∧ 0 ≤ (ka 0 11).toInt ∧ (ka 0 11).toInt < 2000000000
def RR (B : Int) (ka mu : kM) : Prop := Rq ka mu ∧ ka 0 11 = mu 34 28 ∧ (ka 0 11).toInt ≤ B
theorem Rs_of {ka mu ka' mu' : kM} (h : Rs ka mu) (e0 : ∀ k, ka' 0 k = ka 0 k) (e4 : ∀ i, ka' 4 i = ka 4 i) (e5 : ∀ i, ka' 5 i = ka 5 i) (f12 : mu' 34 12 = mu 34 12) (f24 : mu' 34 24 = mu 34 24) (f25 : mu' 34 25 = mu 34 25) (f26 : mu' 34 26 = mu 34 26) (f27 : mu' 34 27 = mu 34 27) (f46 : ∀ i, mu' 46 i = mu 46 i) (f47 : ∀ i, mu' 47 i = mu 47 i) : Rs ka' mu' := by
  have e5' : ka' 5 = ka 5 := funext e5
  unfold Rs
  simp only [e0, e4, e5', f12, f24, f25, f26, f27, f46, f47]
  exact h
theorem Rp_of {ka mu ka' mu' : kM} {j : Nat} (h : Rp ka mu j) (e : ∀ k, ka' (j + 6) k = ka (j + 6) k) (e2 : ∀ k, ka' (j + 12) k = ka (j + 12) k) (f : ∀ r, 36 ≤ r → r ≤ 45 → r ≠ 41 → mu' r j = mu r j) (f41 : ∀ k, k < 4 → mu' 41 (4 * j + k) = mu 41 (4 * j + k)) : Rp ka' mu' j := by
  obtain ⟨h1, h2, h3, h4, h5, h6, h7, h8, h9, h10, h11, h12, h13⟩ := h
  unfold Rp kB
  rw [e, e, e, e, e, e, e, e, e, f 39 (by decide) (by decide) (by decide), f 36 (by decide) (by decide) (by decide), f 37 (by decide) (by decide) (by decide), f 38 (by decide) (by decide) (by decide), f 40 (by decide) (by decide) (by decide), f 42 (by decide) (by decide) (by decide), f 43 (by decide) (by decide) (by decide), f 44 (by decide) (by decide) (by decide), f 45 (by decide) (by decide) (by decide)]
  exact ⟨h1, h2, h3, h4, h5, h6, h7, h8, h9, h10, h11, h12, fun k hk => by rw [e2, f41 k hk]; exact h13 k hk⟩
theorem Rc_of {T : Int} {ka mu ka' mu' : kM} {c : Nat} (h : Rc T ka mu c) (e : ∀ k, ka' (c + 18) k = ka (c + 18) k) (e2 : ∀ k, ka' (c + 26) k = ka (c + 26) k) (f : ∀ r, 48 ≤ r → r ≤ 56 → r ≠ 52 → mu' r c = mu r c) (f52 : ∀ k, k < 8 → mu' 52 (8 * c + k) = mu 52 (8 * c + k)) : Rc T ka' mu' c := by
  obtain ⟨h1, h2, h3, h4, h5, h6, h7, h8, h9, h10, h11, h12, ⟨g, hg, hg1, hg2⟩, h14, h15⟩ := h
  unfold Rc
  rw [e, e, e, e, e, e, e, e, e, f 48 (by decide) (by decide) (by decide), f 49 (by decide) (by decide) (by decide), f 50 (by decide) (by decide) (by decide), f 51 (by decide) (by decide) (by decide), f 53 (by decide) (by decide) (by decide), f 54 (by decide) (by decide) (by decide), f 55 (by decide) (by decide) (by decide), f 56 (by decide) (by decide) (by decide)]
  refine ⟨h1, h2, h3, h4, h5, h6, h7, h8, h9, h10, h11, h12, ⟨g, hg, hg1, fun k hk => ?_⟩, h14, h15⟩
  have : k < 8 := by
    by_cases q : mu 51 c = 0
    · have := (h12 q).1; omega
    · have := h11 q; omega
  rw [e2, f52 k this]; exact hg2 k hk
theorem Rq_reg {ka mu : kM} {j k : Nat} {v : Int32} (h : Rq ka mu) (hj : j < 6) (hk : k < 4) : Rq (kup ka (j + 12) k v) (kup mu 41 (4 * j + k) v) := by
  obtain ⟨h1, h2, h3, h4, h5, h6⟩ := h
  refine ⟨Rs_of h1 (fun _ => kup_r (by omega)) (fun _ => kup_r (by omega)) (fun _ => kup_r (by omega)) (kup_r (by decide)) (kup_r (by decide)) (kup_r (by decide)) (kup_r (by decide)) (kup_r (by decide)) (fun _ => kup_r (by decide)) (fun _ => kup_r (by decide)), fun i => by rw [kup_r (by omega), kup_r (by decide)]; exact h2 i, fun i hi => ?_, fun c hc => ?_, by rw [kup_r (by omega)]; exact h5, by rw [kup_r (by omega)]; exact h6⟩
  · obtain ⟨g1, g2, g3, g4, g5, g6, g7, g8, g9, g10, g11, g12, g13⟩ := h3 i hi
    unfold Rp kB
    simp only [kup_r (show i + 6 ≠ j + 12 by omega), kup_r (show (39 : Nat) ≠ 41 by decide), kup_r (show (36 : Nat) ≠ 41 by decide), kup_r (show (37 : Nat) ≠ 41 by decide), kup_r (show (38 : Nat) ≠ 41 by decide), kup_r (show (40 : Nat) ≠ 41 by decide), kup_r (show (42 : Nat) ≠ 41 by decide), kup_r (show (43 : Nat) ≠ 41 by decide), kup_r (show (44 : Nat) ≠ 41 by decide), kup_r (show (45 : Nat) ≠ 41 by decide)]
    refine ⟨g1, g2, g3, g4, g5, g6, g7, g8, g9, g10, g11, g12, fun q hq => ?_⟩
    rw [kup_eq, kup_eq]
    by_cases e : i + 12 = j + 12 ∧ q = k
    · rw [if_pos e, if_pos ⟨rfl, by omega⟩]
    · rw [if_neg e, if_neg (fun x => e (by omega))]; exact g13 q hq
  · rw [kup_r (by omega)]
    exact Rc_of (h4 c hc) (fun _ => kup_r (by omega)) (fun _ => kup_r (by omega)) (fun r _ _ _ => kup_r (by omega)) (fun _ _ => kup_r (by decide))
theorem Rq_mem {ka mu : kM} {k : Nat} {v : Int32} (h : Rq ka mu) : Rq (kup ka 1 k v) (kup mu 35 k v) := by
  obtain ⟨h1, h2, h3, h4, h5, h6⟩ := h
  refine ⟨Rs_of h1 (fun _ => kup_r (by omega)) (fun _ => kup_r (by omega)) (fun _ => kup_r (by omega)) (kup_r (by decide)) (kup_r (by decide)) (kup_r (by decide)) (kup_r (by decide)) (kup_r (by decide)) (fun _ => kup_r (by decide)) (fun _ => kup_r (by decide)), fun i => ?_, fun i hi => ?_, fun c hc => ?_, by rw [kup_r (by omega)]; exact h5, by rw [kup_r (by omega)]; exact h6⟩
  · rw [kup_eq, kup_eq]
    by_cases e : i = k
    · rw [if_pos ⟨rfl, e⟩, if_pos ⟨rfl, e⟩]
    · rw [if_neg (fun x => e x.2), if_neg (fun x => e x.2)]; exact h2 i
  · exact Rp_of (h3 i hi) (fun _ => kup_r (by omega)) (fun _ => kup_r (by omega)) (fun r _ _ _ => kup_r (by omega)) (fun _ _ => kup_r (by decide))
  · rw [kup_r (by omega)]
    exact Rc_of (h4 c hc) (fun _ => kup_r (by omega)) (fun _ => kup_r (by omega)) (fun r _ _ _ => kup_r (by omega)) (fun _ _ => kup_r (by decide))
theorem Rq_m34 {ka mu : kM} {k : Nat} {v : Int32} (h : Rq ka mu) (hk : k = 0 ∨ k = 28 ∨ k = 29) : Rq ka (kup mu 34 k v) := by
  obtain ⟨h1, h2, h3, h4, h5, h6⟩ := h
  exact ⟨Rs_of h1 (fun _ => rfl) (fun _ => rfl) (fun _ => rfl) (kup_j (by omega)) (kup_j (by omega)) (kup_j (by omega)) (kup_j (by omega)) (kup_j (by omega)) (fun _ => kup_r (by decide)) (fun _ => kup_r (by decide)), fun i => by rw [kup_r (by decide)]; exact h2 i, fun i hi => Rp_of (h3 i hi) (fun _ => rfl) (fun _ => rfl) (fun r _ _ _ => kup_r (by omega)) (fun _ _ => kup_r (by decide)), fun c hc => Rc_of (h4 c hc) (fun _ => rfl) (fun _ => rfl) (fun r _ _ _ => kup_r (by omega)) (fun _ _ => kup_r (by decide)), h5, h6⟩
theorem Rq_yield {ka mu : kM} {v : Int32} (h : Rq ka mu) : Rq (kup ka 0 10 v) (kup mu 34 27 v) := by
  obtain ⟨h1, h2, h3, h4, h5, h6⟩ := h
  refine ⟨?_, fun i => by rw [kup_r (by decide), kup_r (by decide)]; exact h2 i, fun i hi => Rp_of (h3 i hi) (fun _ => kup_r (by omega)) (fun _ => kup_r (by omega)) (fun r _ _ _ => kup_r (by omega)) (fun _ _ => kup_r (by decide)), fun c hc => by rw [kup_j (by decide)]; exact Rc_of (h4 c hc) (fun _ => kup_r (by omega)) (fun _ => kup_r (by omega)) (fun r _ _ _ => kup_r (by omega)) (fun _ _ => kup_r (by decide)), by rw [kup_j (by decide)]; exact h5, by rw [kup_j (by decide)]; exact h6⟩
  obtain ⟨g1, g2, g3, g4, g5, g6, g7, g8, g9, g10, g11, g12, g13⟩ := h1
  have e5 : kup ka 0 10 v 5 = ka 5 := funext (fun i => kup_r (by decide))
  unfold Rs
  simp only [e5, kup_j (show (5 : Nat) ≠ 10 by decide), kup_j (show (6 : Nat) ≠ 10 by decide), kup_j (show (7 : Nat) ≠ 10 by decide), kup_j (show (8 : Nat) ≠ 10 by decide), kup_j (show (9 : Nat) ≠ 10 by decide), kup_at, kup_j (show (12 : Nat) ≠ 27 by decide), kup_j (show (24 : Nat) ≠ 27 by decide), kup_j (show (25 : Nat) ≠ 27 by decide), kup_j (show (26 : Nat) ≠ 27 by decide), kup_r (show (4 : Nat) ≠ 0 by decide), kup_r (show (46 : Nat) ≠ 34 by decide), kup_r (show (47 : Nat) ≠ 34 by decide)]
  exact ⟨g1, g2, g3, g4, g5, g6, trivial, g8, g9, g10, g11, g12, g13⟩
theorem Rq_state {ka mu : kM} {j : Nat} {v : Int32} (h : Rq ka mu) (hj : j < 6) (hv0 : 0 ≤ v.toInt) (hv1 : v.toInt ≤ 3) : Rq (kup ka (j + 6) 1 v) (kup mu 39 j v) := by
  obtain ⟨h1, h2, h3, h4, h5, h6⟩ := h
  refine ⟨Rs_of h1 (fun _ => kup_r (by omega)) (fun _ => kup_r (by omega)) (fun _ => kup_r (by omega)) (kup_r (by decide)) (kup_r (by decide)) (kup_r (by decide)) (kup_r (by decide)) (kup_r (by decide)) (fun _ => kup_r (by decide)) (fun _ => kup_r (by decide)), fun i => by rw [kup_r (by omega), kup_r (by decide)]; exact h2 i, fun i hi => ?_, fun c hc => ?_, by rw [kup_r (by omega)]; exact h5, by rw [kup_r (by omega)]; exact h6⟩
  · by_cases e : i = j
    · subst e
      obtain ⟨g1, g2, g3, g4, g5, g6, g7, g8, g9, g10, g11, g12, g13⟩ := h3 i hi
      unfold Rp kB
      simp only [kup_at, kup_j (show (2 : Nat) ≠ 1 by decide), kup_j (show (3 : Nat) ≠ 1 by decide), kup_j (show (4 : Nat) ≠ 1 by decide), kup_j (show (5 : Nat) ≠ 1 by decide), kup_j (show (6 : Nat) ≠ 1 by decide), kup_j (show (7 : Nat) ≠ 1 by decide), kup_j (show (8 : Nat) ≠ 1 by decide), kup_j (show (9 : Nat) ≠ 1 by decide), kup_r (show (36 : Nat) ≠ 39 by decide), kup_r (show (37 : Nat) ≠ 39 by decide), kup_r (show (38 : Nat) ≠ 39 by decide), kup_r (show (40 : Nat) ≠ 39 by decide), kup_r (show (42 : Nat) ≠ 39 by decide), kup_r (show (43 : Nat) ≠ 39 by decide), kup_r (show (44 : Nat) ≠ 39 by decide), kup_r (show (45 : Nat) ≠ 39 by decide), kup_r (show (41 : Nat) ≠ 39 by decide), kup_r (show i + 12 ≠ i + 6 by omega)]
      exact ⟨trivial, hv0, hv1, g4, g5, g6, g7, g8, g9, g10, g11, g12, g13⟩
    · refine Rp_of (h3 i hi) (fun _ => kup_r (by omega)) (fun _ => kup_r (by omega)) (fun r _ _ _ => ?_) (fun _ _ => kup_r (by decide))
      by_cases q : r = 39
      · subst q; exact kup_j e
      · exact kup_r q
  · rw [kup_r (by omega)]
    exact Rc_of (h4 c hc) (fun _ => kup_r (by omega)) (fun _ => kup_r (by omega)) (fun r _ _ _ => kup_r (by omega)) (fun _ _ => kup_r (by decide))
theorem Rq_place {ka mu : kM} {j : Nat} {v : Int32} (h : Rq ka mu) (hj : j < 6) : Rq (kup ka (j + 6) 5 v) (kup mu 40 j v) := by
  obtain ⟨h1, h2, h3, h4, h5, h6⟩ := h
  refine ⟨Rs_of h1 (fun _ => kup_r (by omega)) (fun _ => kup_r (by omega)) (fun _ => kup_r (by omega)) (kup_r (by decide)) (kup_r (by decide)) (kup_r (by decide)) (kup_r (by decide)) (kup_r (by decide)) (fun _ => kup_r (by decide)) (fun _ => kup_r (by decide)), fun i => by rw [kup_r (by omega), kup_r (by decide)]; exact h2 i, fun i hi => ?_, fun c hc => ?_, by rw [kup_r (by omega)]; exact h5, by rw [kup_r (by omega)]; exact h6⟩
  · by_cases e : i = j
    · subst e
      obtain ⟨g1, g2, g3, g4, g5, g6, g7, g8, g9, g10, g11, g12, g13⟩ := h3 i hi
      unfold Rp kB
      simp only [kup_at, kup_j (show (1 : Nat) ≠ 5 by decide), kup_j (show (2 : Nat) ≠ 5 by decide), kup_j (show (3 : Nat) ≠ 5 by decide), kup_j (show (4 : Nat) ≠ 5 by decide), kup_j (show (6 : Nat) ≠ 5 by decide), kup_j (show (7 : Nat) ≠ 5 by decide), kup_j (show (8 : Nat) ≠ 5 by decide), kup_j (show (9 : Nat) ≠ 5 by decide), kup_r (show (39 : Nat) ≠ 40 by decide), kup_r (show (36 : Nat) ≠ 40 by decide), kup_r (show (37 : Nat) ≠ 40 by decide), kup_r (show (38 : Nat) ≠ 40 by decide), kup_r (show (42 : Nat) ≠ 40 by decide), kup_r (show (43 : Nat) ≠ 40 by decide), kup_r (show (44 : Nat) ≠ 40 by decide), kup_r (show (45 : Nat) ≠ 40 by decide), kup_r (show (41 : Nat) ≠ 40 by decide), kup_r (show i + 12 ≠ i + 6 by omega)]
      exact ⟨g1, g2, g3, g4, g5, g6, trivial, g8, g9, g10, g11, g12, g13⟩
    · refine Rp_of (h3 i hi) (fun _ => kup_r (by omega)) (fun _ => kup_r (by omega)) (fun r _ _ _ => ?_) (fun _ _ => kup_r (by decide))
      by_cases q : r = 40
      · subst q; exact kup_j e
      · exact kup_r q
  · rw [kup_r (by omega)]
    exact Rc_of (h4 c hc) (fun _ => kup_r (by omega)) (fun _ => kup_r (by omega)) (fun r _ _ _ => kup_r (by omega)) (fun _ _ => kup_r (by decide))
theorem Rq_done {ka mu : kM} {j : Nat} {v : Int32} (h : Rq ka mu) (hj : j < 6) : Rq (kup ka (j + 6) 6 v) (kup mu 42 j v) := by
  obtain ⟨h1, h2, h3, h4, h5, h6⟩ := h
  refine ⟨Rs_of h1 (fun _ => kup_r (by omega)) (fun _ => kup_r (by omega)) (fun _ => kup_r (by omega)) (kup_r (by decide)) (kup_r (by decide)) (kup_r (by decide)) (kup_r (by decide)) (kup_r (by decide)) (fun _ => kup_r (by decide)) (fun _ => kup_r (by decide)), fun i => by rw [kup_r (by omega), kup_r (by decide)]; exact h2 i, fun i hi => ?_, fun c hc => ?_, by rw [kup_r (by omega)]; exact h5, by rw [kup_r (by omega)]; exact h6⟩
  · by_cases e : i = j
    · subst e
      obtain ⟨g1, g2, g3, g4, g5, g6, g7, g8, g9, g10, g11, g12, g13⟩ := h3 i hi
      unfold Rp kB
      simp only [kup_at, kup_j (show (1 : Nat) ≠ 6 by decide), kup_j (show (2 : Nat) ≠ 6 by decide), kup_j (show (3 : Nat) ≠ 6 by decide), kup_j (show (4 : Nat) ≠ 6 by decide), kup_j (show (5 : Nat) ≠ 6 by decide), kup_j (show (7 : Nat) ≠ 6 by decide), kup_j (show (8 : Nat) ≠ 6 by decide), kup_j (show (9 : Nat) ≠ 6 by decide), kup_r (show (39 : Nat) ≠ 42 by decide), kup_r (show (36 : Nat) ≠ 42 by decide), kup_r (show (37 : Nat) ≠ 42 by decide), kup_r (show (38 : Nat) ≠ 42 by decide), kup_r (show (40 : Nat) ≠ 42 by decide), kup_r (show (43 : Nat) ≠ 42 by decide), kup_r (show (44 : Nat) ≠ 42 by decide), kup_r (show (45 : Nat) ≠ 42 by decide), kup_r (show (41 : Nat) ≠ 42 by decide), kup_r (show i + 12 ≠ i + 6 by omega)]
      exact ⟨g1, g2, g3, g4, g5, g6, g7, trivial, g9, g10, g11, g12, g13⟩
    · refine Rp_of (h3 i hi) (fun _ => kup_r (by omega)) (fun _ => kup_r (by omega)) (fun r _ _ _ => ?_) (fun _ _ => kup_r (by decide))
      by_cases q : r = 42
      · subst q; exact kup_j e
      · exact kup_r q
  · rw [kup_r (by omega)]
    exact Rc_of (h4 c hc) (fun _ => kup_r (by omega)) (fun _ => kup_r (by omega)) (fun r _ _ _ => kup_r (by omega)) (fun _ _ => kup_r (by decide))
theorem Rq_rest {ka mu : kM} {j : Nat} {v : Int32} (h : Rq ka mu) (hj : j < 6) : Rq (kup ka (j + 6) 7 v) (kup mu 43 j v) := by
  obtain ⟨h1, h2, h3, h4, h5, h6⟩ := h
  refine ⟨Rs_of h1 (fun _ => kup_r (by omega)) (fun _ => kup_r (by omega)) (fun _ => kup_r (by omega)) (kup_r (by decide)) (kup_r (by decide)) (kup_r (by decide)) (kup_r (by decide)) (kup_r (by decide)) (fun _ => kup_r (by decide)) (fun _ => kup_r (by decide)), fun i => by rw [kup_r (by omega), kup_r (by decide)]; exact h2 i, fun i hi => ?_, fun c hc => ?_, by rw [kup_r (by omega)]; exact h5, by rw [kup_r (by omega)]; exact h6⟩
  · by_cases e : i = j
    · subst e
      obtain ⟨g1, g2, g3, g4, g5, g6, g7, g8, g9, g10, g11, g12, g13⟩ := h3 i hi
      unfold Rp kB
      simp only [kup_at, kup_j (show (1 : Nat) ≠ 7 by decide), kup_j (show (2 : Nat) ≠ 7 by decide), kup_j (show (3 : Nat) ≠ 7 by decide), kup_j (show (4 : Nat) ≠ 7 by decide), kup_j (show (5 : Nat) ≠ 7 by decide), kup_j (show (6 : Nat) ≠ 7 by decide), kup_j (show (8 : Nat) ≠ 7 by decide), kup_j (show (9 : Nat) ≠ 7 by decide), kup_r (show (39 : Nat) ≠ 43 by decide), kup_r (show (36 : Nat) ≠ 43 by decide), kup_r (show (37 : Nat) ≠ 43 by decide), kup_r (show (38 : Nat) ≠ 43 by decide), kup_r (show (40 : Nat) ≠ 43 by decide), kup_r (show (42 : Nat) ≠ 43 by decide), kup_r (show (44 : Nat) ≠ 43 by decide), kup_r (show (45 : Nat) ≠ 43 by decide), kup_r (show (41 : Nat) ≠ 43 by decide), kup_r (show i + 12 ≠ i + 6 by omega)]
      exact ⟨g1, g2, g3, g4, g5, g6, g7, g8, trivial, g10, g11, g12, g13⟩
    · refine Rp_of (h3 i hi) (fun _ => kup_r (by omega)) (fun _ => kup_r (by omega)) (fun r _ _ _ => ?_) (fun _ _ => kup_r (by decide))
      by_cases q : r = 43
      · subst q; exact kup_j e
      · exact kup_r q
  · rw [kup_r (by omega)]
    exact Rc_of (h4 c hc) (fun _ => kup_r (by omega)) (fun _ => kup_r (by omega)) (fun r _ _ _ => kup_r (by omega)) (fun _ _ => kup_r (by decide))
theorem Rq_last {ka mu : kM} {j : Nat} {v : Int32} (h : Rq ka mu) (hj : j < 6) : Rq (kup ka (j + 6) 8 v) (kup mu 44 j v) := by
  obtain ⟨h1, h2, h3, h4, h5, h6⟩ := h
  refine ⟨Rs_of h1 (fun _ => kup_r (by omega)) (fun _ => kup_r (by omega)) (fun _ => kup_r (by omega)) (kup_r (by decide)) (kup_r (by decide)) (kup_r (by decide)) (kup_r (by decide)) (kup_r (by decide)) (fun _ => kup_r (by decide)) (fun _ => kup_r (by decide)), fun i => by rw [kup_r (by omega), kup_r (by decide)]; exact h2 i, fun i hi => ?_, fun c hc => ?_, by rw [kup_r (by omega)]; exact h5, by rw [kup_r (by omega)]; exact h6⟩
  · by_cases e : i = j
    · subst e
      obtain ⟨g1, g2, g3, g4, g5, g6, g7, g8, g9, g10, g11, g12, g13⟩ := h3 i hi
      unfold Rp kB
      simp only [kup_at, kup_j (show (1 : Nat) ≠ 8 by decide), kup_j (show (2 : Nat) ≠ 8 by decide), kup_j (show (3 : Nat) ≠ 8 by decide), kup_j (show (4 : Nat) ≠ 8 by decide), kup_j (show (5 : Nat) ≠ 8 by decide), kup_j (show (6 : Nat) ≠ 8 by decide), kup_j (show (7 : Nat) ≠ 8 by decide), kup_j (show (9 : Nat) ≠ 8 by decide), kup_r (show (39 : Nat) ≠ 44 by decide), kup_r (show (36 : Nat) ≠ 44 by decide), kup_r (show (37 : Nat) ≠ 44 by decide), kup_r (show (38 : Nat) ≠ 44 by decide), kup_r (show (40 : Nat) ≠ 44 by decide), kup_r (show (42 : Nat) ≠ 44 by decide), kup_r (show (43 : Nat) ≠ 44 by decide), kup_r (show (45 : Nat) ≠ 44 by decide), kup_r (show (41 : Nat) ≠ 44 by decide), kup_r (show i + 12 ≠ i + 6 by omega)]
      exact ⟨g1, g2, g3, g4, g5, g6, g7, g8, g9, trivial, g11, g12, g13⟩
    · refine Rp_of (h3 i hi) (fun _ => kup_r (by omega)) (fun _ => kup_r (by omega)) (fun r _ _ _ => ?_) (fun _ _ => kup_r (by decide))
      by_cases q : r = 44
      · subst q; exact kup_j e
      · exact kup_r q
  · rw [kup_r (by omega)]
    exact Rc_of (h4 c hc) (fun _ => kup_r (by omega)) (fun _ => kup_r (by omega)) (fun r _ _ _ => kup_r (by omega)) (fun _ _ => kup_r (by decide))
theorem Rq_faults {ka mu : kM} {j : Nat} {v : Int32} (h : Rq ka mu) (hj : j < 6) : Rq (kup ka (j + 6) 9 v) (kup mu 45 j v) := by
  obtain ⟨h1, h2, h3, h4, h5, h6⟩ := h
  refine ⟨Rs_of h1 (fun _ => kup_r (by omega)) (fun _ => kup_r (by omega)) (fun _ => kup_r (by omega)) (kup_r (by decide)) (kup_r (by decide)) (kup_r (by decide)) (kup_r (by decide)) (kup_r (by decide)) (fun _ => kup_r (by decide)) (fun _ => kup_r (by decide)), fun i => by rw [kup_r (by omega), kup_r (by decide)]; exact h2 i, fun i hi => ?_, fun c hc => ?_, by rw [kup_r (by omega)]; exact h5, by rw [kup_r (by omega)]; exact h6⟩
  · by_cases e : i = j
    · subst e
      obtain ⟨g1, g2, g3, g4, g5, g6, g7, g8, g9, g10, g11, g12, g13⟩ := h3 i hi
      unfold Rp kB
      simp only [kup_at, kup_j (show (1 : Nat) ≠ 9 by decide), kup_j (show (2 : Nat) ≠ 9 by decide), kup_j (show (3 : Nat) ≠ 9 by decide), kup_j (show (4 : Nat) ≠ 9 by decide), kup_j (show (5 : Nat) ≠ 9 by decide), kup_j (show (6 : Nat) ≠ 9 by decide), kup_j (show (7 : Nat) ≠ 9 by decide), kup_j (show (8 : Nat) ≠ 9 by decide), kup_r (show (39 : Nat) ≠ 45 by decide), kup_r (show (36 : Nat) ≠ 45 by decide), kup_r (show (37 : Nat) ≠ 45 by decide), kup_r (show (38 : Nat) ≠ 45 by decide), kup_r (show (40 : Nat) ≠ 45 by decide), kup_r (show (42 : Nat) ≠ 45 by decide), kup_r (show (43 : Nat) ≠ 45 by decide), kup_r (show (44 : Nat) ≠ 45 by decide), kup_r (show (41 : Nat) ≠ 45 by decide), kup_r (show i + 12 ≠ i + 6 by omega)]
      exact ⟨g1, g2, g3, g4, g5, g6, g7, g8, g9, g10, trivial, g12, g13⟩
    · refine Rp_of (h3 i hi) (fun _ => kup_r (by omega)) (fun _ => kup_r (by omega)) (fun r _ _ _ => ?_) (fun _ _ => kup_r (by decide))
      by_cases q : r = 45
      · subst q; exact kup_j e
      · exact kup_r q
  · rw [kup_r (by omega)]
    exact Rc_of (h4 c hc) (fun _ => kup_r (by omega)) (fun _ => kup_r (by omega)) (fun r _ _ _ => kup_r (by omega)) (fun _ _ => kup_r (by decide))
