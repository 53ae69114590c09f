theorem takelp_at {c : Nat} (hc : c < 8) : ∀ (n k : Nat) (mu : kM) (r i : Nat), k + n ≤ 7 → f_X3_take_lp (nI c) n (nI k) mu r i = if r = 52 ∧ 8 * c + k ≤ i ∧ i < 8 * c + k + n then mu 52 (i + 1) else mu r i := by
  intro n
  induction n with
  | zero => intro k mu r i _; rw [f_X3_take_lp, if_neg (by omega)]
  | succ n ih =>
    intro k mu r i h
    rw [f_X3_take_lp, idx8k hc (by omega), idx8k1 hc (by omega), ← nI_succ, ih (k + 1) _ r i (by omega), kup_eq, kup_eq]
    by_cases q : r = 52 ∧ 8 * c + (k + 1) ≤ i ∧ i < 8 * c + (k + 1) + n
    · rw [if_pos q, if_neg (by omega), if_pos (by omega)]
    · rw [if_neg q]
      by_cases q2 : r = 52 ∧ i = 8 * c + k
      · rw [if_pos q2, if_pos (by omega), q2.2]
      · rw [if_neg q2, if_neg (by omega)]
theorem word_eq {T : Int} {ka mu : kM} {c : Nat} {x : Int32} (h : Rc T ka mu c) : f_X0_wordAt ka c x = if x < 0 then 0 else if mu 53 c ≤ x then 0 else mu 52 (8 * c + x.toNatClampNeg) := by
  obtain ⟨g1, g2, g3, g4, g5, g6, g7, g8, g9, g10, g11, g12, ⟨f, hf, hf1, hf2⟩, g14, g15⟩ := h
  rw [f_X0_wordAt]
  by_cases h1 : x < 0
  · rw [if_pos h1, if_pos h1]
  · rw [if_neg h1, if_neg h1, g5]
    by_cases h2 : mu 53 c ≤ x
    · rw [if_pos h2, if_pos h2]
    · rw [if_neg h2, if_neg h2]
      have h3 : (mu 53 c).toInt ≤ 8 := by
        by_cases q : mu 51 c = 0
        · have := (g12 q).1; omega
        · have := g11 q; omega
      have h1' := h1
      have h2' := h2
      rw [ki_lt, show (0 : Int32).toInt = 0 from rfl] at h1'
      rw [ki_le] at h2'
      obtain ⟨k, hk, rfl⟩ := nI_get (x := x) (n := 8) (vp_in_iff.mpr (by omega)) (by omega)
      rw [spot_eq hf1 (by omega), nI_clamp (by omega), nI_clamp (by omega)]
      rw [nI_toInt (by omega)] at h2'
      exact hf2 k (by omega)
theorem age_eq {ka mu : kM} {c : Nat} (hq : Rq ka mu) (hc : c < 8) (hs : mu 51 c = 0) : f_X0_age ka c (ka 0 11) = mu 54 c := by
  obtain ⟨g1, g2, g3, g4, g5, g6, g7, g8, g9, g10, g11, g12, -, g14, g15⟩ := hq.2.2.2.1 c hc
  have hT := hq.2.2.2.2.1
  have hT2 := hq.2.2.2.2.2
  have h1 : f_X0_isSlot ka c = 1 := by rw [f_X0_isSlot, if_pos (g4.trans hs)]
  rw [f_X0_age, h1, if_neg (by decide), g5]
  by_cases h2 : mu 53 c = 0
  · rw [if_pos (by rw [h2]; decide), g15 hs h2]
  · obtain ⟨k1, k2, k3⟩ := g14 hs h2
    have h3 : ¬ mu 53 c ≤ 0 := by
      rw [ki_le, show (0 : Int32).toInt = 0 from rfl]
      rw [ki_eq, show (0 : Int32).toInt = 0 from rfl] at h2
      omega
    rw [if_neg h3]
    have e1 : (ka 0 11 - ka (c + 18) 7).toInt = (ka 0 11).toInt - (ka (c + 18) 7).toInt := ki_sub (by omega) (by omega)
    by_cases h4 : 1000000 < ka 0 11 - ka (c + 18) 7
    · rw [if_pos h4]
      rw [ki_lt, e1, show (1000000 : Int32).toInt = 1000000 from rfl] at h4
      rw [ki_eq, k3, show (1000000 : Int32).toInt = 1000000 from rfl]
      omega
    · rw [if_neg h4]
      rw [ki_lt, e1, show (1000000 : Int32).toInt = 1000000 from rfl] at h4
      rw [ki_eq, k3, e1]
      omega
theorem Rq_drop {ka mu : kM} {c f n : Nat} (h : Rq ka mu) (hc : c < 8) (hr : ¬ mu 51 c = 0) (hf : f < 8) (hf1 : ka (c + 18) 5 = nI f) (hn : mu 53 c = nI (n + 1)) (hn8 : n < 8) (hf2 : ∀ k : Nat, (k : Int) < (mu 53 c).toInt → ka (c + 26) ((f + k) % 8) = mu 52 (8 * c + k)) :
    Rq (kup (kup ka (c + 18) 5 (nI ((f + 1) % 8))) (c + 18) 6 (ka (c + 18) 6 - 1)) (f_X3_take_lp (nI c) n 0 (kup mu 53 c (mu 53 c - 1))) := by
  obtain ⟨g1, g2, g3, g4, g5, g6, g7, g8, g9, g10, g11, g12, -, g14, g15⟩ := h.2.2.2.1 c hc
  have hnt : (nI (n + 1)).toInt = (n : Int) + 1 := by rw [nI_toInt (by omega)]; omega
  have hr51 := g11 hr
  rw [hn, hnt] at hr51
  have hL : ∀ r i, f_X3_take_lp (nI c) n 0 (kup mu 53 c (mu 53 c - 1)) r i = if r = 52 ∧ 8 * c + 0 ≤ i ∧ i < 8 * c + 0 + n then kup mu 53 c (mu 53 c - 1) 52 (i + 1) else kup mu 53 c (mu 53 c - 1) r i := fun r i => takelp_at hc n 0 _ r i (by omega)
  have e1 : (mu 53 c - 1).toInt = (n : Int) := by rw [hn, ki_sub (by rw [hnt, show (1 : Int32).toInt = 1 from rfl]; omega) (by rw [hnt, show (1 : Int32).toInt = 1 from rfl]; omega), hnt, show (1 : Int32).toInt = 1 from rfl]; omega
  refine Rq_chan h hc (fun r k h1 h2 => by rw [kup_r h1, kup_r h1]) (fun r k h1 => by rw [hL, if_neg (by omega), kup_r (by omega)]) (fun r k h1 h2 h3 h4 => by rw [hL, if_neg (by omega), kup_j h4]) (fun k hk => by rw [hL, if_neg (by omega), kup_r (by decide)]) ?_
  have b1 : ∀ r, r ≠ 52 → r ≠ 53 → f_X3_take_lp (nI c) n 0 (kup mu 53 c (mu 53 c - 1)) r c = mu r c := fun r q1 q2 => by rw [hL, if_neg (by omega), kup_r q2]
  have b53 : f_X3_take_lp (nI c) n 0 (kup mu 53 c (mu 53 c - 1)) 53 c = mu 53 c - 1 := by rw [hL, if_neg (by omega), kup_at]
  unfold Rc
  rw [b1 48 (by decide) (by decide), b1 49 (by decide) (by decide), b1 50 (by decide) (by decide), b1 51 (by decide) (by decide), b1 54 (by decide) (by decide), b1 55 (by decide) (by decide), b1 56 (by decide) (by decide), b53]
  simp only [kup_at, kup_j (show (1 : Nat) ≠ 6 by decide), kup_j (show (2 : Nat) ≠ 6 by decide), kup_j (show (3 : Nat) ≠ 6 by decide), kup_j (show (4 : Nat) ≠ 6 by decide), kup_j (show (5 : Nat) ≠ 6 by decide), kup_j (show (7 : Nat) ≠ 6 by decide), kup_j (show (8 : Nat) ≠ 6 by decide), kup_j (show (9 : Nat) ≠ 6 by decide), kup_j (show (1 : Nat) ≠ 5 by decide), kup_j (show (2 : Nat) ≠ 5 by decide), kup_j (show (3 : Nat) ≠ 5 by decide), kup_j (show (4 : Nat) ≠ 5 by decide), kup_j (show (6 : Nat) ≠ 5 by decide), kup_j (show (7 : Nat) ≠ 5 by decide), kup_j (show (8 : Nat) ≠ 5 by decide), kup_j (show (9 : Nat) ≠ 5 by decide), kup_r (show c + 26 ≠ c + 18 by omega)]
  refine ⟨g1, g2, g3, g4, by rw [g5], g6, g7, g8, g9, by rw [e1]; omega, fun _ => by rw [e1]; omega, fun q => absurd q hr, ⟨(f + 1) % 8, by omega, rfl, fun k hk => ?_⟩, fun q => absurd q hr, fun q => absurd q hr⟩
  rw [e1] at hk
  rw [hL, if_pos (by omega), kup_r (by decide)]
  have h3 := hf2 (k + 1) (by rw [hn, hnt]; omega)
  rw [show ((f + 1) % 8 + k) % 8 = (f + (k + 1)) % 8 by omega, h3]
  rfl
theorem drop_q {ka : kM} {c : Nat} (h : ¬ ka (c + 18) 4 = 0) (h2 : ¬ ka (c + 18) 6 ≤ 0) : f_X0_dropTaken ka c = kup (kup ka (c + 18) 5 (f_X0_spotOf ka c 1)) (c + 18) 6 (ka (c + 18) 6 - 1) := by
  have hs : f_X0_isSlot ka c = 0 := by rw [f_X0_isSlot, if_neg h]
  rw [f_X0_dropTaken, hs, if_pos rfl, if_neg h2, kup_j (show (6 : Nat) ≠ 5 by decide)]
theorem drop_s {ka : kM} {c : Nat} (h : ka (c + 18) 4 = 0) : f_X0_dropTaken ka c = ka := by
  have hs : f_X0_isSlot ka c = 1 := by rw [f_X0_isSlot, if_pos h]
  rw [f_X0_dropTaken, hs, if_neg (by decide)]
theorem take_yes {ka mu : kM} {j a b c : Nat} (hq : Rq ka mu) (hj : j < 6) (ha : a < 4) (hb : b < 4) (hc : c < 8) (h48 : ¬ mu 48 c = 0) (h50 : mu 50 c = nI j) :
    (f_X2_take ka (nI j) (nI a) (nI b) (nI c)).1 = 0 ∧ f_X3_take mu (nI j) (nI a) (nI b) (nI c) 34 29 = mu 34 29 ∧ Rq (f_X2_take ka (nI j) (nI a) (nI b) (nI c)).2 (f_X3_take mu (nI j) (nI a) (nI b) (nI c)) := by
  have hRc := hq.2.2.2.1 c hc
  have hage := fun hs => age_eq hq hc hs
  obtain ⟨g1, g2, g3, g4, g5, g6, g7, g8, g9, g10, g11, g12, ⟨f, hf, hf1, hf2⟩, g14, g15⟩ := hq.2.2.2.1 c hc
  rw [f_X2_take, isch_1 hc (by rw [g1]; exact h48), if_neg (by decide), nI_clamp (show c < 2 ^ 31 by omega), if_pos (g3.trans h50), nI_clamp (show j < 2 ^ 31 by omega), nI_clamp (show a < 2 ^ 31 by omega), nI_clamp (show b < 2 ^ 31 by omega), g5]
  rw [f_X3_take, if_neg (nI0 hc), if_neg (nI7 hc), nI_clamp (show c < 2 ^ 31 by omega), if_neg h48, if_pos h50, idx4 hj ha, idx4 hj hb, idx8 hc]
  by_cases h53 : mu 53 c = 0
  · rw [if_pos h53, if_pos h53]
    exact ⟨rfl, kup_r (by decide), Rq_reg hq hj hb⟩
  · have hw : f_X0_wordAt ka c 0 = mu 52 (8 * c) := by
      rw [word_eq hRc, if_neg (by decide), if_neg]
      · rfl
      · rw [ki_le, show (0 : Int32).toInt = 0 from rfl]
        rw [ki_eq, show (0 : Int32).toInt = 0 from rfl] at h53
        omega
    rw [if_neg h53, if_neg h53, hw, kup_r (show (51 : Nat) ≠ 41 by decide)]
    have hq2 := Rq_reg (k := a) (v := mu 52 (8 * c)) hq hj ha
    by_cases hs : mu 51 c = 0
    · have hsl : f_X0_isSlot (kup ka (j + 12) a (mu 52 (8 * c))) c = 1 := by rw [f_X0_isSlot, kup_r (by omega), if_pos (g4.trans hs)]
      rw [hsl, if_neg (by decide), if_pos hs, drop_s (by rw [kup_r (by omega), kup_r (by omega)]; exact g4.trans hs), age_eq hq2 hc (by rw [kup_r (by decide)]; exact hs)]
      exact ⟨rfl, by rw [kup_r (by decide), kup_r (by decide)], Rq_reg hq2 hj hb⟩
    · have hsl : f_X0_isSlot (kup ka (j + 12) a (mu 52 (8 * c))) c = 0 := by rw [f_X0_isSlot, kup_r (by omega), if_neg (by rw [g4]; exact hs)]
      have h0 : ¬ mu 53 c ≤ 0 := by
        rw [ki_le, show (0 : Int32).toInt = 0 from rfl]
        rw [ki_eq, show (0 : Int32).toInt = 0 from rfl] at h53
        omega
      have h0' := h0
      rw [ki_le, show (0 : Int32).toInt = 0 from rfl] at h0'
      have h11 := g11 hs
      obtain ⟨m, hm9, hm⟩ := nI_get (x := mu 53 c) (n := 9) (vp_in_iff.mpr (by omega)) (by omega)
      have hmt : (nI m).toInt = m := nI_toInt (by omega)
      obtain ⟨n, rfl⟩ : ∃ n, m = n + 1 := ⟨m - 1, by rw [hm, hmt] at h0'; omega⟩
      have hnc : (mu 53 c - 1).toNatClampNeg = n := by
        rw [hm, nI_succ, Int32.add_sub_cancel, nI_clamp (by omega)]
      rw [hsl, if_pos rfl, if_neg hs, drop_q (by rw [kup_r (by omega), kup_r (by omega), g4]; exact hs) (by rw [kup_r (by omega), kup_r (by omega), g5]; exact h0), kup_r (show (53 : Nat) ≠ 41 by decide), kup_r (show (53 : Nat) ≠ 41 by decide), hnc]
      have hq3 := Rq_reg (k := b) (v := 1) hq2 hj hb
      refine ⟨rfl, ?_, ?_⟩
      · have := takelp_at hc n 0 (kup (kup (kup mu 41 (4 * j + a) (mu 52 (8 * c))) 41 (4 * j + b) 1) 53 c (mu 53 c - 1)) 34 29 (by omega)
        rw [if_neg (by omega), kup_r (by decide), kup_r (by decide), kup_r (by decide)] at this
        exact this
      · have e53 : kup (kup mu 41 (4 * j + a) (mu 52 (8 * c))) 41 (4 * j + b) 1 53 c = mu 53 c := by rw [kup_r (by decide), kup_r (by decide)]
        have h := Rq_drop (n := n) (f := f) hq3 hc (by rw [kup_r (by decide), kup_r (by decide)]; exact hs) hf (by rw [kup_r (by omega), kup_r (by omega)]; exact hf1) (by rw [e53]; exact hm) (by omega) (fun k hk => by rw [kup_r (by omega), kup_r (by omega), kup_r (by decide), kup_r (by decide)]; rw [e53] at hk; exact hf2 k hk)
        rw [e53] at h
        have e1 : f_X0_spotOf (kup (kup ka (j + 12) a (mu 52 (8 * c))) (j + 12) b 1) c 1 = nI ((f + 1) % 8) := spot_eq (k := 1) (by rw [kup_r (by omega), kup_r (by omega)]; exact hf1) (by omega)
        rw [e1]
        exact h
theorem take_no {ka mu : kM} {j a b : Nat} {x : Int32} (hq : ∀ c, c < 8 → ka (c + 18) 1 = mu 48 c ∧ ka (c + 18) 3 = mu 50 c) (hx : ¬ ∃ c, c < 8 ∧ x = nI c ∧ ¬ mu 48 c = 0 ∧ mu 50 c = nI j) :
    f_X2_take ka (nI j) (nI a) (nI b) x = (3, ka) ∧ f_X3_take mu (nI j) (nI a) (nI b) x = kup mu 34 29 3 := by
  by_cases h1 : x < 0
  · rw [f_X2_take, isch_0 (Or.inl h1), if_pos rfl, f_X3_take, if_pos h1]; exact ⟨rfl, rfl⟩
  · by_cases h2 : (8 : Int32) ≤ x
    · rw [f_X2_take, isch_0 (Or.inr (Or.inl h2)), if_pos rfl, f_X3_take, if_neg h1, if_pos (by rw [ki_le, show (8 : Int32).toInt = 8 from rfl] at h2; rw [ki_lt, show (7 : Int32).toInt = 7 from rfl]; omega)]; exact ⟨rfl, rfl⟩
    · obtain ⟨c, hc, rfl⟩ := nI_get (kin_of (n := 8) rfl h1 h2) (by omega)
      obtain ⟨g1, g2⟩ := hq c hc
      rw [f_X3_take, if_neg (nI0 hc), if_neg (nI7 hc)]
      by_cases h3 : mu 48 c = 0
      · rw [f_X2_take, isch_0 (Or.inr (Or.inr (by rw [nI_clamp (by omega)]; exact g1.trans h3))), if_pos rfl, nI_clamp (show c < 2 ^ 31 by omega), if_pos h3]; exact ⟨rfl, rfl⟩
      · have h4 : ¬ mu 50 c = nI j := fun z => hx ⟨c, hc, rfl, h3, z⟩
        rw [f_X2_take, isch_1 hc (by rw [g1]; exact h3), if_neg (by decide), nI_clamp (show c < 2 ^ 31 by omega), if_neg (by rw [g2]; exact h4), if_neg h3, if_neg h4]
        exact ⟨rfl, rfl⟩
theorem ite_kup {c : Prop} [Decidable c] {a b : kM} {r j : Nat} {x : Int32} : kup (if c then a else b) r j x = if c then kup a r j x else kup b r j x := by
  by_cases h : c
  · rw [if_pos h, if_pos h]
  · rw [if_neg h, if_neg h]
theorem pl_34 {s : kM} {j i : Nat} {x v : Int32} : kup (kup s 40 j x) 34 i v = kup (kup s 34 i v) 40 j x := kup_comm (by omega)
theorem pl_41 {s : kM} {j i : Nat} {x v : Int32} : kup (kup s 40 j x) 41 i v = kup (kup s 41 i v) 40 j x := kup_comm (by omega)
theorem pl_52 {s : kM} {j i : Nat} {x v : Int32} : kup (kup s 40 j x) 52 i v = kup (kup s 52 i v) 40 j x := kup_comm (by omega)
theorem pl_53 {s : kM} {j i : Nat} {x v : Int32} : kup (kup s 40 j x) 53 i v = kup (kup s 53 i v) 40 j x := kup_comm (by omega)
theorem pl_54 {s : kM} {j i : Nat} {x v : Int32} : kup (kup s 40 j x) 54 i v = kup (kup s 54 i v) 40 j x := kup_comm (by omega)
theorem pl_55 {s : kM} {j i : Nat} {x v : Int32} : kup (kup s 40 j x) 55 i v = kup (kup s 55 i v) 40 j x := kup_comm (by omega)
theorem pl_56 {s : kM} {j i : Nat} {x v : Int32} : kup (kup s 40 j x) 56 i v = kup (kup s 56 i v) 40 j x := kup_comm (by omega)
theorem send_pl {mu : kM} {j : Nat} {p a b c x : Int32} : f_X3_send (kup mu 40 j x) p a b c = kup (f_X3_send mu p a b c) 40 j x := by
  unfold f_X3_send
  simp only [ite_kup, kup_r (show (34 : Nat) ≠ 40 by decide), kup_r (show (48 : Nat) ≠ 40 by decide), kup_r (show (49 : Nat) ≠ 40 by decide), kup_r (show (51 : Nat) ≠ 40 by decide), kup_r (show (41 : Nat) ≠ 40 by decide), kup_r (show (53 : Nat) ≠ 40 by decide), kup_r (show (56 : Nat) ≠ 40 by decide), kup_r (show (55 : Nat) ≠ 54 by decide), kup_r (show (55 : Nat) ≠ 53 by decide), kup_r (show (55 : Nat) ≠ 52 by decide), kup_r (show (53 : Nat) ≠ 52 by decide), kup_r (show (55 : Nat) ≠ 40 by decide), pl_34, pl_56, pl_52, pl_53, pl_54, pl_55, pl_41]
theorem takelp_pl {j : Nat} {c x : Int32} : ∀ (n : Nat) (k : Int32) (mu : kM), f_X3_take_lp c n k (kup mu 40 j x) = kup (f_X3_take_lp c n k mu) 40 j x := by
  intro n
  induction n with
  | zero => intro k mu; rw [f_X3_take_lp, f_X3_take_lp]
  | succ n ih => intro k mu; rw [f_X3_take_lp, f_X3_take_lp, kup_r (show (52 : Nat) ≠ 40 by decide), kup_comm (s := mu) (by omega), ih]
theorem take_pl {mu : kM} {j : Nat} {p a b c x : Int32} : f_X3_take (kup mu 40 j x) p a b c = kup (f_X3_take mu p a b c) 40 j x := by
  unfold f_X3_take
  simp only [ite_kup, kup_r (show (34 : Nat) ≠ 40 by decide), kup_r (show (48 : Nat) ≠ 40 by decide), kup_r (show (50 : Nat) ≠ 40 by decide), kup_r (show (51 : Nat) ≠ 40 by decide), kup_r (show (52 : Nat) ≠ 40 by decide), kup_r (show (54 : Nat) ≠ 40 by decide), kup_r (show (41 : Nat) ≠ 40 by decide), kup_r (show (53 : Nat) ≠ 40 by decide), kup_r (show (51 : Nat) ≠ 41 by decide), kup_r (show (54 : Nat) ≠ 41 by decide), kup_r (show (53 : Nat) ≠ 41 by decide), pl_34, pl_53, pl_41, takelp_pl]
theorem op_ok {ka mu : kM} {j : Nat} {w : Int32} (hq : Rq ka mu) (h29 : mu 34 29 = 0) (hj : j < 6) :
    OPK (f_X2_perform (kup ka (j + 6) 5 (ka (j + 6) 5 + 1)) (nI j) w) (f_X3_act mu (nI j) w) ka j := by
  obtain ⟨k, hk, hw⟩ := op_cases w
  by_cases k11 : k = 11
  · subst k11
    obtain ⟨aj, ha4, ha⟩ := reg_cases (w >>> ((4 : Int32) &&& 31))
    obtain ⟨bj, hb4, hb⟩ := reg_cases (w >>> ((6 : Int32) &&& 31))
    obtain ⟨i8, hi⟩ : ∃ x, w >>> ((8 : Int32) &&& 31) = x := ⟨_, rfl⟩
    have e5 := (hq.2.2.1 j hj).2.2.2.2.2.2.1
    rw [perf_11 hj ha4 hb4 hw ha hb hi, act_11 hj ha4 hb4 hw ha hb hi]
    have hq1 := Rq_place (v := ka (j + 6) 5 + 1) hq hj
    by_cases hx : ∃ c, c < 8 ∧ i8 = nI c ∧ ¬ mu 48 c = 0 ∧ mu 49 c = nI j
    · obtain ⟨c, hc, rfl, h48, h49⟩ := hx
      obtain ⟨y1, y2, y3⟩ := send_yes hq1 hj ha4 hb4 hc (by rw [kup_r (by decide)]; exact h48) (by rw [kup_r (by decide)]; exact h49)
      rw [send_pl] at y2 y3
      rw [kup_r (by decide), kup_r (by decide), h29] at y2
      rw [if_pos (by rw [y2]; decide), y1]
      rw [e5] at y3
      refine OPK_ok (by rw [kup_r (by decide)]; exact y2) ?_
      rw [e5]
      exact y3
    · obtain ⟨y1, y2⟩ := send_no (ka := kup ka (j + 6) 5 (ka (j + 6) 5 + 1)) (a := aj) (b := bj) (fun c hc => by rw [kup_r (by omega), kup_r (by omega)]; exact ⟨(hq.2.2.2.1 c hc).1, (hq.2.2.2.1 c hc).2.1⟩) hx
      rw [y1, y2, if_neg (by rw [kup_at]; decide)]
      exact OPK_f (v := 3) (by decide) hq
  · by_cases k12 : k = 12
    · subst k12
      obtain ⟨aj, ha4, ha⟩ := reg_cases (w >>> ((4 : Int32) &&& 31))
      obtain ⟨bj, hb4, hb⟩ := reg_cases (w >>> ((6 : Int32) &&& 31))
      obtain ⟨i8, hi⟩ : ∃ x, w >>> ((8 : Int32) &&& 31) = x := ⟨_, rfl⟩
      have e5 := (hq.2.2.1 j hj).2.2.2.2.2.2.1
      rw [perf_12 hj ha4 hb4 hw ha hb hi, act_12 hj ha4 hb4 hw ha hb hi]
      have hq1 := Rq_place (v := ka (j + 6) 5 + 1) hq hj
      by_cases hx : ∃ c, c < 8 ∧ i8 = nI c ∧ ¬ mu 48 c = 0 ∧ mu 50 c = nI j
      · obtain ⟨c, hc, rfl, h48, h49⟩ := hx
        obtain ⟨y1, y2, y3⟩ := take_yes hq1 hj ha4 hb4 hc (by rw [kup_r (by decide)]; exact h48) (by rw [kup_r (by decide)]; exact h49)
        rw [take_pl] at y2 y3
        rw [kup_r (by decide), kup_r (by decide), h29] at y2
        rw [if_pos (by rw [y2]; decide), y1]
        rw [e5] at y3
        refine OPK_ok (by rw [kup_r (by decide)]; exact y2) ?_
        rw [e5]
        exact y3
      · obtain ⟨y1, y2⟩ := take_no (ka := kup ka (j + 6) 5 (ka (j + 6) 5 + 1)) (a := aj) (b := bj) (fun c hc => by rw [kup_r (by omega), kup_r (by omega)]; exact ⟨(hq.2.2.2.1 c hc).1, (hq.2.2.2.1 c hc).2.2.1⟩) hx
        rw [y1, y2, if_neg (by rw [kup_at]; decide)]
        exact OPK_f (v := 3) (by decide) hq
    · exact op_easy hq h29 hj hk k11 k12 hw
