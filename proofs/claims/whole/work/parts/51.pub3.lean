theorem nm_j {ka mu : kM} {p : Int32} (h : ¬ f_X3_noChannel mu p = 0) (hq : Rq ka mu) : f_X2_isChannel ka p = 0 := by
  refine isch_0 ?_
  rw [f_X3_noChannel] at h
  by_cases h1 : p < 0
  · exact Or.inl h1
  · rw [if_neg h1] at h
    by_cases h2 : (8 : Int32) ≤ p
    · exact Or.inr (Or.inl h2)
    · rw [if_neg (lt78 h2)] at h
      obtain ⟨c, hc, rfl⟩ := nI_get (kin_of (n := 8) rfl h1 h2) (by omega)
      rw [nI_clamp (by omega)] at h ⊢
      by_cases h3 : mu 48 c = 0
      · exact Or.inr (Or.inr ((hq.2.2.2.1 c hc).1.trans h3))
      · rw [if_neg h3] at h; exact absurd rfl h
theorem nm_y {ka mu : kM} {p : Int32} (h : f_X3_noChannel mu p = 0) (hq : Rq ka mu) : ∃ c, c < 8 ∧ p = nI c ∧ ¬ mu 48 c = 0 ∧ f_X2_isChannel ka p = 1 := by
  rw [f_X3_noChannel] at h
  by_cases h1 : p < 0
  · rw [if_pos h1] at h; exact absurd h (by decide)
  · rw [if_neg h1] at h
    by_cases h2 : (8 : Int32) ≤ p
    · rw [if_pos (lt78' h2)] at h; exact absurd h (by decide)
    · rw [if_neg (lt78 h2)] at h
      obtain ⟨c, hc, rfl⟩ := nI_get (kin_of (n := 8) rfl h1 h2) (by omega)
      rw [nI_clamp (by omega)] at h
      by_cases h3 : mu 48 c = 0
      · rw [if_pos h3] at h; exact absurd h (by decide)
      · exact ⟨c, hc, rfl, h3, isch_1 hc (by rw [(hq.2.2.2.1 c hc).1]; exact h3)⟩
theorem chan_ok {B : Int} {ka mu : kM} {p0 p1 p2 p3 : Int32} (h : RV B ka mu) : PV B cdI (f_X2_channel ka p0 p1 p2 p3) (f_X3_channel mu p0 p1 p2 p3) := by
  have hq := h.1.1
  have h7 : ka 0 7 = mu 34 24 := hq.1.2.2.2.2.1
  have bad : PV B cdI (2, ka) (kup mu 34 0 2) := PV_bad h rfl
  by_cases hs : mu 34 24 = 0
  · unfold f_X2_channel f_X3_channel f_X2_refuseIfSealed
    simp only [h7, if_pos hs, ↓reduceIte]
    by_cases c1 : p0 < 0
    · rw [if_pos c1, if_pos c1]; exact bad
    rw [if_neg c1, if_neg c1]
    by_cases c2 : (8 : Int32) ≤ p0
    · rw [if_pos c2, if_pos (lt78' c2)]; exact bad
    rw [if_neg c2, if_neg (lt78 c2)]
    obtain ⟨c, hc, rfl⟩ := nI_get (kin_of (n := 8) rfl c1 c2) (by omega)
    obtain ⟨g1, g2, g3, g4, g5, g6, g7, g8, g9, g10, g11, g12, ⟨f, hf, hf1, hf2⟩, g14, g15⟩ := hq.2.2.2.1 c hc
    rw [nI_clamp (by omega), g1, told_eq hq, told_eq hq]
    by_cases c3 : mu 48 c = 0
    · rw [if_pos c3, if_pos c3]
      by_cases c4 : f_X3_isTold mu p1 = 0
      · rw [if_pos c4, if_neg (by decide), if_pos c4]; exact bad
      rw [if_neg c4, if_pos rfl, if_neg c4]
      by_cases c5 : f_X3_isTold mu p2 = 0
      · rw [if_pos c5, if_neg (by decide), if_pos c5]; exact bad
      rw [if_neg c5, if_pos rfl, if_neg c5]
      by_cases c6 : p1 = p2
      · rw [if_pos c6, if_pos c6]; exact bad
      rw [if_neg c6, if_neg c6]
      by_cases c7 : p3 < 0
      · rw [if_pos c7, if_pos c7]; exact bad
      rw [if_neg c7, if_neg c7]
      by_cases c8 : p3 ≤ 8
      · rw [if_pos c8, if_pos c8]
        rw [ki_lt, show (0 : Int32).toInt = 0 from rfl] at c7
        rw [ki_le, show (8 : Int32).toInt = 8 from rfl] at c8
        obtain ⟨u1, u2⟩ := h.2 c hc c3
        have u3 := (g12 u1).2
        have u4 := g15 u1 u2
        have hR : Rq (f_X0_tell ka c p1 p2 p3) (kup (kup (kup (kup (kup mu 34 0 0) 48 c 1) 49 c p1) 50 c p2) 51 c p3) := by
          refine Rq_chan (Rq_m34 (k := 0) (v := 0) hq (Or.inl rfl)) hc (fun r k q1 q2 => by rw [f_X0_tell, kup_r q1, kup_r q1, kup_r q1, kup_r q1]) (fun r k q => by rw [kup_r (by omega), kup_r (by omega), kup_r (by omega), kup_r (by omega)]) (fun r k q1 q2 q3 q4 => by rw [kup_j q4, kup_j q4, kup_j q4, kup_j q4]) (fun k _ => by rw [kup_r (by decide), kup_r (by decide), kup_r (by decide), kup_r (by decide)]) ?_
          unfold Rc f_X0_tell
          simp only [kup_at, kup_j (show (1 : Nat) ≠ 4 by decide), kup_j (show (1 : Nat) ≠ 3 by decide), kup_j (show (1 : Nat) ≠ 2 by decide), kup_j (show (2 : Nat) ≠ 4 by decide), kup_j (show (2 : Nat) ≠ 3 by decide), kup_j (show (3 : Nat) ≠ 4 by decide), kup_j (show (5 : Nat) ≠ 4 by decide), kup_j (show (5 : Nat) ≠ 3 by decide), kup_j (show (5 : Nat) ≠ 2 by decide), kup_j (show (5 : Nat) ≠ 1 by decide), kup_j (show (6 : Nat) ≠ 4 by decide), kup_j (show (6 : Nat) ≠ 3 by decide), kup_j (show (6 : Nat) ≠ 2 by decide), kup_j (show (6 : Nat) ≠ 1 by decide), kup_j (show (7 : Nat) ≠ 4 by decide), kup_j (show (7 : Nat) ≠ 3 by decide), kup_j (show (7 : Nat) ≠ 2 by decide), kup_j (show (7 : Nat) ≠ 1 by decide), kup_j (show (8 : Nat) ≠ 4 by decide), kup_j (show (8 : Nat) ≠ 3 by decide), kup_j (show (8 : Nat) ≠ 2 by decide), kup_j (show (8 : Nat) ≠ 1 by decide), kup_j (show (9 : Nat) ≠ 4 by decide), kup_j (show (9 : Nat) ≠ 3 by decide), kup_j (show (9 : Nat) ≠ 2 by decide), kup_j (show (9 : Nat) ≠ 1 by decide), kup_r (show c + 26 ≠ c + 18 by omega), kup_r (show (48 : Nat) ≠ 51 by decide), kup_r (show (48 : Nat) ≠ 50 by decide), kup_r (show (48 : Nat) ≠ 49 by decide), kup_r (show (49 : Nat) ≠ 51 by decide), kup_r (show (49 : Nat) ≠ 50 by decide), kup_r (show (50 : Nat) ≠ 51 by decide), kup_r (show (52 : Nat) ≠ 51 by decide), kup_r (show (52 : Nat) ≠ 50 by decide), kup_r (show (52 : Nat) ≠ 49 by decide), kup_r (show (52 : Nat) ≠ 48 by decide), kup_r (show (52 : Nat) ≠ 34 by decide), kup_r (show (53 : Nat) ≠ 51 by decide), kup_r (show (53 : Nat) ≠ 50 by decide), kup_r (show (53 : Nat) ≠ 49 by decide), kup_r (show (53 : Nat) ≠ 48 by decide), kup_r (show (53 : Nat) ≠ 34 by decide), kup_r (show (54 : Nat) ≠ 51 by decide), kup_r (show (54 : Nat) ≠ 50 by decide), kup_r (show (54 : Nat) ≠ 49 by decide), kup_r (show (54 : Nat) ≠ 48 by decide), kup_r (show (54 : Nat) ≠ 34 by decide), kup_r (show (55 : Nat) ≠ 51 by decide), kup_r (show (55 : Nat) ≠ 50 by decide), kup_r (show (55 : Nat) ≠ 49 by decide), kup_r (show (55 : Nat) ≠ 48 by decide), kup_r (show (55 : Nat) ≠ 34 by decide), kup_r (show (56 : Nat) ≠ 51 by decide), kup_r (show (56 : Nat) ≠ 50 by decide), kup_r (show (56 : Nat) ≠ 49 by decide), kup_r (show (56 : Nat) ≠ 48 by decide), kup_r (show (56 : Nat) ≠ 34 by decide)]
          have u2' : (mu 53 c).toInt = 0 := by rw [u2]; rfl
          refine ⟨trivial, trivial, trivial, trivial, g5, g6, g7, by omega, by omega, by omega, fun _ => by omega, fun _ => ⟨by omega, u3⟩, ⟨f, hf, hf1, hf2⟩, fun _ q => absurd u2 q, fun _ _ => u4⟩
        refine PV_mk ?_ ⟨⟨hR, ?_, ?_⟩, ?_⟩
        · rw [kup_r (by decide), kup_r (by decide), kup_r (by decide), kup_r (by decide), kup_at]; rfl
        · rw [f_X0_tell, kup_r (by omega), kup_r (by omega), kup_r (by omega), kup_r (by omega), kup_r (by decide), kup_r (by decide), kup_r (by decide), kup_r (by decide), kup_j (by decide)]; exact h.1.2.1
        · rw [f_X0_tell, kup_r (by omega), kup_r (by omega), kup_r (by omega), kup_r (by omega)]; exact h.1.2.2
        · intro d hd q
          by_cases e : d = c
          · subst e
            rw [kup_r (by decide), kup_r (by decide), kup_r (by decide), kup_at] at q
            exact absurd q (by decide)
          · rw [kup_j e, kup_j e, kup_j e, kup_j e, kup_r (by decide)] at q
            rw [kup_j e, kup_j e, kup_j e, kup_j e, kup_r (by decide), kup_j e, kup_j e, kup_j e, kup_j e, kup_r (by decide)]
            exact h.2 d hd q
      · rw [if_neg c8, if_neg c8]; exact bad
    · rw [if_neg c3, if_neg c3]; exact bad
  · have e : f_X3_channel mu p0 p1 p2 p3 = kup mu 34 0 1 := by
      unfold f_X3_channel
      simp only [if_neg hs, ite_self]
    rw [e, f_X2_channel, f_X2_refuseIfSealed, h7, if_neg hs, if_neg (by decide)]
    exact PV_bad h rfl
theorem addr_eq {ka mu : kM} (hq : Rq ka mu) (p i : Int32) : f_X2_addressOf ka p i = if f_X3_isTold mu p = 0 then (2, 0) else if f_X3_noWord mu p i = 0 then (0, mu 36 p.toNatClampNeg + i) else (3, 0) := by
  rw [f_X2_addressOf, told_eq hq]
  by_cases c : f_X3_isTold mu p = 0
  · rw [if_pos c, if_neg (by decide), if_pos c]
  · rw [if_neg c, if_pos rfl, if_neg c]
    obtain ⟨j, hj, rfl⟩ := told_get c
    obtain ⟨g1, g2, g3, g4, g5, -⟩ := hq.2.2.1 j hj
    rw [nI_clamp (by omega)]
    by_cases q : f_X3_noWord mu (nI j) i = 0
    · rw [if_neg (fun z => (holds_iff g5 hj _).mp z q), if_pos q, g4]
    · rw [if_pos ((holds_iff g5 hj _).mpr q), if_neg q]
theorem poke_ok {B : Int} {ka mu : kM} {p0 p1 p2 : Int32} (h : RV B ka mu) : PI B cdI (f_X2_poke ka p0 p1 p2) (f_X3_poke mu p0 p1 p2) := by
  have hq := h.1.1
  have h7 : ka 0 7 = mu 34 24 := hq.1.2.2.2.2.1
  rw [f_X2_poke, f_X3_poke, f_X2_refuseIfSealed, h7, addr_eq hq]
  by_cases hs : mu 34 24 = 0
  · rw [if_pos hs, if_pos rfl, if_pos hs]
    by_cases c : f_X3_isTold mu p0 = 0
    · rw [if_pos c, if_neg (show ¬ (2 : Nat) = 0 by decide), if_pos c]; exact PI_bad h rfl (by decide)
    · rw [if_neg c, if_neg c]
      by_cases q : f_X3_noWord mu p0 p1 = 0
      · rw [if_pos q, if_pos rfl, if_pos q, kup_r (show (36 : Nat) ≠ 34 by decide)]
        refine PI_mk ?_ (fun _ => ?_) (RV_kup h (Rq_mem (Rq_m34 hq (Or.inl rfl))) ?_ ?_ ?_)
        · rw [kup_r (by decide), kup_at]; rfl
        · rw [kup_r (by decide)]; exact hq.2.1 _
        · rw [kup_r (by decide)]
        · rw [kup_r (by decide), kup_j (by decide)]
        · exact mSu_n (mSu_34 mSu_refl) (by decide)
      · rw [if_neg q, if_neg (show ¬ (3 : Nat) = 0 by decide), if_neg q]; exact PI_bad h rfl (by decide)
  · rw [if_neg hs, if_neg (by decide), if_neg hs]; exact PI_bad h rfl (by decide)
theorem peek_ok {B : Int} {ka mu : kM} {p0 p1 : Int32} (h : RV B ka mu) : PI B cd1 ((f_X2_peek ka p0 p1).1, (f_X2_peek ka p0 p1).2, ka) (f_X3_peek mu p0 p1) := by
  have hq := h.1.1
  rw [f_X2_peek, f_X3_peek, addr_eq hq]
  by_cases c : f_X3_isTold mu p0 = 0
  · rw [if_pos c, if_neg (show ¬ (2 : Nat) = 0 by decide), if_pos c]; exact PI_bad h rfl (by decide)
  · rw [if_neg c, if_neg c]
    by_cases q : f_X3_noWord mu p0 p1 = 0
    · rw [if_pos q, if_pos rfl, if_pos q]
      exact PI_get h rfl (by rw [kup_r (by decide), kup_r (by decide)]; exact hq.2.1 _)
    · rw [if_neg q, if_neg (show ¬ (3 : Nat) = 0 by decide), if_neg q]; exact PI_bad h rfl (by decide)
theorem seallp_eq {mu : kM} : ∀ (n k : Nat), k + n < 100 → f_X3_seal_lp mu n (nI k) (msum (mu 47) k) = msum (mu 47) (k + n) := by
  intro n
  induction n with
  | zero => intro k _; rw [f_X3_seal_lp]; rfl
  | succ n ih =>
    intro k hk
    rw [f_X3_seal_lp, nI_clamp (by omega), ← nI_succ]
    have := ih (k + 1) (by omega)
    rw [msum] at this
    rw [this]
    congr 1
    omega
theorem seal_ok {B : Int} {ka mu : kM} (h : RV B ka mu) : PI B cdI (f_X2_seal ka) (f_X3_seal mu) := by
  have hq := h.1.1
  have h7 : ka 0 7 = mu 34 24 := hq.1.2.2.2.2.1
  rw [f_X2_seal, f_X3_seal, f_X2_refuseIfSealed, h7]
  by_cases hs : mu 34 24 = 0
  · obtain ⟨⟨g1, g2, g3, g4, g5, g6, g7, g8, g9, g10, g11, g12, g13⟩, h2, h3, h4, h5, h6⟩ := hq
    rw [if_pos hs, if_pos rfl, if_pos hs, g1]
    by_cases c : mu 34 12 = 0
    · rw [if_pos c, if_pos c]; exact PI_bad h rfl (by decide)
    · rw [if_neg c, if_neg c]
      have c2 : 0 < (ka 0 5).toInt := by
        rw [← g1, ki_eq, show (0 : Int32).toInt = 0 from rfl] at c
        omega
      obtain ⟨z8, z9⟩ := g12 (h7.trans hs)
      have e11 : kup ka 0 7 1 0 11 = ka 0 11 := kup_j (by decide)
      have er : ∀ r k, r ≠ 0 → kup ka 0 7 1 r k = ka r k := fun r k q => kup_r q
      have fr : ∀ r k, r ≠ 34 → kup (kup (kup mu 34 0 0) 34 24 1) 34 26 ((kup (kup mu 34 0 0) 34 24 1) 47 (0 : Int32).toNatClampNeg) r k = mu r k := fun r k q => by rw [kup_r q, kup_r q, kup_r q]
      refine PI_mk ?_ (fun _ => ?_) (RV_kup h ⟨?_, fun i => by rw [er _ _ (by decide), fr _ _ (by decide)]; exact h2 i, fun i hi => Rp_of (h3 i hi) (fun _ => er _ _ (by omega)) (fun _ => er _ _ (by omega)) (fun r _ _ _ => fr _ _ (by omega)) (fun _ _ => fr _ _ (by omega)), fun d hd => by rw [e11]; exact Rc_of (h4 d hd) (fun _ => er _ _ (by omega)) (fun _ => er _ _ (by omega)) (fun r _ _ _ => fr _ _ (by omega)) (fun _ _ => fr _ _ (by omega)), by rw [e11]; exact h5, by rw [e11]; exact h6⟩ e11 ?_ ?_)
      · rw [kup_j (by decide), kup_j (by decide), kup_at]; rfl
      · rw [kup_j (show (6 : Nat) ≠ 7 by decide), g4, g1]
        have e := seallp_eq (mu := kup (kup (kup mu 34 0 0) 34 24 1) 34 26 ((kup (kup mu 34 0 0) 34 24 1) 47 (0 : Int32).toNatClampNeg)) (mu 34 12).toNatClampNeg 0 (by rw [← g1, show (ka 0 5).toNatClampNeg = (ka 0 5).toInt.toNat from rfl]; omega)
        have e' : f_X3_seal_lp (kup (kup (kup mu 34 0 0) 34 24 1) 34 26 ((kup (kup mu 34 0 0) 34 24 1) 47 (0 : Int32).toNatClampNeg)) (mu 34 12).toNatClampNeg 0 0 = msum ((kup (kup (kup mu 34 0 0) 34 24 1) 34 26 ((kup (kup mu 34 0 0) 34 24 1) 47 (0 : Int32).toNatClampNeg)) 47) (0 + (mu 34 12).toNatClampNeg) := e
        rw [e', Nat.zero_add]
        exact msum_congr (fun i _ => by rw [fr _ _ (by decide)]; exact g9 i)
      · have e5 : kup ka 0 7 1 5 = ka 5 := funext (fun i => kup_r (by decide))
        unfold Rs
        simp only [e5, kup_at, kup_j (show (5 : Nat) ≠ 7 by decide), kup_j (show (6 : Nat) ≠ 7 by decide), kup_j (show (8 : Nat) ≠ 7 by decide), kup_j (show (9 : Nat) ≠ 7 by decide), kup_j (show (10 : Nat) ≠ 7 by decide), kup_r (show (4 : Nat) ≠ 0 by decide), kup_j (show (12 : Nat) ≠ 26 by decide), kup_j (show (12 : Nat) ≠ 24 by decide), kup_j (show (12 : Nat) ≠ 0 by decide), kup_j (show (24 : Nat) ≠ 26 by decide), kup_j (show (25 : Nat) ≠ 26 by decide), kup_j (show (25 : Nat) ≠ 24 by decide), kup_j (show (25 : Nat) ≠ 0 by decide), kup_j (show (27 : Nat) ≠ 26 by decide), kup_j (show (27 : Nat) ≠ 24 by decide), kup_j (show (27 : Nat) ≠ 0 by decide), kup_r (show (46 : Nat) ≠ 34 by decide), kup_r (show (47 : Nat) ≠ 34 by decide), z8, z9]
        have k0 := g11 0 (by omega)
        have e47 : mu 47 (0 : Int32).toNatClampNeg = ka 5 0 := (g9 _).symm
        refine ⟨g1, g2, g3, g4, trivial, by rw [← g6, z8], g7, g8, g9, g10, g11, fun q => absurd q (by decide), fun _ => ⟨by decide, ?_, by decide, ?_, ?_⟩⟩
        · rw [show (0 : Int32).toInt = 0 from rfl]; exact c2
        · rw [e47]; omega
        · rw [e47, show (0 : Int32).toInt = 0 from rfl, show (0 : Int32).toNatClampNeg = 0 from rfl]; omega
      · rw [kup_j (by decide), kup_j (by decide), kup_j (by decide)]
      · exact mSu_34 (mSu_34 (mSu_34 mSu_refl))
  · rw [if_neg hs, if_neg (by decide), if_neg hs]; exact PI_bad h rfl (by decide)
theorem step_ok {B : Int} {ka mu : kM} {p0 : Int32} (h : RV B ka mu) (hB : B + 5000 < 2000000000) : PI (B + 5000) cdI (f_X2_step ka p0) (f_X3_step mu p0) := by
  have hq := h.1.1
  have h7 : ka 0 7 = mu 34 24 := hq.1.2.2.2.2.1
  have h' : RV (B + 5000) ka mu := RV_mono h (by omega)
  rw [f_X2_step, f_X3_step, h7]
  by_cases hs : mu 34 24 = 0
  · rw [if_pos hs, if_pos hs, ite_self]; exact PI_bad h' rfl (by decide)
  · rw [if_neg hs, if_neg hs]
    by_cases c1 : p0 < 0
    · rw [if_pos c1, if_pos c1, ite_self]; exact PI_bad h' rfl (by decide)
    · rw [if_neg c1, if_neg c1]
      by_cases c2 : p0 ≤ 5000
      · rw [if_pos c2, if_pos c2]
        obtain ⟨k1, k2, k3⟩ := kstep_in c1 c2
        have ht := RV_thr (v := 0) h
        obtain ⟨s1, s2, s3, -⟩ := steplp_ok p0.toNatClampNeg B ka (kup mu 34 0 0) 0 ht.1 (by rw [h7]; exact hs) (by omega)
        exact PI_mk (by rw [s3, kup_at]; rfl) (fun _ => s1) (RV_mono ⟨s2, RU_of ht.2 (mSu_steplp _ _ _)⟩ (by omega))
      · rw [if_neg c2, if_neg c2, ite_self]; exact PI_bad h' rfl (by decide)
theorem idxr {j k : Nat} (hj : j < 6) (hk : k < 4) : ((4 : Int32) * nI j + nI (k + 2) - 2).toNatClampNeg = 4 * j + k := by
  rw [show (4 : Int32) = nI 4 from rfl, pk_mul, nI_add, show 4 * j + (k + 2) = (4 * j + k) + 2 by omega, ← nI_add, show nI 2 = (2 : Int32) from rfl, Int32.add_sub_cancel, nI_clamp (by omega)]
theorem told_ok {B : Int} {ka mu : kM} {p0 p1 : Int32} (h : RV B ka mu) : PI B cd1 ((f_X2_told ka p0 p1).1, (f_X2_told ka p0 p1).2, ka) (f_X3_told mu p0 p1) := by
  have hq := h.1.1
  rw [f_X2_told, f_X3_told]
  by_cases c1 : p0 < 0
  · rw [if_pos c1, if_pos c1]; exact PI_bad h rfl (by decide)
  rw [if_neg c1, if_neg c1]
  by_cases c2 : (6 : Int32) ≤ p0
  · rw [if_pos c2, if_pos (lt57' c2)]; exact PI_bad h rfl (by decide)
  rw [if_neg c2, if_neg (lt57 c2)]
  by_cases c3 : p1 < 0
  · rw [if_pos c3, if_pos c3]; exact PI_bad h rfl (by decide)
  rw [if_neg c3, if_neg c3]
  by_cases c4 : p1 ≤ 9
  · rw [if_pos c4, if_pos c4]
    obtain ⟨j, hj, rfl⟩ := nI_get (kin_of (n := 6) rfl c1 c2) (by omega)
    obtain ⟨k, hk, rfl⟩ := nI_get (x := p1) (n := 10) (by rw [vp_in_iff]; rw [ki_lt, show (0 : Int32).toInt = 0 from rfl] at c3; rw [ki_le, show (9 : Int32).toInt = 9 from rfl] at c4; omega) (by omega)
    obtain ⟨g1, g2, g3, g4, g5, g6, g7, g8, g9, g10, g11, g12, g13⟩ := hq.2.2.1 j hj
    rw [nI_clamp (by omega), f_X1_report]
    simp only [kup_r (show (39 : Nat) ≠ 34 by decide), kup_r (show (40 : Nat) ≠ 34 by decide), kup_r (show (41 : Nat) ≠ 34 by decide), kup_r (show (42 : Nat) ≠ 34 by decide), kup_r (show (43 : Nat) ≠ 34 by decide), kup_r (show (44 : Nat) ≠ 34 by decide), kup_r (show (45 : Nat) ≠ 34 by decide)]
    rcases (show k = 0 ∨ k = 1 ∨ k = 2 ∨ k = 3 ∨ k = 4 ∨ k = 5 ∨ k = 6 ∨ k = 7 ∨ k = 8 ∨ k = 9 by omega) with rfl | rfl | rfl | rfl | rfl | rfl | rfl | rfl | rfl | rfl
    · rw [if_pos (show nI 0 = 0 by decide), if_pos (show nI 0 = 0 by decide)]; exact PI_get h rfl g1
    · rw [if_neg (show ¬ nI 1 = 0 by decide), if_pos (show nI 1 = 1 by decide), if_neg (show ¬ nI 1 = 0 by decide), if_pos (show nI 1 ≤ 1 by decide)]; exact PI_get h rfl g7
    · rw [if_neg (show ¬ nI 2 = 0 by decide), if_neg (show ¬ nI 2 = 1 by decide), if_pos (show nI 2 = 2 by decide), if_neg (show ¬ nI 2 < 2 by decide), if_neg (show ¬ (5 : Int32) < nI 2 by decide), if_neg (show ¬ nI 2 = 0 by decide), if_neg (show ¬ nI 2 ≤ 1 by decide), if_neg (show ¬ (6 : Int32) ≤ nI 2 by decide), idxr (k := 0) hj (by omega)]; exact PI_get h rfl (g13 0 (by omega))
    · rw [if_neg (show ¬ nI 3 = 0 by decide), if_neg (show ¬ nI 3 = 1 by decide), if_neg (show ¬ nI 3 = 2 by decide), if_pos (show nI 3 = 3 by decide), if_neg (show ¬ nI 3 < 2 by decide), if_neg (show ¬ (5 : Int32) < nI 3 by decide), if_neg (show ¬ nI 3 = 0 by decide), if_neg (show ¬ nI 3 ≤ 1 by decide), if_neg (show ¬ (6 : Int32) ≤ nI 3 by decide), idxr (k := 1) hj (by omega)]; exact PI_get h rfl (g13 1 (by omega))
    · rw [if_neg (show ¬ nI 4 = 0 by decide), if_neg (show ¬ nI 4 = 1 by decide), if_neg (show ¬ nI 4 = 2 by decide), if_neg (show ¬ nI 4 = 3 by decide), if_pos (show nI 4 = 4 by decide), if_neg (show ¬ nI 4 < 2 by decide), if_neg (show ¬ (5 : Int32) < nI 4 by decide), if_neg (show ¬ nI 4 = 0 by decide), if_neg (show ¬ nI 4 ≤ 1 by decide), if_neg (show ¬ (6 : Int32) ≤ nI 4 by decide), idxr (k := 2) hj (by omega)]; exact PI_get h rfl (g13 2 (by omega))
    · rw [if_neg (show ¬ nI 5 = 0 by decide), if_neg (show ¬ nI 5 = 1 by decide), if_neg (show ¬ nI 5 = 2 by decide), if_neg (show ¬ nI 5 = 3 by decide), if_neg (show ¬ nI 5 = 4 by decide), if_pos (show nI 5 = 5 by decide), if_neg (show ¬ nI 5 < 2 by decide), if_neg (show ¬ (5 : Int32) < nI 5 by decide), if_neg (show ¬ nI 5 = 0 by decide), if_neg (show ¬ nI 5 ≤ 1 by decide), if_neg (show ¬ (6 : Int32) ≤ nI 5 by decide), idxr (k := 3) hj (by omega)]; exact PI_get h rfl (g13 3 (by omega))
    · rw [if_neg (show ¬ nI 6 = 0 by decide), if_neg (show ¬ nI 6 = 1 by decide), if_neg (show ¬ nI 6 = 2 by decide), if_neg (show ¬ nI 6 = 3 by decide), if_neg (show ¬ nI 6 = 4 by decide), if_neg (show ¬ nI 6 = 5 by decide), if_pos (show nI 6 = 6 by decide), if_neg (show ¬ nI 6 = 0 by decide), if_neg (show ¬ nI 6 ≤ 1 by decide), if_pos (show (6 : Int32) ≤ nI 6 by decide), if_neg (show ¬ nI 6 = 1 by decide), if_pos (show nI 6 = 6 by decide)]; exact PI_get h rfl g8
    · rw [if_neg (show ¬ nI 7 = 0 by decide), if_neg (show ¬ nI 7 = 1 by decide), if_neg (show ¬ nI 7 = 2 by decide), if_neg (show ¬ nI 7 = 3 by decide), if_neg (show ¬ nI 7 = 4 by decide), if_neg (show ¬ nI 7 = 5 by decide), if_neg (show ¬ nI 7 = 6 by decide), if_pos (show nI 7 = 7 by decide), if_neg (show ¬ nI 7 = 0 by decide), if_neg (show ¬ nI 7 ≤ 1 by decide), if_pos (show (6 : Int32) ≤ nI 7 by decide), if_neg (show ¬ nI 7 = 1 by decide), if_neg (show ¬ nI 7 = 6 by decide), if_pos (show nI 7 = 7 by decide)]; exact PI_get h rfl g9
    · rw [if_neg (show ¬ nI 8 = 0 by decide), if_neg (show ¬ nI 8 = 1 by decide), if_neg (show ¬ nI 8 = 2 by decide), if_neg (show ¬ nI 8 = 3 by decide), if_neg (show ¬ nI 8 = 4 by decide), if_neg (show ¬ nI 8 = 5 by decide), if_neg (show ¬ nI 8 = 6 by decide), if_neg (show ¬ nI 8 = 7 by decide), if_pos (show nI 8 = 8 by decide), if_neg (show ¬ nI 8 = 0 by decide), if_neg (show ¬ nI 8 ≤ 1 by decide), if_pos (show (6 : Int32) ≤ nI 8 by decide), if_neg (show ¬ nI 8 = 1 by decide), if_neg (show ¬ nI 8 = 6 by decide), if_neg (show ¬ nI 8 = 7 by decide), if_pos (show nI 8 = 8 by decide)]; exact PI_get h rfl g10
    · rw [if_neg (show ¬ nI 9 = 0 by decide), if_neg (show ¬ nI 9 = 1 by decide), if_neg (show ¬ nI 9 = 2 by decide), if_neg (show ¬ nI 9 = 3 by decide), if_neg (show ¬ nI 9 = 4 by decide), if_neg (show ¬ nI 9 = 5 by decide), if_neg (show ¬ nI 9 = 6 by decide), if_neg (show ¬ nI 9 = 7 by decide), if_neg (show ¬ nI 9 = 8 by decide), if_pos (show nI 9 = 9 by decide), if_neg (show ¬ nI 9 = 0 by decide), if_neg (show ¬ nI 9 ≤ 1 by decide), if_pos (show (6 : Int32) ≤ nI 9 by decide), if_neg (show ¬ nI 9 = 1 by decide), if_neg (show ¬ nI 9 = 6 by decide), if_neg (show ¬ nI 9 = 7 by decide), if_neg (show ¬ nI 9 = 8 by decide)]; exact PI_get h rfl g11
  · rw [if_neg c4, if_neg c4]; exact PI_bad h rfl (by decide)
theorem has_ok {B : Int} {ka mu : kM} {p0 p1 : Int32} (h : RV B ka mu) : PI B cd1 ((f_X2_has ka p0 p1).1, (f_X2_has ka p0 p1).2, ka) (f_X3_has mu p0 p1) := by
  have hq := h.1.1
  rw [f_X2_has, f_X3_has]
  by_cases c : f_X3_noChannel mu p0 = 0
  · obtain ⟨d, hd, rfl, h48, e1⟩ := nm_y c hq
    rw [e1, if_neg (show ¬ (1 : Int32) = 0 by decide), if_pos c]
    by_cases c3 : p1 < 0
    · rw [if_pos c3, if_pos c3]; exact PI_bad h rfl (by decide)
    rw [if_neg c3, if_neg c3]
    by_cases c4 : p1 ≤ 4
    · rw [if_pos c4, if_pos c4, f_X0_report]
      have hRc := hq.2.2.2.1 d hd
      obtain ⟨g1, g2, g3, g4, g5, g6, g7, g8, g9, g10, g11, g12, -, g14, g15⟩ := hq.2.2.2.1 d hd
      simp only [kup_r (show (51 : Nat) ≠ 34 by decide), kup_r (show (52 : Nat) ≠ 34 by decide), kup_r (show (53 : Nat) ≠ 34 by decide), kup_r (show (54 : Nat) ≠ 34 by decide), kup_r (show (55 : Nat) ≠ 34 by decide), kup_r (show (56 : Nat) ≠ 34 by decide), nI_clamp (show d < 2 ^ 31 by omega), idx8 hd]
      by_cases k0 : p1 = 0
      · rw [if_pos k0, if_pos k0]; exact PI_get h rfl g5
      rw [if_neg k0, if_neg k0]
      by_cases k1 : p1 = 1
      · rw [if_pos k1, if_pos k1, word_eq hRc, if_neg (show ¬ (0 : Int32) < 0 by decide)]
        by_cases k2 : mu 53 d ≤ 0
        · rw [if_pos k2, if_pos k2]; exact PI_get h rfl rfl
        · rw [if_neg k2, if_neg k2]; exact PI_get h rfl rfl
      rw [if_neg k1, if_neg k1]
      by_cases k2 : p1 = 2
      · rw [if_pos k2, if_pos k2]
        by_cases k3 : mu 51 d = 0
        · rw [if_pos k3]; exact PI_get h rfl (age_eq hq hd k3)
        · rw [if_neg k3, f_X0_age, show f_X0_isSlot ka d = 0 by rw [f_X0_isSlot, if_neg (by rw [g4]; exact k3)], if_pos rfl]; exact PI_get h rfl rfl
      rw [if_neg k2, if_neg k2]
      by_cases k3 : p1 = 3
      · rw [if_pos k3, if_pos k3]; exact PI_get h rfl g6
      rw [if_neg k3, if_neg k3]
      exact PI_get h rfl g7
    · rw [if_neg c4, if_neg c4]; exact PI_bad h rfl (by decide)
  · rw [nm_j c hq, if_pos rfl, if_neg c]; exact PI_bad h rfl (by decide)
theorem queued_ok {B : Int} {ka mu : kM} {p0 p1 : Int32} (h : RV B ka mu) : PI B cd1 ((f_X2_queued ka p0 p1).1, (f_X2_queued ka p0 p1).2, ka) (f_X3_queued mu p0 p1) := by
  have hq := h.1.1
  rw [f_X2_queued, f_X3_queued]
  by_cases c : f_X3_noChannel mu p0 = 0
  · obtain ⟨d, hd, rfl, h48, e1⟩ := nm_y c hq
    rw [e1, if_neg (show ¬ (1 : Int32) = 0 by decide), if_pos c, nI_clamp (show d < 2 ^ 31 by omega)]
    have hRc := hq.2.2.2.1 d hd
    obtain ⟨g1, g2, g3, g4, g5, g6, g7, g8, g9, g10, g11, g12, -, g14, g15⟩ := hq.2.2.2.1 d hd
    rw [kup_r (show (51 : Nat) ≠ 34 by decide), kup_r (show (52 : Nat) ≠ 34 by decide), kup_r (show (53 : Nat) ≠ 34 by decide), f_X0_isSlot, g4]
    by_cases k3 : mu 51 d = 0
    · rw [if_pos k3, if_neg (show ¬ (1 : Int32) = 0 by decide), if_pos k3]; exact PI_get h rfl rfl
    · rw [if_neg k3, if_pos rfl, if_neg k3, word_eq hRc]
      by_cases k4 : p1 < 0
      · rw [if_pos k4, if_pos k4]; exact PI_get h rfl rfl
      rw [if_neg k4, if_neg k4]
      by_cases k5 : mu 53 d ≤ p1
      · rw [if_pos k5, if_neg (fun z => by rw [ki_le] at k5; rw [ki_lt] at z; omega)]; exact PI_get h rfl rfl
      · have k6 : p1 < mu 53 d := by rw [ki_le] at k5; rw [ki_lt]; omega
        rw [if_neg k5, if_pos k6]
        rw [ki_lt] at k6
        rw [ki_lt, show (0 : Int32).toInt = 0 from rfl] at k4
        have k7 := g11 k3
        obtain ⟨k, hk, rfl⟩ := nI_get (x := p1) (n := 8) (vp_in_iff.mpr (by omega)) (by omega)
        rw [idx8k hd hk, nI_clamp (by omega)]
        exact PI_get h rfl rfl
  · rw [nm_j c hq, if_pos rfl, if_neg c]; exact PI_bad h rfl (by decide)
theorem current_ok {B : Int} {ka mu : kM} (h : RV B ka mu) : f_X2_current ka = (f_X3_current mu).1 ∧ RV B ka (f_X3_current mu).2 := by
  have hq := h.1.1
  obtain ⟨g1, g2, g3, g4, g5, g6, g7, g8, -⟩ := hq.1
  rw [f_X2_current, f_X3_current, kup_j (show (24 : Nat) ≠ 0 by decide), kup_j (show (25 : Nat) ≠ 0 by decide), kup_r (show (46 : Nat) ≠ 34 by decide), g5]
  by_cases c : mu 34 24 = 0
  · rw [if_pos c, if_pos c]; exact ⟨rfl, RV_thr h⟩
  · rw [if_neg c, if_neg c, g6]; exact ⟨g8 _, RV_thr h⟩
theorem ticks_ok {B : Int} {ka mu : kM} (h : RV B ka mu) : f_X2_ticks ka = (f_X3_ticks mu).1 ∧ RV B ka (f_X3_ticks mu).2 := by
  rw [f_X2_ticks, f_X3_ticks, kup_j (show (28 : Nat) ≠ 0 by decide)]
  exact ⟨h.1.2.1, RV_thr h⟩
