/-! ===== the public methods, class against reference ===== -/
def cdI : Nat → Int32 := nI
def cd1 : Nat → Int32 := fun n => nI (n - 1)
theorem lt57 {x : Int32} (h : ¬ (6 : Int32) ≤ x) : ¬ (5 : Int32) < x := by
  rw [ki_le, show (6 : Int32).toInt = 6 from rfl] at h
  rw [ki_lt, show (5 : Int32).toInt = 5 from rfl]
  omega
theorem lt57' {x : Int32} (h : (6 : Int32) ≤ x) : (5 : Int32) < x := by
  rw [ki_le, show (6 : Int32).toInt = 6 from rfl] at h
  rw [ki_lt, show (5 : Int32).toInt = 5 from rfl]
  omega
theorem lt78 {x : Int32} (h : ¬ (8 : Int32) ≤ x) : ¬ (7 : Int32) < x := by
  rw [ki_le, show (8 : Int32).toInt = 8 from rfl] at h
  rw [ki_lt, show (7 : Int32).toInt = 7 from rfl]
  omega
theorem lt78' {x : Int32} (h : (8 : Int32) ≤ x) : (7 : Int32) < x := by
  rw [ki_le, show (8 : Int32).toInt = 8 from rfl] at h
  rw [ki_lt, show (7 : Int32).toInt = 7 from rfl]
  omega
theorem part_ok {B : Int} {ka mu : kM} {p0 p1 p2 p3 p4 : Int32} (h : RV B ka mu) : PV B cdI (f_X2_partition ka p0 p1 p2 p3 p4) (f_X3_partition mu p0 p1 p2 p3 p4) := by
  have hq := h.1.1
  have h7 : ka 0 7 = mu 34 24 := hq.1.2.2.2.2.1
  have bad : PV B cdI (2, ka) (kup mu 34 0 2) := PV_bad h rfl
  by_cases hs : mu 34 24 = 0
  · unfold f_X2_partition f_X3_partition f_X2_refuseIfSealed
    simp only [h7, if_pos hs, ↓reduceIte]
    by_cases c1 : p0 < 0
    · rw [if_pos c1, if_pos c1]; exact bad
    rw [if_neg c1, if_neg c1]
    by_cases c2 : (6 : Int32) ≤ p0
    · rw [if_pos c2, if_pos (lt57' c2)]; exact bad
    rw [if_neg c2, if_neg (lt57 c2)]
    obtain ⟨j, hj, rfl⟩ := nI_get (kin_of (n := 6) rfl c1 c2) (by omega)
    rw [nI_clamp (by omega), told_j hq hj]
    by_cases c3 : f_X3_isTold mu (nI j) = 0
    · rw [if_pos c3, if_pos c3, f_X2_isInMemory]
      by_cases c4 : p1 < 0
      · rw [if_pos c4, if_pos rfl, if_pos c4]; exact bad
      rw [if_neg c4, if_neg c4]
      by_cases c5 : (512 : Int32) ≤ p1
      · rw [if_pos c5, if_pos rfl, if_pos c5]; exact bad
      rw [if_neg c5, if_neg c5]
      by_cases c6 : p2 < 1
      · rw [if_pos c6, if_pos rfl, if_pos c6]; exact bad
      rw [if_neg c6, if_neg c6]
      by_cases c7 : (512 : Int32) - p1 < p2
      · rw [if_pos c7, if_pos rfl, if_neg (fun z => by rw [ki_lt] at c7; rw [ki_le] at z; omega)]; exact bad
      rw [if_neg c7, if_neg (show ¬ (1 : Int32) = 0 by decide), if_pos (show p2 ≤ (512 : Int32) - p1 by rw [ki_lt] at c7; rw [ki_le]; omega), shares_eq hq]
      by_cases c8 : f_X3_shares mu p1 p2 = 0
      · rw [if_pos c8, if_pos c8]
        by_cases c9 : p3 < 0
        · rw [if_pos c9, if_pos c9]; exact bad
        rw [if_neg c9, if_neg c9]
        by_cases c10 : p2 ≤ p3
        · rw [if_pos c10, if_pos c10]; exact bad
        rw [if_neg c10, if_neg c10]
        by_cases c11 : p4 < 0
        · rw [if_pos c11, if_pos c11]; exact bad
        rw [if_neg c11, if_neg c11]
        by_cases c12 : p4 ≤ 100
        · rw [if_pos c12, if_pos c12]
          rw [ki_lt, show (0 : Int32).toInt = 0 from rfl] at c4
          rw [ki_le, show (512 : Int32).toInt = 512 from rfl] at c5
          rw [ki_lt, show (1 : Int32).toInt = 1 from rfl] at c6
          rw [ki_lt, ki_sub (by rw [show (512 : Int32).toInt = 512 from rfl]; omega) (by rw [show (512 : Int32).toInt = 512 from rfl]; omega), show (512 : Int32).toInt = 512 from rfl] at c7
          refine PV_mk ?_ (RV_kup h (Rq_tell (Rq_m34 hq (Or.inl rfl)) hj (by omega) (by omega) (by omega)) ?_ ?_ ?_)
          · rw [kup_r (by decide), kup_r (by decide), kup_r (by decide), kup_r (by decide), kup_r (by decide), kup_r (by decide), kup_at]; rfl
          · rw [f_X1_tell, kup_r (by omega), kup_r (by omega), kup_r (by omega), kup_r (by omega), kup_r (by omega), kup_r (by omega)]
          · rw [kup_r (by decide), kup_r (by decide), kup_r (by decide), kup_r (by decide), kup_r (by decide), kup_r (by decide), kup_j (by decide)]
          · exact mSu_n (mSu_n (mSu_n (mSu_n (mSu_n (mSu_n (mSu_n mSu_refl (by decide)) (by decide)) (by decide)) (by decide)) (by decide)) (by decide)) (by decide)
        · rw [if_neg c12, if_neg c12]; exact bad
      · rw [if_neg c8, if_neg c8]; exact bad
    · rw [if_neg c3, if_neg c3]; exact bad
  · have e : f_X3_partition mu p0 p1 p2 p3 p4 = kup mu 34 0 1 := by
      unfold f_X3_partition
      simp only [if_neg hs, ite_self]
    rw [e, f_X2_partition, f_X2_refuseIfSealed, h7, if_neg hs, if_neg (by decide)]
    exact PV_bad h rfl
theorem Rq_win {ka mu : kM} {n : Nat} {p t : Int32} (h : Rq ka mu) (hs : mu 34 24 = 0) (hn : n < 12) (h5 : mu 34 12 = nI n) (hp : p = -1 ∨ vp_in p 6) (ht1 : 1 ≤ t.toInt) (ht2 : t.toInt ≤ 100) : Rq (kup (kup (kup (kup ka 4 n p) 5 n t) 0 5 (nI n + 1)) 0 6 (ka 0 6 + t)) (kup (kup (kup mu 46 n p) 47 n t) 34 12 (nI n + 1)) := by
  obtain ⟨⟨g1, g2, g3, g4, g5, g6, g7, g8, g9, g10, g11, g12, g13⟩, h2, h3, h4, h5', h6⟩ := h
  have e11 : kup (kup (kup (kup ka 4 n p) 5 n t) 0 5 (nI n + 1)) 0 6 (ka 0 6 + t) 0 11 = ka 0 11 := by rw [kup_j (by decide), kup_j (by decide), kup_r (by decide), kup_r (by decide)]
  have er : ∀ r k, r ≠ 0 → r ≠ 4 → r ≠ 5 → kup (kup (kup (kup ka 4 n p) 5 n t) 0 5 (nI n + 1)) 0 6 (ka 0 6 + t) r k = ka r k := fun r k q1 q2 q3 => by rw [kup_r q1, kup_r q1, kup_r q3, kup_r q2]
  have fr : ∀ r k, r ≠ 34 → r ≠ 46 → r ≠ 47 → kup (kup (kup mu 46 n p) 47 n t) 34 12 (nI n + 1) r k = mu r k := fun r k q1 q2 q3 => by rw [kup_r q1, kup_r q3, kup_r q2]
  have e5n : ka 0 5 = nI n := g1.trans h5
  refine ⟨?_, fun i => by rw [er _ _ (by decide) (by decide) (by decide), fr _ _ (by decide) (by decide) (by decide)]; exact h2 i, fun i hi => Rp_of (h3 i hi) (fun _ => er _ _ (by omega) (by omega) (by omega)) (fun _ => er _ _ (by omega) (by omega) (by omega)) (fun r _ _ _ => fr _ _ (by omega) (by omega) (by omega)) (fun _ _ => fr _ _ (by omega) (by omega) (by omega)), fun d hd => by rw [e11]; exact Rc_of (h4 d hd) (fun _ => er _ _ (by omega) (by omega) (by omega)) (fun _ => er _ _ (by omega) (by omega) (by omega)) (fun r _ _ _ => fr _ _ (by omega) (by omega) (by omega)) (fun _ _ => fr _ _ (by omega) (by omega) (by omega)), by rw [e11]; exact h5', by rw [e11]; exact h6⟩
  have hn1 : (nI n + 1).toInt = (n : Int) + 1 := by rw [← nI_succ, nI_toInt (by omega)]; omega
  have e5 : ∀ i, kup (kup (kup (kup ka 4 n p) 5 n t) 0 5 (nI n + 1)) 0 6 (ka 0 6 + t) 5 i = if i = n then t else ka 5 i := by
    intro i
    rw [kup_r (by decide), kup_r (by decide), kup_eq, kup_r (show (5 : Nat) ≠ 4 by decide)]
    by_cases q : i = n
    · rw [if_pos ⟨rfl, q⟩, if_pos q]
    · rw [if_neg (fun z => q z.2), if_neg q]
  have e4 : ∀ i, kup (kup (kup (kup ka 4 n p) 5 n t) 0 5 (nI n + 1)) 0 6 (ka 0 6 + t) 4 i = if i = n then p else ka 4 i := by
    intro i
    rw [kup_r (by decide), kup_r (by decide), kup_r (by decide), kup_eq]
    by_cases q : i = n
    · rw [if_pos ⟨rfl, q⟩, if_pos q]
    · rw [if_neg (fun z => q z.2), if_neg q]
  unfold Rs
  rw [kup_at, kup_j (show (5 : Nat) ≠ 6 by decide), kup_at, kup_at]
  simp only [kup_j (show (7 : Nat) ≠ 6 by decide), kup_j (show (7 : Nat) ≠ 5 by decide), kup_j (show (8 : Nat) ≠ 6 by decide), kup_j (show (8 : Nat) ≠ 5 by decide), kup_j (show (9 : Nat) ≠ 6 by decide), kup_j (show (9 : Nat) ≠ 5 by decide), kup_j (show (10 : Nat) ≠ 6 by decide), kup_j (show (10 : Nat) ≠ 5 by decide), kup_r (show (0 : Nat) ≠ 4 by decide), kup_r (show (0 : Nat) ≠ 5 by decide), kup_j (show (24 : Nat) ≠ 12 by decide), kup_j (show (25 : Nat) ≠ 12 by decide), kup_j (show (26 : Nat) ≠ 12 by decide), kup_j (show (27 : Nat) ≠ 12 by decide), kup_r (show (34 : Nat) ≠ 46 by decide), kup_r (show (34 : Nat) ≠ 47 by decide)]
  refine ⟨trivial, by omega, by omega, ?_, g5, g6, g7, fun i => ?_, fun i => ?_, fun i hi => ?_, fun i hi => ?_, g12, fun q => absurd (g5.trans hs) q⟩
  · have e6 : (nI n + 1).toNatClampNeg = n + 1 := by rw [← nI_succ, nI_clamp (by omega)]
    have g4' : ka 0 6 = msum (ka 5) n := by rw [g4, e5n, nI_clamp (by omega)]
    rw [e6, msum, e5 n, if_pos rfl, (msum_congr (fun i hi => by rw [e5 i, if_neg (by omega)])).trans g4'.symm]
  · rw [e4, kup_r (by decide), kup_r (by decide), kup_eq]
    by_cases q : i = n
    · rw [if_pos q, if_pos ⟨rfl, q⟩]
    · rw [if_neg q, if_neg (fun z => q z.2)]; exact g8 i
  · rw [e5, kup_r (by decide), kup_eq, kup_r (show (47 : Nat) ≠ 46 by decide)]
    by_cases q : i = n
    · rw [if_pos q, if_pos ⟨rfl, q⟩]
    · rw [if_neg q, if_neg (fun z => q z.2)]; exact g9 i
  · rw [e4]
    by_cases q : i = n
    · rw [if_pos q]; exact hp
    · rw [if_neg q]; exact g10 i hi
  · rw [e5]
    by_cases q : i = n
    · rw [if_pos q]; exact ⟨ht1, ht2⟩
    · rw [if_neg q]; exact g11 i (by rw [e5n, nI_toInt (by omega)]; omega)
theorem win_tail {B : Int} {ka mu : kM} {p0 p1 : Int32} (h : RV B ka mu) (hs : mu 34 24 = 0) (hp : p0 = -1 ∨ vp_in p0 6) : PI B cdI (if p1 < 1 then (2, 0, ka) else if (100 : Int32) < p1 then (2, 0, ka) else if (ka 0 5) < 12 then (0, (kup (kup (kup (kup ka 4 (ka 0 5).toNatClampNeg p0) 5 ((kup ka 4 (ka 0 5).toNatClampNeg p0) 0 5).toNatClampNeg p1) 0 5 (((kup (kup ka 4 (ka 0 5).toNatClampNeg p0) 5 ((kup ka 4 (ka 0 5).toNatClampNeg p0) 0 5).toNatClampNeg p1) 0 5) + 1)) 0 6 (((kup (kup (kup ka 4 (ka 0 5).toNatClampNeg p0) 5 ((kup ka 4 (ka 0 5).toNatClampNeg p0) 0 5).toNatClampNeg p1) 0 5 (((kup (kup ka 4 (ka 0 5).toNatClampNeg p0) 5 ((kup ka 4 (ka 0 5).toNatClampNeg p0) 0 5).toNatClampNeg p1) 0 5) + 1)) 0 6) + p1)) 0 5, kup (kup (kup (kup ka 4 (ka 0 5).toNatClampNeg p0) 5 ((kup ka 4 (ka 0 5).toNatClampNeg p0) 0 5).toNatClampNeg p1) 0 5 (((kup (kup ka 4 (ka 0 5).toNatClampNeg p0) 5 ((kup ka 4 (ka 0 5).toNatClampNeg p0) 0 5).toNatClampNeg p1) 0 5) + 1)) 0 6 (((kup (kup (kup ka 4 (ka 0 5).toNatClampNeg p0) 5 ((kup ka 4 (ka 0 5).toNatClampNeg p0) 0 5).toNatClampNeg p1) 0 5 (((kup (kup ka 4 (ka 0 5).toNatClampNeg p0) 5 ((kup ka 4 (ka 0 5).toNatClampNeg p0) 0 5).toNatClampNeg p1) 0 5) + 1)) 0 6) + p1)) else (2, 0, ka))
    (if p1 < 1 then (0, kup mu 34 0 2) else if (100 : Int32) < p1 then (0, kup mu 34 0 2) else if (mu 34 12) = 12 then (0, kup mu 34 0 2) else (((kup (kup (kup mu 34 0 0) 46 ((kup mu 34 0 0) 34 12).toNatClampNeg p0) 47 ((kup (kup mu 34 0 0) 46 ((kup mu 34 0 0) 34 12).toNatClampNeg p0) 34 12).toNatClampNeg p1) 34 12) + 1, kup (kup (kup (kup mu 34 0 0) 46 ((kup mu 34 0 0) 34 12).toNatClampNeg p0) 47 ((kup (kup mu 34 0 0) 46 ((kup mu 34 0 0) 34 12).toNatClampNeg p0) 34 12).toNatClampNeg p1) 34 12 (((kup (kup (kup mu 34 0 0) 46 ((kup mu 34 0 0) 34 12).toNatClampNeg p0) 47 ((kup (kup mu 34 0 0) 46 ((kup mu 34 0 0) 34 12).toNatClampNeg p0) 34 12).toNatClampNeg p1) 34 12) + 1))) := by
  have hq := h.1.1
  obtain ⟨g1, g2, g3, -⟩ := hq.1
  have bad : PI B cdI (2, 0, ka) (0, kup mu 34 0 2) := PI_bad h rfl (by decide)
  by_cases c1 : p1 < 1
  · rw [if_pos c1, if_pos c1]; exact bad
  rw [if_neg c1, if_neg c1]
  by_cases c2 : (100 : Int32) < p1
  · rw [if_pos c2, if_pos c2]; exact bad
  rw [if_neg c2, if_neg c2]
  by_cases c3 : mu 34 12 = 12
  · rw [if_neg (by rw [g1, c3]; decide), if_pos c3]; exact bad
  have c4 : ka 0 5 < 12 := by
    rw [← g1, ki_eq, show (12 : Int32).toInt = 12 from rfl] at c3
    rw [ki_lt, show (12 : Int32).toInt = 12 from rfl]
    omega
  rw [if_pos c4, if_neg c3]
  rw [ki_lt, show (12 : Int32).toInt = 12 from rfl] at c4
  rw [ki_lt, show (1 : Int32).toInt = 1 from rfl] at c1
  rw [ki_lt, show (100 : Int32).toInt = 100 from rfl] at c2
  obtain ⟨n, hn, hn1⟩ := nI_get (x := ka 0 5) (n := 12) (vp_in_iff.mpr (by omega)) (by omega)
  have hm1 : mu 34 12 = nI n := g1.symm.trans hn1
  have hw := Rq_win (t := p1) (p := p0) (Rq_m34 (k := 0) (v := 0) hq (Or.inl rfl)) (by rw [kup_j (by decide)]; exact hs) hn (by rw [kup_j (by decide)]; exact hm1) hp (by omega) (by omega)
  simp only [kup_j (show (12 : Nat) ≠ 0 by decide), kup_r (show (34 : Nat) ≠ 46 by decide), kup_r (show (34 : Nat) ≠ 47 by decide), kup_r (show (0 : Nat) ≠ 4 by decide), kup_r (show (0 : Nat) ≠ 5 by decide), kup_j (show (6 : Nat) ≠ 5 by decide), kup_j (show (5 : Nat) ≠ 6 by decide), kup_at, hn1, hm1, nI_clamp (show n < 2 ^ 31 by omega)]
  refine PI_mk ?_ (fun _ => rfl) (RV_kup h hw ?_ ?_ ?_)
  · rw [kup_j (by decide), kup_r (by decide), kup_r (by decide), kup_at]; rfl
  · rw [kup_j (by decide), kup_j (by decide), kup_r (by decide), kup_r (by decide)]
  · rw [kup_j (by decide), kup_r (by decide), kup_r (by decide), kup_j (by decide)]
  · exact mSu_n (mSu_n (mSu_n (mSu_n mSu_refl (by decide)) (by decide)) (by decide)) (by decide)
theorem win_ok {B : Int} {ka mu : kM} {p0 p1 : Int32} (h : RV B ka mu) : PI B cdI (f_X2_window ka p0 p1) (f_X3_window mu p0 p1) := by
  have hq := h.1.1
  have h7 : ka 0 7 = mu 34 24 := hq.1.2.2.2.2.1
  rw [f_X2_window, f_X3_window, f_X2_refuseIfSealed, h7]
  by_cases hs : mu 34 24 = 0
  · rw [if_pos hs, if_pos rfl, if_pos hs]
    by_cases c : p0 = -1
    · rw [if_pos c, if_pos c]; exact win_tail h hs (Or.inl c)
    · rw [if_neg c, if_neg c, told_eq hq]
      by_cases c3 : f_X3_isTold mu p0 = 0
      · rw [if_pos c3, if_neg (by decide), if_pos c3]; exact PI_bad h rfl (by decide)
      · rw [if_neg c3, if_pos rfl, if_neg c3]
        obtain ⟨j, hj, hj2⟩ := told_get c3
        exact win_tail h hs (Or.inr (by rw [hj2, vp_in_iff, nI_toInt (by omega)]; omega))
  · rw [if_neg hs, if_neg (by decide), if_neg hs]; exact PI_bad h rfl (by decide)
