/-! ===== channels that were not told have nothing ===== -/
def RU (mu : kM) : Prop := ∀ c, c < 8 → mu 48 c = 0 → mu 51 c = 0 ∧ mu 53 c = 0
def mSu (a b : kM) : Prop := (∀ c, b 48 c = a 48 c) ∧ (∀ c, b 51 c = a 51 c) ∧ (∀ c, a 48 c = 0 → b 53 c = a 53 c)
theorem mSu_refl {a : kM} : mSu a a := ⟨fun _ => rfl, fun _ => rfl, fun _ _ => rfl⟩
theorem mSu_up {a b : kM} {r j : Nat} {v : Int32} (h : mSu a b) (k : r ≠ 48 ∧ r ≠ 51 ∧ (r = 53 → ¬ a 48 j = 0)) : mSu a (kup b r j v) := by
  refine ⟨fun c => by rw [kup_r (Ne.symm k.1)]; exact h.1 c, fun c => by rw [kup_r (Ne.symm k.2.1)]; exact h.2.1 c, fun c hc => ?_⟩
  rw [kup_eq, if_neg]
  · exact h.2.2 c hc
  · intro q
    exact k.2.2 q.1.symm (by rw [← q.2]; exact hc)
theorem mSu_ite {a : kM} {c : Prop} [Decidable c] {x y : kM} (h1 : mSu a x) (h2 : mSu a y) : mSu a (if c then x else y) := by
  by_cases h : c
  · rw [if_pos h]; exact h1
  · rw [if_neg h]; exact h2
theorem mSu_34 {a b : kM} {j : Nat} {v : Int32} (h : mSu a b) : mSu a (kup b 34 j v) := mSu_up h ⟨by decide, by decide, fun q => absurd q (by decide)⟩
theorem mSu_n {a b : kM} {r j : Nat} {v : Int32} (h : mSu a b) (k : r ≠ 48 ∧ r ≠ 51 ∧ r ≠ 53) : mSu a (kup b r j v) := mSu_up h ⟨k.1, k.2.1, fun q => absurd q k.2.2⟩
theorem mSu_53 {a b : kM} {j : Nat} {v : Int32} (h : mSu a b) (k : ¬ a 48 j = 0) : mSu a (kup b 53 j v) := mSu_up h ⟨by decide, by decide, fun _ => k⟩
theorem mSu_send {a b : kM} {p v w c : Int32} (h : mSu a b) : mSu a (f_X3_send b p v w c) := by
  rw [f_X3_send]
  by_cases h1 : c < 0
  · rw [if_pos h1]; exact mSu_34 h
  · rw [if_neg h1]
    by_cases h2 : (7 : Int32) < c
    · rw [if_pos h2]; exact mSu_34 h
    · rw [if_neg h2]
      by_cases h3 : b 48 c.toNatClampNeg = 0
      · rw [if_pos h3]; exact mSu_34 h
      · rw [if_neg h3]
        have h4 : ¬ a 48 c.toNatClampNeg = 0 := by rw [← h.1]; exact h3
        repeat' first | (with_reducible exact h) | (with_reducible refine mSu_ite ?_ ?_) | (with_reducible refine mSu_53 ?_ h4) | (with_reducible refine mSu_n ?_ (by decide))
theorem mSu_takelp {a : kM} {c : Int32} : ∀ (n : Nat) (k : Int32) (b : kM), mSu a b → mSu a (f_X3_take_lp c n k b) := by
  intro n
  induction n with
  | zero => intro k b h; rw [f_X3_take_lp]; exact h
  | succ n ih => intro k b h; rw [f_X3_take_lp]; exact ih _ _ (mSu_n h (by decide))
theorem mSu_take {a b : kM} {p v w c : Int32} (h : mSu a b) : mSu a (f_X3_take b p v w c) := by
  rw [f_X3_take]
  by_cases h1 : c < 0
  · rw [if_pos h1]; exact mSu_34 h
  · rw [if_neg h1]
    by_cases h2 : (7 : Int32) < c
    · rw [if_pos h2]; exact mSu_34 h
    · rw [if_neg h2]
      by_cases h3 : b 48 c.toNatClampNeg = 0
      · rw [if_pos h3]; exact mSu_34 h
      · rw [if_neg h3]
        have h4 : ¬ a 48 c.toNatClampNeg = 0 := by rw [← h.1]; exact h3
        repeat' first | (with_reducible exact h) | (with_reducible refine mSu_ite ?_ ?_) | (with_reducible refine mSu_takelp _ _ _ ?_) | (with_reducible refine mSu_53 ?_ h4) | (with_reducible refine mSu_n ?_ (by decide))
theorem mSu_act {a b : kM} {p w : Int32} (h : mSu a b) : mSu a (f_X3_act b p w) := by
  unfold f_X3_act
  repeat' first | (with_reducible exact h) | (with_reducible refine mSu_ite ?_ ?_) | (with_reducible refine mSu_n ?_ (by decide)) | (with_reducible refine mSu_send ?_) | (with_reducible refine mSu_take ?_)
theorem mSu_ins {a b : kM} {p : Int32} (h : mSu a b) : mSu a (f_X3_instruction b p) := by
  unfold f_X3_instruction
  repeat' first | (with_reducible exact h) | (with_reducible refine mSu_ite ?_ ?_) | (with_reducible refine mSu_n ?_ (by decide)) | (with_reducible refine mSu_act ?_)
theorem RU_of {a b : kM} (h : RU a) (k : mSu a b) : RU b := by
  intro c hc h0
  rw [k.1] at h0
  rw [k.2.1, k.2.2 c h0]
  exact h c hc h0
theorem mSu_mv {a b : kM} (h : mSu a b) : mSu a (m_mv b) := by
  unfold m_mv
  repeat' first | (with_reducible exact h) | (with_reducible refine mSu_ite ?_ ?_) | (with_reducible refine mSu_n ?_ (by decide))
theorem mSu_age {a : kM} {n : Nat} {c : Int32} : mSu a (f_X3_age_lp n c a) := ⟨fun _ => age_fr (by decide), fun _ => age_fr (by decide), fun _ _ => age_fr (by decide)⟩
theorem mSu_tr {a b c : kM} (h : mSu a b) (k : mSu b c) : mSu a c := ⟨fun i => (k.1 i).trans (h.1 i), fun i => (k.2.1 i).trans (h.2.1 i), fun i q => (k.2.2 i (by rw [h.1]; exact q)).trans (h.2.2 i q)⟩
theorem mSu_ite2 {a : kM} {c : Prop} [Decidable c] {x y : Int32 × kM} (h1 : mSu a x.2) (h2 : mSu a y.2) : mSu a (if c then x else y).2 := by
  by_cases h : c
  · rw [if_pos h]; exact h1
  · rw [if_neg h]; exact h2
theorem mSu_tick {a : kM} : mSu a (f_X3_tick a).2 := by
  rw [tick_eq]
  have h := mSu_age (a := a) (n := 8) (c := 0)
  have i0 : mSu a (m_mv (f_X3_age_lp 8 0 a)) := mSu_mv h
  exact mSu_ite2 i0 (mSu_ite2 (mSu_ite2 (mSu_mv (mSu_ins h)) i0) i0)
theorem mSu_steplp : ∀ (n : Nat) (a : kM) (b : Int32), mSu a (f_X3_step_lp n a b).2 := by
  intro n
  induction n with
  | zero => intro a b; rw [f_X3_step_lp]; exact mSu_refl
  | succ n ih => intro a b; rw [f_X3_step_lp]; exact mSu_ite2 (mSu_tr mSu_tick (ih _ _)) (mSu_tr mSu_tick (ih _ _))
def RV (B : Int) (ka mu : kM) : Prop := RR B ka mu ∧ RU mu
theorem RV_thr {B : Int} {ka mu : kM} {v : Int32} (h : RV B ka mu) : RV B ka (kup mu 34 0 v) := ⟨⟨Rq_m34 h.1.1 (Or.inl rfl), by rw [kup_j (by decide)]; exact h.1.2.1, h.1.2.2⟩, RU_of h.2 (mSu_34 mSu_refl)⟩
theorem RV_mono {B B' : Int} {ka mu : kM} (h : RV B ka mu) (hB : B ≤ B') : RV B' ka mu := ⟨⟨h.1.1, h.1.2.1, Int.le_trans h.1.2.2 hB⟩, h.2⟩
theorem RV_kup {B : Int} {ka ka' mu mu' : kM} (h : RV B ka mu) (hq : Rq ka' mu') (e : ka' 0 11 = ka 0 11) (f : mu' 34 28 = mu 34 28) (hu : mSu mu mu') : RV B ka' mu' := ⟨⟨hq, by rw [e, f]; exact h.1.2.1, by rw [e]; exact h.1.2.2⟩, RU_of h.2 hu⟩
/-- a call without an answer; one with an answer -/
def PV (B : Int) (cd : Nat → Int32) (P : Nat × kM) (M : kM) : Prop := M 34 0 = cd P.1 ∧ RV B P.2 M
def PI (B : Int) (cd : Nat → Int32) (P : Nat × Int32 × kM) (M : Int32 × kM) : Prop := M.2 34 0 = cd P.1 ∧ (P.1 = 0 → P.2.1 = M.1) ∧ RV B P.2.2 M.2
theorem PV_mk {B : Int} {cd : Nat → Int32} {n : Nat} {K M : kM} (h1 : M 34 0 = cd n) (h2 : RV B K M) : PV B cd (n, K) M := ⟨h1, h2⟩
theorem PI_mk {B : Int} {cd : Nat → Int32} {n : Nat} {x y : Int32} {K M : kM} (h1 : M 34 0 = cd n) (h2 : n = 0 → x = y) (h3 : RV B K M) : PI B cd (n, x, K) (y, M) := ⟨h1, h2, h3⟩
theorem PV_bad {B : Int} {cd : Nat → Int32} {ka mu : kM} {n : Nat} {v : Int32} (h : RV B ka mu) (hv : cd n = v) : PV B cd (n, ka) (kup mu 34 0 v) := ⟨by rw [kup_at]; exact hv.symm, RV_thr h⟩
theorem PI_bad {B : Int} {cd : Nat → Int32} {ka mu : kM} {n : Nat} {v x y : Int32} (h : RV B ka mu) (hv : cd n = v) (hn : ¬ n = 0) : PI B cd (n, x, ka) (y, kup mu 34 0 v) := ⟨by show kup mu 34 0 v 34 0 = _; rw [kup_at]; exact hv.symm, fun q => absurd q hn, RV_thr h⟩
theorem PI_get {B : Int} {cd : Nat → Int32} {ka mu : kM} {x y : Int32} (h : RV B ka mu) (hv : cd 0 = 0) (e : x = y) : PI B cd (0, x, ka) (y, kup mu 34 0 0) := ⟨by show kup mu 34 0 0 34 0 = _; rw [kup_at]; exact hv.symm, fun _ => e, RV_thr h⟩
theorem told_j {ka mu : kM} {j : Nat} (h : Rq ka mu) (hj : j < 6) : f_X1_isTold ka j = f_X3_isTold mu (nI j) := by
  obtain ⟨g1, g2, g3, -⟩ := h.2.2.1 j hj
  rw [f_X1_isTold, f_X3_isTold, if_neg (nI_pos (by omega)), if_neg (show ¬ (6 : Int32) ≤ nI j from nI_ge (b := 6) hj (by omega)), nI_clamp (by omega), g1]
  by_cases q : mu 39 j = 0
  · rw [if_pos q, if_pos (by rw [q]; decide)]
  · rw [if_neg q, if_neg]
    rw [ki_le, show (0 : Int32).toInt = 0 from rfl]
    rw [ki_eq, show (0 : Int32).toInt = 0 from rfl] at q
    omega
theorem told_eq {ka mu : kM} (h : Rq ka mu) (p : Int32) : f_X2_refuseUnlessTold ka p = if f_X3_isTold mu p = 0 then 2 else 0 := by
  rw [f_X2_refuseUnlessTold]
  by_cases h1 : p < 0
  · rw [f_X3_isTold, if_pos h1, if_pos h1, if_pos rfl]
  · by_cases h2 : (6 : Int32) ≤ p
    · rw [f_X3_isTold, if_neg h1, if_neg h1, if_pos h2, if_pos h2, if_pos rfl]
    · obtain ⟨j, hj, rfl⟩ := nI_get (kin_of (n := 6) rfl h1 h2) (by omega)
      rw [if_neg h1, if_neg h2, nI_clamp (by omega), told_j h hj]
theorem told_get {mu : kM} {p : Int32} (h : ¬ f_X3_isTold mu p = 0) : ∃ j, j < 6 ∧ p = nI j := by
  rw [f_X3_isTold] at h
  by_cases h1 : p < 0
  · rw [if_pos h1] at h; exact absurd rfl h
  · rw [if_neg h1] at h
    by_cases h2 : (6 : Int32) ≤ p
    · rw [if_pos h2] at h; exact absurd rfl h
    · exact nI_get (kin_of (n := 6) rfl h1 h2) (by omega)
theorem shareslp_eq {ka mu : kM} (h : Rq ka mu) {x y : Int32} : ∀ (n k : Nat), k + n = 6 → f_X2_sharesWord_lp ka x y n (nI k) = f_X3_shares_lp mu x y n (nI k) := by
  intro n
  induction n with
  | zero => intro k _; rw [f_X2_sharesWord_lp, f_X3_shares_lp]
  | succ n ih =>
    intro k hk
    obtain ⟨g1, g2, g3, g4, g5, -⟩ := h.2.2.1 k (by omega)
    rw [f_X2_sharesWord_lp, f_X3_shares_lp, f_X1_meets, nI_clamp (by omega), ← nI_succ, ih (k + 1) (by omega), g4, g5, f_X1_isTold, g1]
    by_cases q : mu 39 k = 0
    · rw [if_pos q, if_pos rfl, if_pos rfl, if_pos (by rw [q]; decide)]
    · have q2 : ¬ mu 39 k ≤ 0 := by
        rw [ki_le, show (0 : Int32).toInt = 0 from rfl]
        rw [ki_eq, show (0 : Int32).toInt = 0 from rfl] at q
        omega
      rw [if_neg q, if_neg (show ¬ (1 : Int32) = 0 by decide), if_neg q2]
      by_cases q3 : mu 36 k + mu 37 k ≤ x
      · rw [if_pos q3, if_pos rfl, if_pos q3]
      · rw [if_neg q3, if_neg q3]
        by_cases q4 : x + y ≤ mu 36 k
        · rw [if_pos q4, if_pos rfl, if_pos q4]
        · rw [if_neg q4, if_neg (show ¬ (1 : Int32) = 0 by decide), if_neg q4]
theorem shares_eq {ka mu : kM} (h : Rq ka mu) {x y : Int32} : f_X2_sharesWord ka x y = f_X3_shares mu x y := shareslp_eq h 6 0 (by omega)
theorem Rq_part {ka mu ka' mu' : kM} {j : Nat} (h : Rq ka mu) (hj : j < 6) (e : ∀ r k, r ≠ j + 6 → ka' r k = ka r k) (f : ∀ r k, (r < 36 ∨ 45 < r ∨ r = 41) → mu' r k = mu r k) (f2 : ∀ r k, 36 ≤ r → r ≤ 45 → r ≠ 41 → k ≠ j → mu' r k = mu r k) (hR : Rp ka' mu' j) : Rq ka' mu' := by
  obtain ⟨h1, h2, h3, h4, h5, h6⟩ := h
  have e0 : ∀ k, ka' 0 k = ka 0 k := fun k => e 0 k (by omega)
  refine ⟨Rs_of h1 e0 (fun _ => e _ _ (by omega)) (fun _ => e _ _ (by omega)) (f _ _ (by omega)) (f _ _ (by omega)) (f _ _ (by omega)) (f _ _ (by omega)) (f _ _ (by omega)) (fun _ => f _ _ (by omega)) (fun _ => f _ _ (by omega)), fun i => by rw [e _ _ (by omega), f _ _ (by omega)]; exact h2 i, fun i hi => ?_, fun d hd => by rw [e0]; exact Rc_of (h4 d hd) (fun _ => e _ _ (by omega)) (fun _ => e _ _ (by omega)) (fun r _ _ _ => f _ _ (by omega)) (fun _ _ => f _ _ (by omega)), by rw [e0]; exact h5, by rw [e0]; exact h6⟩
  by_cases q : i = j
  · subst q; exact hR
  · exact Rp_of (h3 i hi) (fun _ => e _ _ (by omega)) (fun _ => e _ _ (by omega)) (fun r g1 g2 g3 => f2 _ _ g1 g2 g3 q) (fun k hk => f _ _ (by omega))
theorem Rq_tell {ka mu : kM} {j : Nat} {p1 p2 p3 p4 : Int32} (h : Rq ka mu) (hj : j < 6) (h1 : 0 ≤ p1.toInt) (h2 : 0 ≤ p2.toInt) (h3 : p1.toInt + p2.toInt ≤ 512) : Rq (f_X1_tell ka j p1 p2 p3 p4) (kup (kup (kup (kup (kup (kup mu 36 j p1) 37 j p2) 38 j p3) 40 j p3) 43 j p4) 39 j 1) := by
  obtain ⟨g1, g2, g3, g4, g5, g6, g7, g8, g9, g10, g11, g12, g13⟩ := h.2.2.1 j hj
  rw [f_X1_tell]
  refine Rq_part h hj (fun r k q => by rw [kup_r q, kup_r q, kup_r q, kup_r q, kup_r q, kup_r q]) (fun r k q => by rw [kup_r (by omega), kup_r (by omega), kup_r (by omega), kup_r (by omega), kup_r (by omega), kup_r (by omega)]) (fun r k _ _ _ q => by rw [kup_j q, kup_j q, kup_j q, kup_j q, kup_j q, kup_j q]) ?_
  unfold Rp kB
  simp only [kup_at, kup_j (show (1 : Nat) ≠ 7 by decide), kup_j (show (1 : Nat) ≠ 5 by decide), kup_j (show (1 : Nat) ≠ 4 by decide), kup_j (show (1 : Nat) ≠ 3 by decide), kup_j (show (1 : Nat) ≠ 2 by decide), kup_j (show (2 : Nat) ≠ 7 by decide), kup_j (show (2 : Nat) ≠ 5 by decide), kup_j (show (2 : Nat) ≠ 4 by decide), kup_j (show (2 : Nat) ≠ 3 by decide), kup_j (show (3 : Nat) ≠ 7 by decide), kup_j (show (3 : Nat) ≠ 5 by decide), kup_j (show (3 : Nat) ≠ 4 by decide), kup_j (show (4 : Nat) ≠ 7 by decide), kup_j (show (4 : Nat) ≠ 5 by decide), kup_j (show (5 : Nat) ≠ 7 by decide), kup_j (show (6 : Nat) ≠ 7 by decide), kup_j (show (6 : Nat) ≠ 5 by decide), kup_j (show (6 : Nat) ≠ 4 by decide), kup_j (show (6 : Nat) ≠ 3 by decide), kup_j (show (6 : Nat) ≠ 2 by decide), kup_j (show (6 : Nat) ≠ 1 by decide), kup_j (show (8 : Nat) ≠ 7 by decide), kup_j (show (8 : Nat) ≠ 5 by decide), kup_j (show (8 : Nat) ≠ 4 by decide), kup_j (show (8 : Nat) ≠ 3 by decide), kup_j (show (8 : Nat) ≠ 2 by decide), kup_j (show (8 : Nat) ≠ 1 by decide), kup_j (show (9 : Nat) ≠ 7 by decide), kup_j (show (9 : Nat) ≠ 5 by decide), kup_j (show (9 : Nat) ≠ 4 by decide), kup_j (show (9 : Nat) ≠ 3 by decide), kup_j (show (9 : Nat) ≠ 2 by decide), kup_j (show (9 : Nat) ≠ 1 by decide), kup_r (show j + 12 ≠ j + 6 by omega), kup_r (show (36 : Nat) ≠ 37 by decide), kup_r (show (36 : Nat) ≠ 38 by decide), kup_r (show (36 : Nat) ≠ 40 by decide), kup_r (show (36 : Nat) ≠ 43 by decide), kup_r (show (36 : Nat) ≠ 39 by decide), kup_r (show (37 : Nat) ≠ 38 by decide), kup_r (show (37 : Nat) ≠ 40 by decide), kup_r (show (37 : Nat) ≠ 43 by decide), kup_r (show (37 : Nat) ≠ 39 by decide), kup_r (show (38 : Nat) ≠ 40 by decide), kup_r (show (38 : Nat) ≠ 43 by decide), kup_r (show (38 : Nat) ≠ 39 by decide), kup_r (show (40 : Nat) ≠ 43 by decide), kup_r (show (40 : Nat) ≠ 39 by decide), kup_r (show (43 : Nat) ≠ 39 by decide), kup_r (show (41 : Nat) ≠ 36 by decide), kup_r (show (41 : Nat) ≠ 37 by decide), kup_r (show (41 : Nat) ≠ 38 by decide), kup_r (show (41 : Nat) ≠ 40 by decide), kup_r (show (41 : Nat) ≠ 43 by decide), kup_r (show (41 : Nat) ≠ 39 by decide), kup_r (show (42 : Nat) ≠ 36 by decide), kup_r (show (42 : Nat) ≠ 37 by decide), kup_r (show (42 : Nat) ≠ 38 by decide), kup_r (show (42 : Nat) ≠ 40 by decide), kup_r (show (42 : Nat) ≠ 43 by decide), kup_r (show (42 : Nat) ≠ 39 by decide), kup_r (show (44 : Nat) ≠ 36 by decide), kup_r (show (44 : Nat) ≠ 37 by decide), kup_r (show (44 : Nat) ≠ 38 by decide), kup_r (show (44 : Nat) ≠ 40 by decide), kup_r (show (44 : Nat) ≠ 43 by decide), kup_r (show (44 : Nat) ≠ 39 by decide), kup_r (show (45 : Nat) ≠ 36 by decide), kup_r (show (45 : Nat) ≠ 37 by decide), kup_r (show (45 : Nat) ≠ 38 by decide), kup_r (show (45 : Nat) ≠ 40 by decide), kup_r (show (45 : Nat) ≠ 43 by decide), kup_r (show (45 : Nat) ≠ 39 by decide)]
  exact ⟨trivial, by decide, by decide, trivial, trivial, trivial, trivial, g8, trivial, g10, g11, ⟨h1, h2, h3⟩, g13⟩
