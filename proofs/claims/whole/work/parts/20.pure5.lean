theorem kin_addr {ka : kM} {p i : Int32} (hI : kInv ka) (h : (f_X2_addressOf ka p i).1 = 0) : vp_in (f_X2_addressOf ka p i).2 512 := by
  unfold f_X2_addressOf at h ⊢
  by_cases h1 : f_X2_refuseUnlessTold ka p = 0
  · rw [if_pos h1] at h ⊢
    by_cases h2 : f_X1_holds ka p.toNatClampNeg i = 0
    · rw [if_pos h2] at h; exact absurd h (by decide)
    · rw [if_neg h2]
      exact kin_mem (hI.2.2.1 _ (kx_lt (kin_told h1))) h2
  · rw [if_neg h1] at h; exact absurd h h1
theorem inv_of {a b : kM} (h : kSm a b) (hI : kInv a) : kInv b := by
  obtain ⟨h1, h2, h3, h4, h5, h6, h7, h8, h9⟩ := h
  obtain ⟨g1, g2, g3, g4, g5⟩ := hI
  refine ⟨by rw [h1]; exact g1, fun i hi => by rw [h7]; exact g2 i hi, fun j hj => ?_, by rw [h2]; exact g4, by rw [h2]; exact g5⟩
  unfold kB
  rw [(h9 j hj).1, (h9 j hj).2.1]
  exact g3 j hj
theorem inv_up0 {a : kM} {k : Nat} {v : Int32} (h8 : k ≠ 8) (h5 : k ≠ 5) (hI : kInv a) : kInv (kup a 0 k v) := by
  obtain ⟨g1, g2, g3, g4, g5⟩ := hI
  refine ⟨by rw [kup_j (Ne.symm h8)]; exact g1, fun i hi => by rw [kup_r (by decide)]; exact g2 i hi, fun j hj => kB_up0 (g3 j hj), by rw [kup_j (Ne.symm h5)]; exact g4, by rw [kup_j (Ne.symm h5)]; exact g5⟩
theorem inv_up8 {a : kM} {v : Int32} (hv : vp_in v 12) (hI : kInv a) : kInv (kup a 0 8 v) := by
  obtain ⟨g1, g2, g3, g4, g5⟩ := hI
  refine ⟨by rw [kup_at]; exact hv, fun i hi => by rw [kup_r (by decide)]; exact g2 i hi, fun j hj => kB_up0 (g3 j hj), by rw [kup_j (by decide)]; exact g4, by rw [kup_j (by decide)]; exact g5⟩
theorem inv_up88 {a : kM} {v w : Int32} (hw : vp_in w 12) (hI : kInv a) : kInv (kup (kup a 0 8 v) 0 8 w) := by
  obtain ⟨g1, g2, g3, g4, g5⟩ := hI
  refine ⟨by rw [kup_at]; exact hw, fun i hi => by rw [kup_r (by decide), kup_r (by decide)]; exact g2 i hi, fun j hj => kB_up0 (kB_up0 (g3 j hj)), by rw [kup_j (by decide), kup_j (by decide)]; exact g4, by rw [kup_j (by decide), kup_j (by decide)]; exact g5⟩
theorem inv_move {a : kM} (hI : kInv a) : kInv (f_X2_moveWindowOn a) := by
  have hA := inv_up0 (k := 9) (v := a 0 9 + 1) (by decide) (by decide) hI
  have hC := inv_up0 (k := 10) (v := 0) (by decide) (by decide) (inv_up0 (k := 9) (v := 0) (by decide) (by decide) hA)
  unfold f_X2_moveWindowOn
  generalize kup (kup (kup a 0 9 (a 0 9 + 1)) 0 9 0) 0 10 0 = b at hC ⊢
  by_cases h1 : kup a 0 9 (a 0 9 + 1) 5 (kup a 0 9 (a 0 9 + 1) 0 8).toNatClampNeg ≤ kup a 0 9 (a 0 9 + 1) 0 9
  · rw [if_pos h1]
    by_cases h2 : kup b 0 8 (b 0 8 + 1) 0 8 < kup b 0 8 (b 0 8 + 1) 0 5
    · rw [if_pos h2]
      refine inv_up8 ?_ hC
      have g := hC.1
      have g5 := hC.2.2.2
      rw [vp_in_iff] at g ⊢
      rw [kup_at, kup_j (by decide), ki_lt] at h2
      have hh := ki_add1 (x := b 0 8) (by omega)
      rw [hh] at h2 ⊢
      omega
    · rw [if_neg h2]
      exact inv_up88 (by rw [vp_in_iff]; decide) hC
  · rw [if_neg h1]; exact hA
theorem inv_tick {a : kM} (hI : kInv a) : kInv (f_X2_goOneTick a).2 := by
  have hA := inv_up0 (k := 11) (v := a 0 11 + 1) (by decide) (by decide) hI
  have hR : ∀ q : Int32, kInv (f_X2_runInstruction (kup a 0 11 (a 0 11 + 1)) q) := fun q => inv_of (kSm_run kSm_refl) hA
  have h2 : ∀ {c : Prop} [Decidable c] {x y : Int32 × kM}, kInv x.2 → kInv y.2 → kInv (if c then x else y).2 := by
    intro c _ x y hx hy
    by_cases h : c
    · rw [if_pos h]; exact hx
    · rw [if_neg h]; exact hy
  unfold f_X2_goOneTick
  repeat' first | (with_reducible exact inv_move hA) | (with_reducible exact inv_move (hR _)) | (with_reducible refine h2 ?_ ?_)
