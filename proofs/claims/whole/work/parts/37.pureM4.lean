theorem age_fr {r j : Nat} (h : r ≠ 54) : ∀ {n : Nat} {c : Int32} {mu : kM}, f_X3_age_lp n c mu r j = mu r j := by
  intro n
  induction n with
  | zero => intro c mu; rw [f_X3_age_lp]
  | succ n ih =>
    intro c mu
    rw [f_X3_age_lp]
    repeat' first | (with_reducible exact ih.trans (kup_r h)) | split
theorem mB_age {mu : kM} {n j : Nat} {c : Int32} (hB : mB mu j) : mB (f_X3_age_lp n c mu) j := by
  unfold mB; rw [age_fr (by decide), age_fr (by decide)]; exact hB
theorem mC_age {mu : kM} {n : Nat} {c : Int32} (hC : mC mu) : mC (f_X3_age_lp n c mu) := by
  intro k hk; rw [age_fr (by decide), age_fr (by decide)]; exact hC k hk
theorem m_who {mu : kM} {n : Nat} {c : Int32} (hI : mInv mu) (h : ¬ f_X3_age_lp n c mu 46 (f_X3_age_lp n c mu 34 25).toNatClampNeg < 0) : vp_in (f_X3_age_lp n c mu 46 (f_X3_age_lp n c mu 34 25).toNatClampNeg) 6 := by
  rw [age_fr (by decide), age_fr (by decide)] at h ⊢
  have h1 := hI.2.2.2.2.2.1 _ (kx_lt hI.2.2.2.2.1)
  rw [ki_lt, show (0 : Int32).toInt = 0 from rfl] at h
  rw [vp_in_iff]; omega
theorem m_rem {a w a' w' : Int32} (ha : a = a') (hw : w = w') (h1 : vp_in a' 12) (h2 : ¬ w' = 0) (h3 : 0 ≤ w'.toInt) (h4 : w'.toInt ≤ 12) : vp_in (a + 1 - (a + 1) / w * w) 12 := by
  subst ha; subst hw
  obtain ⟨i, hi, rfl⟩ := vp_in_of h1 (by decide)
  obtain ⟨d, hd, rfl⟩ := nI_of (x := w) (by rw [ki_lt, show (0 : Int32).toInt = 0 from rfl]; omega)
  rw [nI_toInt hd] at h4
  have hd0 : 0 < d := by
    rcases Nat.eq_zero_or_pos d with h | h
    · subst h; exact absurd rfl h2
    · exact h
  rw [nI_1, pk_rem (by omega) hd0 hd]
  have := Nat.mod_lt (i + 1) hd0
  exact vp_in_nI (by omega) (by decide)
