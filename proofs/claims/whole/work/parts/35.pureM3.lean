/-- where an instruction of the reference may write -/
def kOkM (r j : Nat) : Prop := r = 35 ∨ (39 ≤ r ∧ r ≤ 45) ∨ (52 ≤ r ∧ r ≤ 56) ∨ (r = 34 ∧ (j = 27 ∨ j = 29))
def mSm (a b : kM) : Prop := ∀ r j, ¬ kOkM r j → b r j = a r j
theorem mSm_refl {a : kM} : mSm a a := fun _ _ _ => rfl
theorem mSm_up {a b : kM} {r j : Nat} {v : Int32} (h : mSm a b) (k : kOkM r j) : mSm a (kup b r j v) := by
  intro r2 j2 h2
  rw [kup_eq, if_neg (fun q => h2 (by rw [q.1, q.2]; exact k))]
  exact h r2 j2 h2
theorem mSm_ite {a : kM} {c : Prop} [Decidable c] {x y : kM} (h1 : mSm a x) (h2 : mSm a y) : mSm a (if c then x else y) := by
  by_cases h : c
  · rw [if_pos h]; exact h1
  · rw [if_neg h]; exact h2
theorem mSm_send {a b : kM} {p v w c : Int32} (h : mSm a b) : mSm a (f_X3_send b p v w c) := by
  unfold f_X3_send
  repeat' first | (with_reducible exact h) | (with_reducible refine mSm_ite ?_ ?_) | (with_reducible refine mSm_up ?_ (by unfold kOkM; omega))
theorem mSm_takelp {a : kM} {c : Int32} : ∀ (n : Nat) (k : Int32) (b : kM), mSm a b → mSm a (f_X3_take_lp c n k b) := by
  intro n
  induction n with
  | zero => intro k b h; rw [f_X3_take_lp]; exact h
  | succ n ih => intro k b h; rw [f_X3_take_lp]; exact ih _ _ (mSm_up h (by unfold kOkM; omega))
theorem mSm_take {a b : kM} {p v w c : Int32} (h : mSm a b) : mSm a (f_X3_take b p v w c) := by
  unfold f_X3_take
  repeat' first | (with_reducible exact h) | (with_reducible refine mSm_ite ?_ ?_) | (with_reducible refine mSm_up ?_ (by unfold kOkM; omega)) | (with_reducible refine mSm_takelp _ _ _ ?_)
theorem mSm_act {a b : kM} {p w : Int32} (h : mSm a b) : mSm a (f_X3_act b p w) := by
  unfold f_X3_act
  repeat' first | (with_reducible exact h) | (with_reducible refine mSm_ite ?_ ?_) | (with_reducible refine mSm_up ?_ (by unfold kOkM; omega)) | (with_reducible refine mSm_send ?_) | (with_reducible refine mSm_take ?_)
theorem mSm_ins {a b : kM} {p : Int32} (h : mSm a b) : mSm a (f_X3_instruction b p) := by
  unfold f_X3_instruction
  repeat' first | (with_reducible exact h) | (with_reducible refine mSm_ite ?_ ?_) | (with_reducible refine mSm_up ?_ (by unfold kOkM; omega)) | (with_reducible refine mSm_act ?_)
theorem ins_fr {a : kM} {p : Int32} {r j : Nat} (h : ¬ kOkM r j) : f_X3_instruction a p r j = a r j := mSm_ins mSm_refl r j h
