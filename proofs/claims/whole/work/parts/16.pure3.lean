/-! ===== what an instruction leaves as it was ===== -/
def kSm (a b : kM) : Prop := b 0 8 = a 0 8 ∧ b 0 5 = a 0 5 ∧ b 0 6 = a 0 6 ∧ b 0 7 = a 0 7 ∧ b 0 9 = a 0 9 ∧ b 0 11 = a 0 11 ∧ (∀ i, b 4 i = a 4 i) ∧ (∀ i, b 5 i = a 5 i) ∧ ∀ j, j < 6 → b (j + 6) 2 = a (j + 6) 2 ∧ b (j + 6) 3 = a (j + 6) 3 ∧ b (j + 6) 4 = a (j + 6) 4
def kOk (r j : Nat) : Prop := (r = 0 → j = 10) ∧ r ≠ 4 ∧ r ≠ 5 ∧ (6 ≤ r → r < 12 → j ≠ 2 ∧ j ≠ 3 ∧ j ≠ 4)
theorem kSm_refl {a : kM} : kSm a a := ⟨rfl, rfl, rfl, rfl, rfl, rfl, fun _ => rfl, fun _ => rfl, fun _ _ => ⟨rfl, rfl, rfl⟩⟩
theorem kSm_up {a b : kM} {r j : Nat} {v : Int32} (h : kSm a b) (k : kOk r j) : kSm a (kup b r j v) := by
  obtain ⟨h1, h2, h3, h4, h5, h6, h7, h8, h9⟩ := h
  obtain ⟨k1, k2, k3, k4⟩ := k
  refine ⟨?_, ?_, ?_, ?_, ?_, ?_, fun i => ?_, fun i => ?_, fun i hi => ⟨?_, ?_, ?_⟩⟩
  · rw [kup_eq, if_neg (fun q => by have := k1 q.1.symm; omega)]; exact h1
  · rw [kup_eq, if_neg (fun q => by have := k1 q.1.symm; omega)]; exact h2
  · rw [kup_eq, if_neg (fun q => by have := k1 q.1.symm; omega)]; exact h3
  · rw [kup_eq, if_neg (fun q => by have := k1 q.1.symm; omega)]; exact h4
  · rw [kup_eq, if_neg (fun q => by have := k1 q.1.symm; omega)]; exact h5
  · rw [kup_eq, if_neg (fun q => by have := k1 q.1.symm; omega)]; exact h6
  · rw [kup_r (Ne.symm k2)]; exact h7 i
  · rw [kup_r (Ne.symm k3)]; exact h8 i
  · rw [kup_eq, if_neg (fun q => by have := k4 (by omega) (by omega); omega)]; exact (h9 i hi).1
  · rw [kup_eq, if_neg (fun q => by have := k4 (by omega) (by omega); omega)]; exact (h9 i hi).2.1
  · rw [kup_eq, if_neg (fun q => by have := k4 (by omega) (by omega); omega)]; exact (h9 i hi).2.2
theorem kSm_ite2 {a : kM} {c : Prop} [Decidable c] {x y : Int32 × kM} (h1 : kSm a x.2) (h2 : kSm a y.2) : kSm a (if c then x else y).2 := by
  by_cases h : c
  · rw [if_pos h]; exact h1
  · rw [if_neg h]; exact h2
theorem kSm_ite1 {a : kM} {c : Prop} [Decidable c] {x y : kM} (h1 : kSm a x) (h2 : kSm a y) : kSm a (if c then x else y) := by
  by_cases h : c
  · rw [if_pos h]; exact h1
  · rw [if_neg h]; exact h2
theorem kSm_fill {a b : kM} {j : Nat} {v : Int32} (h : kSm a b) : kSm a (f_J7_fill_53178 b j v) := by
  unfold f_J7_fill_53178
  repeat' first | (with_reducible exact h) | (with_reducible refine kSm_ite2 ?_ ?_) | (with_reducible refine kSm_ite1 ?_ ?_) | (with_reducible refine kSm_up ?_ (by unfold kOk; omega))
theorem kSm_put {a b : kM} {j : Nat} {v w : Int32} (h : kSm a b) : kSm a (f_X0_put b j v w).2 := by
  unfold f_X0_put
  repeat' first | (with_reducible exact h) | (with_reducible refine kSm_ite2 ?_ ?_) | (with_reducible refine kSm_ite1 ?_ ?_) | (with_reducible refine kSm_up ?_ (by unfold kOk; omega))
theorem kSm_drop {a b : kM} {j : Nat} (h : kSm a b) : kSm a (f_X0_dropTaken b j) := by
  unfold f_X0_dropTaken
  repeat' first | (with_reducible exact h) | (with_reducible refine kSm_ite2 ?_ ?_) | (with_reducible refine kSm_ite1 ?_ ?_) | (with_reducible refine kSm_up ?_ (by unfold kOk; omega))
theorem kSm_jump {a b : kM} {j : Nat} {v w : Int32} (h : kSm a b) : kSm a (f_X1_jumpIf b j v w) := by
  unfold f_X1_jumpIf
  repeat' first | (with_reducible exact h) | (with_reducible refine kSm_ite2 ?_ ?_) | (with_reducible refine kSm_ite1 ?_ ?_) | (with_reducible refine kSm_up ?_ (by unfold kOk; omega))
theorem kSm_restart {a b : kM} {j : Nat} {v : Int32} (h : kSm a b) : kSm a (f_X1_restartAfter b j v).2 := by
  unfold f_X1_restartAfter
  repeat' first | (with_reducible exact h) | (with_reducible refine kSm_ite2 ?_ ?_) | (with_reducible refine kSm_ite1 ?_ ?_) | (with_reducible refine kSm_up ?_ (by unfold kOk; omega)) | (with_reducible refine kSm_fill ?_)
theorem kSm_load {a b : kM} {j : Nat} {v w : Int32} (h : kSm a b) : kSm a (f_X2_load b j v w).2 := by
  unfold f_X2_load
  repeat' first | (with_reducible exact h) | (with_reducible refine kSm_ite2 ?_ ?_) | (with_reducible refine kSm_ite1 ?_ ?_) | (with_reducible refine kSm_up ?_ (by unfold kOk; omega))
theorem kSm_store {a b : kM} {j : Nat} {v w : Int32} (h : kSm a b) : kSm a (f_X2_store b j v w).2 := by
  unfold f_X2_store
  repeat' first | (with_reducible exact h) | (with_reducible refine kSm_ite2 ?_ ?_) | (with_reducible refine kSm_ite1 ?_ ?_) | (with_reducible refine kSm_up ?_ (by unfold kOk; omega))
theorem kSm_send {a b : kM} {p v w c : Int32} (h : kSm a b) : kSm a (f_X2_send b p v w c).2 := by
  unfold f_X2_send
  repeat' first | (with_reducible exact h) | (with_reducible refine kSm_ite2 ?_ ?_) | (with_reducible refine kSm_ite1 ?_ ?_) | (with_reducible refine kSm_up ?_ (by unfold kOk; omega)) | (with_reducible refine kSm_put ?_)
theorem kSm_take {a b : kM} {p v w c : Int32} (h : kSm a b) : kSm a (f_X2_take b p v w c).2 := by
  unfold f_X2_take
  repeat' first | (with_reducible exact h) | (with_reducible refine kSm_ite2 ?_ ?_) | (with_reducible refine kSm_ite1 ?_ ?_) | (with_reducible refine kSm_up ?_ (by unfold kOk; omega)) | (with_reducible refine kSm_drop ?_)
theorem kSm_perform {a b : kM} {p w : Int32} (h : kSm a b) : kSm a (f_X2_perform b p w).2 := by
  unfold f_X2_perform
  repeat' first | (with_reducible exact h) | (with_reducible refine kSm_ite2 ?_ ?_) | (with_reducible refine kSm_ite1 ?_ ?_) | (with_reducible refine kSm_up ?_ (by unfold kOk; omega)) | (with_reducible refine kSm_load ?_) | (with_reducible refine kSm_store ?_) | (with_reducible refine kSm_send ?_) | (with_reducible refine kSm_take ?_) | (with_reducible refine kSm_jump ?_)
theorem kSm_run {a b : kM} {p : Int32} (h : kSm a b) : kSm a (f_X2_runInstruction b p) := by
  unfold f_X2_runInstruction
  repeat' first | (with_reducible exact h) | (with_reducible refine kSm_ite2 ?_ ?_) | (with_reducible refine kSm_ite1 ?_ ?_) | (with_reducible refine kSm_up ?_ (by unfold kOk; omega)) | (with_reducible refine kSm_perform ?_) | (with_reducible refine kSm_restart ?_)
theorem fr_run08 {a : kM} {p : Int32} : f_X2_runInstruction a p 0 8 = a 0 8 := (kSm_run kSm_refl).1
theorem ki_add1 {x : Int32} (h : x.toInt < 2147483647) : (x + 1).toInt = x.toInt + 1 := by
  have := ki_lo x
  rw [ki_add (by rw [show (1 : Int32).toInt = 1 from rfl]; omega) (by rw [show (1 : Int32).toInt = 1 from rfl]; omega)]; rfl
