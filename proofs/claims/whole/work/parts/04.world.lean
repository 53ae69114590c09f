/-! ===== the words of all tables that a call keeps; every method's list is its own code word and these ===== -/
def kAll : List Cond := lw_tbl.filter goodWord
theorem kmem {w : Cond} (i : Nat) (h : lw_tbl[i]? = some w) (g : goodWord w = true) : w ∈ kAll := List.mem_filter.mpr ⟨List.mem_of_getElem? h, g⟩
theorem kgw {w : Cond} (h : w ∈ kAll) : (w.onTables && w.keeps) = true ∨ ∃ ty, w = .arrayClass ty := good_of_word (List.mem_filter.mp h).2
theorem kgood {w c : Cond} (h : w ∈ kAll) : GoodIn (c :: kAll) (w :: kAll) := fun x hx => (List.mem_cons.mp hx).elim (fun e => by rw [e]; exact ⟨List.mem_cons_of_mem _ h, kgw h⟩) (fun q => ⟨List.mem_cons_of_mem _ q, kgw q⟩)
theorem kgood1 {big ws : List Cond} {w : Cond} (h : w ∈ kAll) (hb : ∀ x ∈ kAll, x ∈ big) (t : GoodIn big ws) : GoodIn big (w :: ws) := fun x hx => (List.mem_cons.mp hx).elim (fun e => by rw [e]; exact ⟨hb _ h, kgw h⟩) (t x)
theorem kgoodA {big : List Cond} (hb : ∀ x ∈ kAll, x ∈ big) : GoodIn big kAll := fun x hx => ⟨hb x hx, kgw hx⟩
theorem kgoodV {own C : String} {i n : Nat} {y : MethodName} {b : ByteArray} {r : Option FieldType} {big : List Cond} (hb : ∀ x ∈ kAll, x ∈ big) (h1 : Cond.methodLink own i y ∈ kAll) (h2 : Cond.instanceMethod y ∈ kAll) (h3 : Cond.selects C y y ∈ kAll) (h4 : Cond.initialized C ∈ kAll) (h5 : Cond.code y b n r ∈ kAll) :
    GoodIn big (wsV own i C y (Cond.code y b n r :: kAll)) := kgood1 h1 hb (kgood1 h2 hb (kgood1 h3 hb (kgood1 h4 hb (kgood1 h5 hb (kgoodA hb)))))
theorem kgoodS {own : String} {i : Nat} {y : MethodName} {w : Cond} {big : List Cond} (hb : ∀ x ∈ kAll, x ∈ big) (h1 : Cond.methodLink own i y ∈ kAll) (h2 : Cond.static y ∈ kAll) (h4 : Cond.initialized y.cls ∈ kAll) (h5 : w ∈ kAll) :
    GoodIn big (va_wsS own i y (w :: kAll)) := kgood1 h1 hb (kgood1 h2 hb (kgood1 h4 hb (kgood1 h5 hb (kgoodA hb))))
/-! ===== the state: two matrices (class, reference) and one number; rows are cells, columns slots ===== -/
abbrev kM : Type := Nat → Nat → Int32
def kup (s : kM) (r j : Nat) (v : Int32) : kM := va_up s r (upd (s r) j v)
theorem kup_at (s : kM) (r j : Nat) (v : Int32) : kup s r j v r j = v := by simp [kup, va_up, upd]
theorem kup_r {s : kM} {r j a b : Nat} {v : Int32} (h : a ≠ r) : kup s r j v a b = s a b := by simp [kup, va_up, h]
theorem kup_j {s : kM} {r j a b : Nat} {v : Int32} (h : b ≠ j) : kup s r j v a b = s a b := by
  by_cases e : a = r
  · subst e; simp [kup, va_up, upd, h]
  · simp [kup, va_up, e]
theorem kup_eq (s : kM) (r j : Nat) (v : Int32) (a b : Nat) : kup s r j v a b = if a = r ∧ b = j then v else s a b := by
  by_cases e : a = r
  · subst e
    by_cases f : b = j
    · subst f; simp [kup, va_up, upd]
    · simp [kup, va_up, upd, f]
  · simp [kup, va_up, e]
def kf2 (A : Nat → Nat) (f : Nat → Int32) : List Value := [.ref (A 1), .ref (A 2), .ref (A 3), .ref (A 4), .ref (A 5), .int (f 5), .int (f 6), .int (f 7), .int (f 8), .int (f 9), .int (f 10), .int (f 11)]
def kf1 (A : Nat → Nat) (r : Nat) (f : Nat → Int32) : List Value := [.ref (A (r + 6)), .int (f 1), .int (f 2), .int (f 3), .int (f 4), .int (f 5), .int (f 6), .int (f 7), .int (f 8), .int (f 9)]
def kf0 (A : Nat → Nat) (r : Nat) (f : Nat → Int32) : List Value := [.ref (A (r + 8)), .int (f 1), .int (f 2), .int (f 3), .int (f 4), .int (f 5), .int (f 6), .int (f 7), .int (f 8), .int (f 9)]
def kf3 (A : Nat → Nat) (f : Nat → Int32) : List Value := [.int (f 0), .ref (A 35), .ref (A 36), .ref (A 37), .ref (A 38), .ref (A 39), .ref (A 40), .ref (A 41), .ref (A 42), .ref (A 43), .ref (A 44), .ref (A 45), .int (f 12), .ref (A 46), .ref (A 47), .ref (A 48), .ref (A 49), .ref (A 50), .ref (A 51), .ref (A 52), .ref (A 53), .ref (A 54), .ref (A 55), .ref (A 56), .int (f 24), .int (f 25), .int (f 26), .int (f 27), .int (f 28), .int (f 29)]
def klens : List Nat := [0, 512, 0, 0, 12, 12, 0, 0, 0, 0, 0, 0, 4, 4, 4, 4, 4, 4, 0, 0, 0, 0, 0, 0, 0, 0, 8, 8, 8, 8, 8, 8, 8, 8, 0, 512, 6, 6, 6, 6, 6, 24, 6, 6, 6, 6, 12, 12, 8, 8, 8, 8, 64, 8, 8, 8, 8, 1]
def klen (k : Nat) : Nat := klens.getD k 0
def kc (A : Nat → Nat) (C : Nat → ClassId) (k : Nat) (f : Nat → Int32) : va_E :=
  if k = 0 then .inr (2, kf2 A f) else if k = 2 then .inl (C 2, 6, .inr (.inr (.inr (.inr (fun i => some (A (i + 6))))))) else if k = 3 then .inl (C 3, 8, .inr (.inr (.inr (.inr (fun i => some (A (i + 18)))))))
  else if 6 ≤ k ∧ k < 12 then .inr (1, kf1 A k f) else if 18 ≤ k ∧ k < 26 then .inr (0, kf0 A k f) else if k = 34 then .inr (3, kf3 A f) else if k = 48 then .inl (C 4, 8, .inl f)
  else if k = 57 then .inl (C 1, 1, .inr (.inl (fun j => (f j).toInt64))) else .inl (C 0, klen k, .inl f)
def krow (ka mu : kM) (o : Int32) (k : Nat) : Nat → Int32 := if k < 34 then ka k else if k < 57 then mu k else fun _ => o
def kw (A : Nat → Nat) (C : Nat → ClassId) (ka mu : kM) (o : Int32) : va_W := (List.range 58).map (fun k => (A k, kc A C k (krow ka mu o k)))
def kt (C : Nat → ClassId) : List (ClassId × FieldType) := [(C 0, .int), (C 1, .long), (C 2, .object RX1), (C 3, .object RX0), (C 4, .boolean)]
def kinj (A : Nat → Nat) : Prop := ∀ i j : Nat, i < 58 → j < 58 → A i = A j → i = j
def kA (A : Nat → Nat) (sz : Nat) : Nat → Prop := fun q => (∃ k : Nat, k < 58 ∧ q = A k) ∨ sz ≤ q
def kP (D : va_G) (A : Nat → Nat) (C : Nat → ClassId) (ka mu : kM) (o : Int32) (H : Heap) : Prop := va_P D vwCl (kw A C ka mu o) H
theorem kA_mono {A : Nat → Nat} {a b : Nat} (h : a ≤ b) (q : Nat) (hq : kA A b q) : kA A a q := hq.elim Or.inl (fun g => Or.inr (Nat.le_trans h g))
section KW0
variable {A : Nat → Nat} {C : Nat → ClassId} {ka mu : kM} {o : Int32} {f : Nat → Int32} {k j sz : Nat}
theorem kw_at (h : k < 58) : (kw A C ka mu o)[k]? = some (A k, kc A C k (krow ka mu o k)) := by
  simp [kw, h]
theorem kw_get {q : Nat × va_E} (h : (kw A C ka mu o)[k]? = some q) : k < 58 ∧ q = (A k, kc A C k (krow ka mu o k)) := by
  have hk : k < 58 := by
    have := (List.getElem?_eq_some_iff.mp h).1
    simpa [kw] using this
  rw [kw_at hk] at h
  exact ⟨hk, (Option.some.inj h).symm⟩
theorem kD (hA : kinj A) : va_D (kA A sz) (kw A C ka mu o) := by
  refine ⟨fun i j x y hx hy hxy => ?_, fun k q hk => ?_⟩
  · obtain ⟨hi, rfl⟩ := kw_get hx
    obtain ⟨hj, rfl⟩ := kw_get hy
    exact hA i j hi hj hxy
  · obtain ⟨hk9, rfl⟩ := kw_get hk
    exact Or.inl ⟨k, hk9, rfl⟩
theorem kw_ext {ws : va_W} (hl : ws.length = 58) (h : ∀ k, k < 58 → ws[k]? = some (A k, kc A C k (krow ka mu o k))) : ws = kw A C ka mu o := by
  apply List.ext_getElem?
  intro i
  by_cases hi : i < 58
  · rw [h i hi, kw_at hi]
  · rw [List.getElem?_eq_none (by omega), List.getElem?_eq_none (by simp [kw]; omega)]
theorem kw_len : (kw A C ka mu o).length = 58 := by simp [kw]
theorem kw_setK (hk : k < 34) : (kw A C ka mu o).set k (A k, kc A C k f) = kw A C (va_up ka k f) mu o := by
  refine kw_ext (by rw [List.length_set, kw_len]) (fun i hi => ?_)
  by_cases e : i = k
  · subst e
    rw [List.getElem?_set_self (by rw [kw_len]; exact hi)]
    simp [krow, hk, va_up]
  · rw [List.getElem?_set_ne (Ne.symm e), kw_at hi]
    simp [krow, va_up, e]
theorem kw_setM (h1 : 34 ≤ k) (h2 : k < 57) : (kw A C ka mu o).set k (A k, kc A C k f) = kw A C ka (va_up mu k f) o := by
  refine kw_ext (by rw [List.length_set, kw_len]) (fun i hi => ?_)
  by_cases e : i = k
  · subst e
    rw [List.getElem?_set_self (by rw [kw_len]; exact hi)]
    simp [krow, Nat.not_lt.mpr h1, h2, va_up]
  · rw [List.getElem?_set_ne (Ne.symm e), kw_at hi]
    simp [krow, va_up, e]
theorem kw_setO {x : Int32} : (kw A C ka mu o).set 57 (A 57, kc A C 57 (fun _ => x)) = kw A C ka mu x := by
  refine kw_ext (by rw [List.length_set, kw_len]) (fun i hi => ?_)
  by_cases e : i = 57
  · subst e
    rw [List.getElem?_set_self (by rw [kw_len]; exact hi)]
    simp [krow]
  · rw [List.getElem?_set_ne (Ne.symm e), kw_at hi]
    have : i < 57 := by omega
    simp [krow, this]
theorem kc_X2 : kc A C 0 f = .inr (2, kf2 A f) := rfl
theorem kc_X1 (h : j < 6) : kc A C (j + 6) f = .inr (1, kf1 A (j + 6) f) := by
  have h1 : ¬ (j + 6 = 0) := by omega
  have h2 : ¬ (j + 6 = 2) := by omega
  have h3 : ¬ (j + 6 = 3) := by omega
  have h4 : 6 ≤ j + 6 ∧ j + 6 < 12 := by omega
  unfold kc; rw [if_neg h1, if_neg h2, if_neg h3, if_pos h4]
theorem kc_X0 (h : j < 8) : kc A C (j + 18) f = .inr (0, kf0 A (j + 18) f) := by
  have h1 : ¬ (j + 18 = 0) := by omega
  have h2 : ¬ (j + 18 = 2) := by omega
  have h3 : ¬ (j + 18 = 3) := by omega
  have h4 : ¬ (6 ≤ j + 18 ∧ j + 18 < 12) := by omega
  have h5 : 18 ≤ j + 18 ∧ j + 18 < 26 := by omega
  unfold kc; rw [if_neg h1, if_neg h2, if_neg h3, if_neg h4, if_pos h5]
theorem kc_X3 : kc A C 34 f = .inr (3, kf3 A f) := rfl
/-- the rows that are arrays of ints, and how long -/
def kI (k n : Nat) : Prop := k ≠ 0 ∧ k ≠ 2 ∧ k ≠ 3 ∧ ¬ (6 ≤ k ∧ k < 12) ∧ ¬ (18 ≤ k ∧ k < 26) ∧ k ≠ 34 ∧ k ≠ 48 ∧ k < 57 ∧ klen k = n
theorem kc_I {n : Nat} (h : kI k n) : kc A C k f = .inl (C 0, n, .inl f) := by
  obtain ⟨h1, h2, h3, h4, h5, h6, h7, h8, h9⟩ := h
  unfold kc; rw [if_neg h1, if_neg h2, if_neg h3, if_neg h4, if_neg h5, if_neg h6, if_neg h7, if_neg (by omega), h9]
theorem kI_R (h : j < 6) : kI (j + 12) 4 := by
  refine ⟨by omega, by omega, by omega, by omega, by omega, by omega, by omega, by omega, ?_⟩
  rcases (show j = 0 ∨ j = 1 ∨ j = 2 ∨ j = 3 ∨ j = 4 ∨ j = 5 by omega) with rfl | rfl | rfl | rfl | rfl | rfl <;> rfl
theorem kI_W (h : j < 8) : kI (j + 26) 8 := by
  refine ⟨by omega, by omega, by omega, by omega, by omega, by omega, by omega, by omega, ?_⟩
  rcases (show j = 0 ∨ j = 1 ∨ j = 2 ∨ j = 3 ∨ j = 4 ∨ j = 5 ∨ j = 6 ∨ j = 7 by omega) with rfl | rfl | rfl | rfl | rfl | rfl | rfl | rfl <;> rfl
end KW0
