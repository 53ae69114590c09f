theorem kq_50 : Cond.classLink "PartitionKernelLaw" 8 "PartitionKernel" ∈ kAll := kmem 50 (by decide +kernel) (by decide +kernel)
theorem kq_51 : Cond.instantiable "PartitionKernel" 12 ∈ kAll := kmem 51 (by decide +kernel) (by decide +kernel)
theorem kq_52 : Cond.methodLink "PartitionKernelLaw" 51 ⟨"PartitionKernel", "<init>", "()V"⟩ ∈ kAll := kmem 52 (by decide +kernel) (by decide +kernel)
theorem kq_53 : Cond.instanceMethod ⟨"PartitionKernel", "<init>", "()V"⟩ ∈ kAll := kmem 53 (by decide +kernel) (by decide +kernel)
theorem kq_54 : Cond.code ⟨"PartitionKernel", "<init>", "()V"⟩ prog_1_method_1_code 2 (Option.none) ∈ kAll := kmem 54 (by decide +kernel) (by decide +kernel)
theorem kq_503 : Cond.classLink "PartitionKernelLaw" 52 "PartitionKernelModel" ∈ kAll := kmem 503 (by decide +kernel) (by decide +kernel)
theorem kq_504 : Cond.instantiable "PartitionKernelModel" 30 ∈ kAll := kmem 504 (by decide +kernel) (by decide +kernel)
theorem kq_505 : Cond.methodLink "PartitionKernelLaw" 54 ⟨"PartitionKernelModel", "<init>", "()V"⟩ ∈ kAll := kmem 505 (by decide +kernel) (by decide +kernel)
theorem kq_506 : Cond.instanceMethod ⟨"PartitionKernelModel", "<init>", "()V"⟩ ∈ kAll := kmem 506 (by decide +kernel) (by decide +kernel)
theorem kq_507 : Cond.code ⟨"PartitionKernelModel", "<init>", "()V"⟩ prog_5_method_1_code 1 (Option.none) ∈ kAll := kmem 507 (by decide +kernel) (by decide +kernel)
theorem kq_686 : Cond.arrayClass FieldType.long ∈ kAll := kmem 686 (by decide +kernel) (by decide +kernel)
/-! ===== the start: objects made, the world as one ===== -/
def kperm (k : Nat) : Nat := [0, 1, 2, 15, 32, 33, 3, 5, 7, 9, 11, 13, 4, 6, 8, 10, 12, 14, 16, 18, 20, 22, 24, 26, 28, 30, 17, 19, 21, 23, 25, 27, 29, 31, 34, 35, 36, 37, 38, 39, 40, 41, 42, 43, 44, 45, 46, 47, 48, 49, 50, 51, 52, 53, 54, 55, 56, 57].getD k 0
def kAdr (q0 : Nat) (f : Nat → Nat) (q3 : Nat) (g : Nat → Nat) (q9 : Nat) : Nat → Nat := fun k => [q0, f 1, f 2, f 15, f 32, f 33, f 3, f 5, f 7, f 9, f 11, f 13, f 4, f 6, f 8, f 10, f 12, f 14, f 16, f 18, f 20, f 22, f 24, f 26, f 28, f 30, f 17, f 19, f 21, f 23, f 25, f 27, f 29, f 31, q3, g 1, g 2, g 3, g 4, g 5, g 6, g 7, g 8, g 9, g 10, g 11, g 12, g 13, g 14, g 15, g 16, g 17, g 18, g 19, g 20, g 21, g 22, q9].getD k 0
def wAll (C : Nat → ClassId) (q0 : Nat) (f : Nat → Nat) (q3 : Nat) (g : Nat → Nat) (q9 : Nat) : va_W := (w2 C q0 f ++ w3 C q3 g) ++ [(q9, .inl (C 1, 1, .inr (.inl (fun _ => 0))))]
theorem kperm_inj : ∀ i, i < 58 → ∀ j, j < 58 → kperm i = kperm j → i = j := by decide +kernel
section KAsm
variable {D : va_G} {C : Nat → ClassId} {q0 q3 q9 : Nat} {f g : Nat → Nat} {A0 : Nat → Prop} {H : Heap}
set_option maxHeartbeats 4000000 in
set_option maxRecDepth 100000 in
theorem wAll_at (k : Nat) (hk : k < 58) : ∃ e, (wAll C q0 f q3 g q9)[kperm k]? = some (kAdr q0 f q3 g q9 k, e) := by
  match k, hk with
  | 0, _ => exact ⟨_, rfl⟩
  | 1, _ => exact ⟨_, rfl⟩
  | 2, _ => exact ⟨_, rfl⟩
  | 3, _ => exact ⟨_, rfl⟩
  | 4, _ => exact ⟨_, rfl⟩
  | 5, _ => exact ⟨_, rfl⟩
  | 6, _ => exact ⟨_, rfl⟩
  | 7, _ => exact ⟨_, rfl⟩
  | 8, _ => exact ⟨_, rfl⟩
  | 9, _ => exact ⟨_, rfl⟩
  | 10, _ => exact ⟨_, rfl⟩
  | 11, _ => exact ⟨_, rfl⟩
  | 12, _ => exact ⟨_, rfl⟩
  | 13, _ => exact ⟨_, rfl⟩
  | 14, _ => exact ⟨_, rfl⟩
  | 15, _ => exact ⟨_, rfl⟩
  | 16, _ => exact ⟨_, rfl⟩
  | 17, _ => exact ⟨_, rfl⟩
  | 18, _ => exact ⟨_, rfl⟩
  | 19, _ => exact ⟨_, rfl⟩
  | 20, _ => exact ⟨_, rfl⟩
  | 21, _ => exact ⟨_, rfl⟩
  | 22, _ => exact ⟨_, rfl⟩
  | 23, _ => exact ⟨_, rfl⟩
  | 24, _ => exact ⟨_, rfl⟩
  | 25, _ => exact ⟨_, rfl⟩
  | 26, _ => exact ⟨_, rfl⟩
  | 27, _ => exact ⟨_, rfl⟩
  | 28, _ => exact ⟨_, rfl⟩
  | 29, _ => exact ⟨_, rfl⟩
  | 30, _ => exact ⟨_, rfl⟩
  | 31, _ => exact ⟨_, rfl⟩
  | 32, _ => exact ⟨_, rfl⟩
  | 33, _ => exact ⟨_, rfl⟩
  | 34, _ => exact ⟨_, rfl⟩
  | 35, _ => exact ⟨_, rfl⟩
  | 36, _ => exact ⟨_, rfl⟩
  | 37, _ => exact ⟨_, rfl⟩
  | 38, _ => exact ⟨_, rfl⟩
  | 39, _ => exact ⟨_, rfl⟩
  | 40, _ => exact ⟨_, rfl⟩
  | 41, _ => exact ⟨_, rfl⟩
  | 42, _ => exact ⟨_, rfl⟩
  | 43, _ => exact ⟨_, rfl⟩
  | 44, _ => exact ⟨_, rfl⟩
  | 45, _ => exact ⟨_, rfl⟩
  | 46, _ => exact ⟨_, rfl⟩
  | 47, _ => exact ⟨_, rfl⟩
  | 48, _ => exact ⟨_, rfl⟩
  | 49, _ => exact ⟨_, rfl⟩
  | 50, _ => exact ⟨_, rfl⟩
  | 51, _ => exact ⟨_, rfl⟩
  | 52, _ => exact ⟨_, rfl⟩
  | 53, _ => exact ⟨_, rfl⟩
  | 54, _ => exact ⟨_, rfl⟩
  | 55, _ => exact ⟨_, rfl⟩
  | 56, _ => exact ⟨_, rfl⟩
  | 57, _ => exact ⟨_, rfl⟩
  | n + 58, h => exact absurd h (by omega)
set_option maxHeartbeats 4000000 in
set_option maxRecDepth 100000 in
theorem wAll_kP (hP : va_P D vwCl (wAll C q0 f q3 g q9) H) : kP D (kAdr q0 f q3 g q9) C (fun _ _ => 0) (fun _ _ => 0) 0 H := by
  intro k q hk
  obtain ⟨hk58, rfl⟩ := kw_get hk
  match k, hk58 with
  | 0, _ => exact hP 0 _ rfl
  | 1, _ => exact hP 1 _ rfl
  | 2, _ =>
    refine (show H[kAdr q0 f q3 g q9 2]? = some _ from hP 2 _ rfl).trans (congrArg some ((vp_cell_q _ _ _).trans ((arrV_cg (fun j hj => ?_)).trans (vp_cell_q _ _ _).symm)))
    rcases (show j = 0 ∨ j = 1 ∨ j = 2 ∨ j = 3 ∨ j = 4 ∨ j = 5 by omega) with rfl | rfl | rfl | rfl | rfl | rfl <;> rfl
  | 3, _ =>
    refine (show H[kAdr q0 f q3 g q9 3]? = some _ from hP 15 _ rfl).trans (congrArg some ((vp_cell_q _ _ _).trans ((arrV_cg (fun j hj => ?_)).trans (vp_cell_q _ _ _).symm)))
    rcases (show j = 0 ∨ j = 1 ∨ j = 2 ∨ j = 3 ∨ j = 4 ∨ j = 5 ∨ j = 6 ∨ j = 7 by omega) with rfl | rfl | rfl | rfl | rfl | rfl | rfl | rfl <;> rfl
  | 4, _ => exact hP 32 _ rfl
  | 5, _ => exact hP 33 _ rfl
  | 6, _ => exact hP 3 _ rfl
  | 7, _ => exact hP 5 _ rfl
  | 8, _ => exact hP 7 _ rfl
  | 9, _ => exact hP 9 _ rfl
  | 10, _ => exact hP 11 _ rfl
  | 11, _ => exact hP 13 _ rfl
  | 12, _ => exact hP 4 _ rfl
  | 13, _ => exact hP 6 _ rfl
  | 14, _ => exact hP 8 _ rfl
  | 15, _ => exact hP 10 _ rfl
  | 16, _ => exact hP 12 _ rfl
  | 17, _ => exact hP 14 _ rfl
  | 18, _ => exact hP 16 _ rfl
  | 19, _ => exact hP 18 _ rfl
  | 20, _ => exact hP 20 _ rfl
  | 21, _ => exact hP 22 _ rfl
  | 22, _ => exact hP 24 _ rfl
  | 23, _ => exact hP 26 _ rfl
  | 24, _ => exact hP 28 _ rfl
  | 25, _ => exact hP 30 _ rfl
  | 26, _ => exact hP 17 _ rfl
  | 27, _ => exact hP 19 _ rfl
  | 28, _ => exact hP 21 _ rfl
  | 29, _ => exact hP 23 _ rfl
  | 30, _ => exact hP 25 _ rfl
  | 31, _ => exact hP 27 _ rfl
  | 32, _ => exact hP 29 _ rfl
  | 33, _ => exact hP 31 _ rfl
  | 34, _ => exact hP 34 _ rfl
  | 35, _ => exact hP 35 _ rfl
  | 36, _ => exact hP 36 _ rfl
  | 37, _ => exact hP 37 _ rfl
  | 38, _ => exact hP 38 _ rfl
  | 39, _ => exact hP 39 _ rfl
  | 40, _ => exact hP 40 _ rfl
  | 41, _ => exact hP 41 _ rfl
  | 42, _ => exact hP 42 _ rfl
  | 43, _ => exact hP 43 _ rfl
  | 44, _ => exact hP 44 _ rfl
  | 45, _ => exact hP 45 _ rfl
  | 46, _ => exact hP 46 _ rfl
  | 47, _ => exact hP 47 _ rfl
  | 48, _ => exact hP 48 _ rfl
  | 49, _ => exact hP 49 _ rfl
  | 50, _ => exact hP 50 _ rfl
  | 51, _ => exact hP 51 _ rfl
  | 52, _ => exact hP 52 _ rfl
  | 53, _ => exact hP 53 _ rfl
  | 54, _ => exact hP 54 _ rfl
  | 55, _ => exact hP 55 _ rfl
  | 56, _ => exact hP 56 _ rfl
  | 57, _ => exact hP 57 _ rfl
  | n + 58, h => exact absurd h (by omega)
theorem wAll_inj (hD : va_D A0 (wAll C q0 f q3 g q9)) : kinj (kAdr q0 f q3 g q9) := by
  intro i j hi hj h
  obtain ⟨e1, h1⟩ := wAll_at (C := C) (q0 := q0) (f := f) (q3 := q3) (g := g) (q9 := q9) i hi
  obtain ⟨e2, h2⟩ := wAll_at (C := C) (q0 := q0) (f := f) (q3 := q3) (g := g) (q9 := q9) j hj
  exact kperm_inj i hi j hj (hD.1 _ _ _ _ h1 h2 h)
theorem wAll_in (hD : va_D A0 (wAll C q0 f q3 g q9)) (k : Nat) (hk : k < 58) : A0 (kAdr q0 f q3 g q9 k) := by
  obtain ⟨e1, h1⟩ := wAll_at (C := C) (q0 := q0) (f := f) (q3 := q3) (g := g) (q9 := q9) k hk
  exact hD.2 _ _ h1
end KAsm
theorem RV_0 : RV (5000 * ((0 : Nat) : Int)) (fun _ _ => 0) (fun _ _ => 0) := by
  have z : (0 : Int32).toInt = 0 := rfl
  refine ⟨⟨⟨?_, fun _ => rfl, fun j hj => ?_, fun c hc => ?_, by decide, by decide⟩, rfl, by decide⟩, fun c _ _ => ⟨rfl, rfl⟩⟩
  · refine ⟨rfl, by decide, by decide, rfl, rfl, rfl, rfl, fun _ => rfl, fun _ => rfl, fun _ _ => Or.inr (by rw [vp_in_iff, z]; omega), fun i hi => ?_, fun _ => ⟨rfl, rfl⟩, fun h => absurd rfl h⟩
    have hi' : (i : Int) < (0 : Int32).toInt := hi
    rw [z] at hi'
    omega
  · exact ⟨rfl, show 0 ≤ (0 : Int32).toInt by decide, show (0 : Int32).toInt ≤ 3 by decide, rfl, rfl, rfl, rfl, rfl, rfl, rfl, rfl, show 0 ≤ (0 : Int32).toInt ∧ 0 ≤ (0 : Int32).toInt ∧ (0 : Int32).toInt + (0 : Int32).toInt ≤ 512 by decide, fun _ _ => rfl⟩
  · refine ⟨rfl, rfl, rfl, rfl, rfl, rfl, rfl, show 0 ≤ (0 : Int32).toInt by decide, show (0 : Int32).toInt ≤ 8 by decide, show 0 ≤ (0 : Int32).toInt by decide, fun h => absurd rfl h, fun _ => ⟨show (0 : Int32).toInt ≤ 1 by decide, rfl⟩, ⟨0, by decide, rfl, fun k hk => rfl⟩, fun _ h => absurd rfl h, fun _ _ => rfl⟩
theorem kisN_tab {w : Cond} (h : kisN w = true) : w.onTables = true := by
  cases w <;> first | rfl | exact absurd h (by simp [kisN])
theorem kStr_tbl : ∀ q ∈ kStr, Cond.stringRef RX2 q.1 q.2 ∈ lw_tbl := by decide +kernel
theorem kStr_flat : ∀ q ∈ kStr, Cond.exactly (Term.string RX2 q.1) "java/lang/String" ∈ flatC (Jvm.Cond.and given_1 narrow_1) := by decide +kernel
theorem kNc1 : Cond.not (.castable kIAE kISE) ∈ flatC (Jvm.Cond.and given_1 narrow_1) := by decide +kernel
theorem kNc2 : Cond.not (.castable kIOB kISE) ∈ flatC (Jvm.Cond.and given_1 narrow_1) := by decide +kernel
theorem kNc3 : Cond.not (.castable kIOB kIAE) ∈ flatC (Jvm.Cond.and given_1 narrow_1) := by decide +kernel
theorem kSt1 : Cond.isRef (.static Bundle.tN "UNASSIGNED_STACK" Bundle.steD) ∈ flatC (Jvm.Cond.and given_1 narrow_1) := by decide +kernel
theorem kSt2 : Cond.isRef (.static Bundle.tN "SUPPRESSED_SENTINEL" Bundle.listD) ∈ flatC (Jvm.Cond.and given_1 narrow_1) := by decide +kernel
theorem kTb1 : Cond.laysStatic Bundle.tN "UNASSIGNED_STACK" Bundle.steD ∈ lw_tbl := by decide +kernel
theorem kTb2 : Cond.laysStatic Bundle.tN "SUPPRESSED_SENTINEL" Bundle.listD ∈ lw_tbl := by decide +kernel
theorem kTb3 : Cond.initialized Bundle.tN ∈ lw_tbl := by decide +kernel
theorem kTb4 : Cond.arrayOver (.object RX1) ∈ lw_tbl := by decide +kernel
theorem kTb5 : Cond.arrayOver (.object RX0) ∈ lw_tbl := by decide +kernel
theorem kThr_start {s : State} {b : Nat} {A : Nat → Prop} (htbl : ∀ w ∈ lw_tbl, w.before #[Value.ref b] s = true) (hgv : (Jvm.Cond.and given_1 narrow_1).before #[Value.ref b] s = true) (hA : ∀ a : Nat, a < s.heap.size → ¬ A a) : kThr A s s.heap := by
  have hf := flat_of_before _ hgv
  refine ⟨vx_Zqof (htbl _ kTb1) (htbl _ kTb3) (hf _ kSt1) hA, vx_Zqof (htbl _ kTb2) (htbl _ kTb3) (hf _ kSt2) hA, fun q hq => ?_, va_Nc.of (hf _ kNc1), va_Nc.of (hf _ kNc2), va_Nc.of (hf _ kNc3)⟩
  obtain ⟨a, c, cell, k, he, -⟩ := Cond.exactly_spec (hf _ (kStr_flat q hq))
  exact ⟨a, vk_R.of (htbl _ (kStr_tbl q hq)) he⟩
theorem kK_start {s : State} {b : Nat} (htbl : ∀ w ∈ lw_tbl, w.before #[Value.ref b] s = true) (hts : ∀ w ∈ kAll, w.before #[Value.ref b] s = true) : ∃ (D : va_G) (C : Nat → ClassId), va_K D vwCl (kt C) s := by
  obtain ⟨c0, i0, k0⟩ := u_known (C := RX0) (T := TX0) (N := 10) (n := 10) hts kin0 (hts _ kq_104)
  obtain ⟨c1, i1, k1⟩ := u_known (C := RX1) (T := TX1) (N := 10) (n := 10) hts kin1 (hts _ kq_60)
  obtain ⟨c2, i2, k2⟩ := u_known (C := RX2) (T := TX2) (N := 12) (n := 12) hts kin2 (hts _ kq_51)
  obtain ⟨c3, i3, k3⟩ := u_known (C := RX3) (T := TX3) (N := 30) (n := 30) hts kin3 (hts _ kq_504)
  obtain ⟨aI, kI, pI, fI, gI, hI⟩ := Cond.arrayClass_spec (hts _ kq_101)
  obtain ⟨aJ, kJ, pJ, fJ, gJ, hJ⟩ := Cond.arrayClass_spec (hts _ kq_686)
  obtain ⟨aZ, kZ, pZ, fZ, gZ, hZ⟩ := Cond.arrayClass_spec (hts _ kq_600)
  obtain ⟨pP, aP, kP1, fP, -, gP, hP, eP⟩ := Cond.arrayOver_spec (htbl _ kTb4)
  obtain ⟨pC, aC, kC1, fC, -, gC, hC, eC⟩ := Cond.arrayOver_spec (htbl _ kTb5)
  refine ⟨(fun k => if k = 0 then c0 else if k = 1 then c1 else if k = 2 then c2 else c3, fun k => if k = 0 then i0 else if k = 1 then i1 else if k = 2 then i2 else i3), fun k => if k = 0 then aI else if k = 1 then aJ else if k = 2 then aP else if k = 3 then aC else aZ, ?_, ?_⟩
  · intro k q hq
    match k, hq with
    | 0, hq => cases hq; exact k0
    | 1, hq => cases hq; exact k1
    | 2, hq => cases hq; exact k2
    | 3, hq => cases hq; exact k3
    | k + 4, hq => simp [vwCl] at hq
  · intro k q hq
    match k, hq with
    | 0, hq => cases hq; exact ⟨fun n z => ⟨fun k h => (by cases h), kI, gI, pI, hI⟩, fI⟩
    | 1, hq => cases hq; exact ⟨fun n z => ⟨fun k h => (by cases h), kJ, gJ, pJ, hJ⟩, fJ⟩
    | 2, hq => cases hq; exact ⟨fun n z => ⟨fun k h => (by cases h), kP1, gP, pP, hP⟩, kP1, pP, gP, hP, fP, eP⟩
    | 3, hq => cases hq; exact ⟨fun n z => ⟨fun k h => (by cases h), kC1, gC, pC, hC⟩, kC1, pC, gC, hC, fC, eC⟩
    | 4, hq => cases hq; exact ⟨fun n z => ⟨fun k h => (by cases h), kZ, gZ, pZ, hZ⟩, fZ⟩
    | k + 5, hq => simp [kt] at hq
theorem df_X2 : ∀ j, j < 12 → defaultValue (tyX2 j) = vp_V df2 j := by decide +kernel
theorem df_X3 : ∀ j, j < 30 → defaultValue (tyX3 j) = vp_V df3 j := by decide +kernel
