/-! ===== small rows ===== -/
theorem kx_lt {i : Int32} {n : Nat} (h : vp_in i n) : i.toNatClampNeg < n := Nat.not_le.mp fun q => h (Or.inr q)
theorem kI_1 : kI 1 512 := by unfold kI; decide
theorem kI_4 : kI 4 12 := by unfold kI; decide
theorem kI_5 : kI 5 12 := by unfold kI; decide
theorem kI_35 : kI 35 512 := by unfold kI; decide
theorem kI_36 : kI 36 6 := by unfold kI; decide
theorem kI_37 : kI 37 6 := by unfold kI; decide
theorem kI_38 : kI 38 6 := by unfold kI; decide
theorem kI_39 : kI 39 6 := by unfold kI; decide
theorem kI_40 : kI 40 6 := by unfold kI; decide
theorem kI_41 : kI 41 24 := by unfold kI; decide
theorem kI_42 : kI 42 6 := by unfold kI; decide
theorem kI_43 : kI 43 6 := by unfold kI; decide
theorem kI_44 : kI 44 6 := by unfold kI; decide
theorem kI_45 : kI 45 6 := by unfold kI; decide
theorem kI_46 : kI 46 12 := by unfold kI; decide
theorem kI_47 : kI 47 12 := by unfold kI; decide
theorem kI_49 : kI 49 8 := by unfold kI; decide
theorem kI_50 : kI 50 8 := by unfold kI; decide
theorem kI_51 : kI 51 8 := by unfold kI; decide
theorem kI_52 : kI 52 64 := by unfold kI; decide
theorem kI_53 : kI 53 8 := by unfold kI; decide
theorem kI_54 : kI 54 8 := by unfold kI; decide
theorem kI_55 : kI 55 8 := by unfold kI; decide
theorem kI_56 : kI 56 8 := by unfold kI; decide
theorem ki_lt {x y : Int32} : x < y ↔ x.toInt < y.toInt := Int32.lt_iff_toInt_lt
theorem ki_le {x y : Int32} : x ≤ y ↔ x.toInt ≤ y.toInt := Int32.le_iff_toInt_le
theorem ki_eq {x y : Int32} : x = y ↔ x.toInt = y.toInt := Int32.toInt_inj.symm
theorem ki_lo (x : Int32) : -2147483648 ≤ x.toInt := by have := Int32.le_toInt x; omega
theorem ki_hi (x : Int32) : x.toInt < 2147483648 := by have := Int32.toInt_lt x; omega
/-- an index that two tests have held against 0 and n -/
theorem kin_of {x N : Int32} {n : Nat} (hN : N.toInt = n) (h0 : ¬ x < 0) (h1 : ¬ N ≤ x) : vp_in x n := by
  rw [vp_in_iff]
  rw [ki_lt, show (0 : Int32).toInt = 0 from rfl] at h0
  rw [ki_le, hN] at h1
  omega
theorem kin_le {x N : Int32} {n : Nat} (hN : N.toInt + 1 = n) (h0 : ¬ x < 0) (h1 : ¬ N < x) : vp_in x n := by
  rw [vp_in_iff]
  rw [ki_lt, show (0 : Int32).toInt = 0 from rfl] at h0
  rw [ki_lt] at h1
  omega
theorem kin_and7 (x : Int32) : vp_in (x &&& 7) 8 := pk_andIn x 3 rfl (by decide)
theorem kin_and3 (x : Int32) : vp_in (x &&& 3) 4 := pk_andIn x 2 rfl (by decide)
theorem ki_add {x y : Int32} (h1 : -2147483648 ≤ x.toInt + y.toInt) (h2 : x.toInt + y.toInt < 2147483648) : (x + y).toInt = x.toInt + y.toInt := by
  rw [Int32.toInt_add]; exact Int.bmod_eq_of_le (by omega) (by omega)
theorem ki_sub {x y : Int32} (h1 : -2147483648 ≤ x.toInt - y.toInt) (h2 : x.toInt - y.toInt < 2147483648) : (x - y).toInt = x.toInt - y.toInt := by
  rw [Int32.toInt_sub]; exact Int.bmod_eq_of_le (by omega) (by omega)
theorem ki_mul {x y : Int32} (h1 : -2147483648 ≤ x.toInt * y.toInt) (h2 : x.toInt * y.toInt < 2147483648) : (x * y).toInt = x.toInt * y.toInt := by
  rw [Int32.toInt_mul]; exact Int.bmod_eq_of_le (by omega) (by omega)
theorem kin_report {x : Int32} (h1 : ¬ x < 2) (h2 : ¬ 5 < x) : vp_in (x - 2) 4 := by
  rw [ki_lt, show (2 : Int32).toInt = 2 from rfl] at h1
  rw [ki_lt, show (5 : Int32).toInt = 5 from rfl] at h2
  rw [vp_in_iff, ki_sub (by rw [show (2 : Int32).toInt = 2 from rfl]; omega) (by rw [show (2 : Int32).toInt = 2 from rfl]; omega), show (2 : Int32).toInt = 2 from rfl]
  omega
theorem kq_2 : Cond.selects "PartitionKernel$Partition" ⟨"PartitionKernel$Partition", "isTold", "()Z"⟩ ⟨"PartitionKernel$Partition", "isTold", "()Z"⟩ ∈ kAll := kmem 2 (by decide +kernel) (by decide +kernel)
theorem kq_19 : Cond.selects "PartitionKernel$Channel" ⟨"PartitionKernel$Channel", "isSlot", "()Z"⟩ ⟨"PartitionKernel$Channel", "isSlot", "()Z"⟩ ∈ kAll := kmem 19 (by decide +kernel) (by decide +kernel)
theorem kq_20 : Cond.selects "PartitionKernel$Channel" ⟨"PartitionKernel$Channel", "spotOf", "(I)I"⟩ ⟨"PartitionKernel$Channel", "spotOf", "(I)I"⟩ ∈ kAll := kmem 20 (by decide +kernel) (by decide +kernel)
theorem kq_39 : Cond.initialized "PartitionKernel$Partition" ∈ kAll := kmem 39 (by decide +kernel) (by decide +kernel)
theorem kq_40 : Cond.initialized "PartitionKernel$Channel" ∈ kAll := kmem 40 (by decide +kernel) (by decide +kernel)
theorem kq_65 : Cond.fieldLink "PartitionKernel$Partition" 9 "PartitionKernel$Partition" "registers" "[I" ∈ kAll := kmem 65 (by decide +kernel) (by decide +kernel)
theorem kq_67 : Cond.fieldLink "PartitionKernel$Partition" 15 "PartitionKernel$Partition" "state" "I" ∈ kAll := kmem 67 (by decide +kernel) (by decide +kernel)
theorem kq_69 : Cond.fieldLink "PartitionKernel$Partition" 19 "PartitionKernel$Partition" "base" "I" ∈ kAll := kmem 69 (by decide +kernel) (by decide +kernel)
theorem kq_71 : Cond.fieldLink "PartitionKernel$Partition" 22 "PartitionKernel$Partition" "length" "I" ∈ kAll := kmem 71 (by decide +kernel) (by decide +kernel)
theorem kq_72 : Cond.fieldLink "PartitionKernel$Partition" 25 "PartitionKernel$Partition" "entry" "I" ∈ kAll := kmem 72 (by decide +kernel) (by decide +kernel)
theorem kq_73 : Cond.fieldLink "PartitionKernel$Partition" 28 "PartitionKernel$Partition" "place" "I" ∈ kAll := kmem 73 (by decide +kernel) (by decide +kernel)
theorem kq_75 : Cond.fieldLink "PartitionKernel$Partition" 50 "PartitionKernel$Partition" "done" "I" ∈ kAll := kmem 75 (by decide +kernel) (by decide +kernel)
theorem kq_77 : Cond.fieldLink "PartitionKernel$Partition" 31 "PartitionKernel$Partition" "restartsLeft" "I" ∈ kAll := kmem 77 (by decide +kernel) (by decide +kernel)
theorem kq_78 : Cond.fieldLink "PartitionKernel$Partition" 38 "PartitionKernel$Partition" "lastFault" "I" ∈ kAll := kmem 78 (by decide +kernel) (by decide +kernel)
theorem kq_79 : Cond.fieldLink "PartitionKernel$Partition" 41 "PartitionKernel$Partition" "faults" "I" ∈ kAll := kmem 79 (by decide +kernel) (by decide +kernel)
theorem kq_109 : Cond.fieldLink "PartitionKernel$Channel" 9 "PartitionKernel$Channel" "words" "[I" ∈ kAll := kmem 109 (by decide +kernel) (by decide +kernel)
theorem kq_110 : Cond.fieldLink "PartitionKernel$Channel" 15 "PartitionKernel$Channel" "isTold" "Z" ∈ kAll := kmem 110 (by decide +kernel) (by decide +kernel)
theorem kq_112 : Cond.fieldLink "PartitionKernel$Channel" 19 "PartitionKernel$Channel" "from" "I" ∈ kAll := kmem 112 (by decide +kernel) (by decide +kernel)
theorem kq_114 : Cond.fieldLink "PartitionKernel$Channel" 23 "PartitionKernel$Channel" "to" "I" ∈ kAll := kmem 114 (by decide +kernel) (by decide +kernel)
theorem kq_116 : Cond.fieldLink "PartitionKernel$Channel" 26 "PartitionKernel$Channel" "room" "I" ∈ kAll := kmem 116 (by decide +kernel) (by decide +kernel)
theorem kq_117 : Cond.fieldLink "PartitionKernel$Channel" 49 "PartitionKernel$Channel" "first" "I" ∈ kAll := kmem 117 (by decide +kernel) (by decide +kernel)
theorem kq_118 : Cond.fieldLink "PartitionKernel$Channel" 33 "PartitionKernel$Channel" "count" "I" ∈ kAll := kmem 118 (by decide +kernel) (by decide +kernel)
theorem kq_120 : Cond.fieldLink "PartitionKernel$Channel" 36 "PartitionKernel$Channel" "cameAt" "I" ∈ kAll := kmem 120 (by decide +kernel) (by decide +kernel)
theorem kq_121 : Cond.fieldLink "PartitionKernel$Channel" 46 "PartitionKernel$Channel" "came" "I" ∈ kAll := kmem 121 (by decide +kernel) (by decide +kernel)
theorem kq_122 : Cond.fieldLink "PartitionKernel$Channel" 43 "PartitionKernel$Channel" "refused" "I" ∈ kAll := kmem 122 (by decide +kernel) (by decide +kernel)
theorem kq_272 : Cond.instanceMethod ⟨"PartitionKernel$Partition", "isTold", "()Z"⟩ ∈ kAll := kmem 272 (by decide +kernel) (by decide +kernel)
theorem kq_273 : Cond.code ⟨"PartitionKernel$Partition", "isTold", "()Z"⟩ prog_3_method_3_code 1 (Option.some FieldType.boolean) ∈ kAll := kmem 273 (by decide +kernel) (by decide +kernel)
theorem kq_301 : Cond.methodLink "PartitionKernel$Partition" 34 ⟨"PartitionKernel$Partition", "isTold", "()Z"⟩ ∈ kAll := kmem 301 (by decide +kernel) (by decide +kernel)
theorem kq_426 : Cond.methodLink "PartitionKernel$Channel" 29 ⟨"PartitionKernel$Channel", "isSlot", "()Z"⟩ ∈ kAll := kmem 426 (by decide +kernel) (by decide +kernel)
theorem kq_428 : Cond.instanceMethod ⟨"PartitionKernel$Channel", "isSlot", "()Z"⟩ ∈ kAll := kmem 428 (by decide +kernel) (by decide +kernel)
theorem kq_429 : Cond.code ⟨"PartitionKernel$Channel", "isSlot", "()Z"⟩ prog_2_method_3_code 1 (Option.some FieldType.boolean) ∈ kAll := kmem 429 (by decide +kernel) (by decide +kernel)
theorem kq_430 : Cond.methodLink "PartitionKernel$Channel" 39 ⟨"PartitionKernel$Channel", "spotOf", "(I)I"⟩ ∈ kAll := kmem 430 (by decide +kernel) (by decide +kernel)
theorem kq_432 : Cond.instanceMethod ⟨"PartitionKernel$Channel", "spotOf", "(I)I"⟩ ∈ kAll := kmem 432 (by decide +kernel) (by decide +kernel)
theorem kq_433 : Cond.code ⟨"PartitionKernel$Channel", "spotOf", "(I)I"⟩ prog_2_method_7_code 2 (Option.some FieldType.int) ∈ kAll := kmem 433 (by decide +kernel) (by decide +kernel)
theorem kl_X0_29 : kLV RX0 29 yX0_isSlot (.code yX0_isSlot cX0_isSlot 1 (some .boolean)) := ⟨kq_426, kq_428, kq_19, kq_40, kq_429⟩
theorem kl_X0_39 : kLV RX0 39 yX0_spotOf (.code yX0_spotOf cX0_spotOf 2 (some .int)) := ⟨kq_430, kq_432, kq_20, kq_40, kq_433⟩
theorem kl_X1_34 : kLV RX1 34 yX1_isTold (.code yX1_isTold cX1_isTold 1 (some .boolean)) := ⟨kq_301, kq_272, kq_2, kq_39, kq_273⟩
theorem yk_X0_isSlot : kYok yX0_isSlot 0 := by unfold kYok; decide +kernel
theorem yk_X0_spotOf : kYok yX0_spotOf 1 := by unfold kYok; decide +kernel
theorem yk_X1_isTold : kYok yX1_isTold 0 := by unfold kYok; decide +kernel
