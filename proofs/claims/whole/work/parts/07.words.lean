/-! ===== small rows ===== -/
theorem kx_lt {i : Int32} {n : Nat} (h : vp_in i n) : i.toNatClampNeg < n := Nat.not_le.mp fun q => h (Or.inr q)
theorem kI_1 : kI 1 512 := by unfold kI; decide
theorem kI_4 : kI 4 12 := by unfold kI; decide
theorem kI_5 : kI 5 12 := by unfold kI; decide
theorem kI_35 : kI 35 512 := by unfold kI; decide
theorem kI_36 : kI 36 6 := by unfold kI; decide
theorem kI_37 : kI 37 6 := by unfold kI; decide
theorem kI_38 : kI 38 6 := by unfold kI; decide
theorem kI_39 : kI 39 6 := by unfold kI; decide
theorem kI_40 : kI 40 6 := by unfold kI; decide
theorem kI_41 : kI 41 24 := by unfold kI; decide
theorem kI_42 : kI 42 6 := by unfold kI; decide
theorem kI_43 : kI 43 6 := by unfold kI; decide
theorem kI_44 : kI 44 6 := by unfold kI; decide
theorem kI_45 : kI 45 6 := by unfold kI; decide
theorem kI_46 : kI 46 12 := by unfold kI; decide
theorem kI_47 : kI 47 12 := by unfold kI; decide
theorem kI_49 : kI 49 8 := by unfold kI; decide
theorem kI_50 : kI 50 8 := by unfold kI; decide
theorem kI_51 : kI 51 8 := by unfold kI; decide
theorem kI_52 : kI 52 64 := by unfold kI; decide
theorem kI_53 : kI 53 8 := by unfold kI; decide
theorem kI_54 : kI 54 8 := by unfold kI; decide
theorem kI_55 : kI 55 8 := by unfold kI; decide
theorem kI_56 : kI 56 8 := by unfold kI; decide
theorem ki_lt {x y : Int32} : x < y ↔ x.toInt < y.toInt := Int32.lt_iff_toInt_lt
theorem ki_le {x y : Int32} : x ≤ y ↔ x.toInt ≤ y.toInt := Int32.le_iff_toInt_le
theorem ki_eq {x y : Int32} : x = y ↔ x.toInt = y.toInt := Int32.toInt_inj.symm
theorem ki_lo (x : Int32) : -2147483648 ≤ x.toInt := by have := Int32.le_toInt x; omega
theorem ki_hi (x : Int32) : x.toInt < 2147483648 := by have := Int32.toInt_lt x; omega
/-- an index that two tests have held against 0 and n -/
theorem kin_of {x N : Int32} {n : Nat} (hN : N.toInt = n) (h0 : ¬ x < 0) (h1 : ¬ N ≤ x) : vp_in x n := by
  rw [vp_in_iff]
  rw [ki_lt, show (0 : Int32).toInt = 0 from rfl] at h0
  rw [ki_le, hN] at h1
  omega
theorem kin_le {x N : Int32} {n : Nat} (hN : N.toInt + 1 = n) (h0 : ¬ x < 0) (h1 : ¬ N < x) : vp_in x n := by
  rw [vp_in_iff]
  rw [ki_lt, show (0 : Int32).toInt = 0 from rfl] at h0
  rw [ki_lt] at h1
  omega
theorem kin_and7 (x : Int32) : vp_in (x &&& 7) 8 := pk_andIn x 3 rfl (by decide)
theorem kin_and3 (x : Int32) : vp_in (x &&& 3) 4 := pk_andIn x 2 rfl (by decide)
theorem ki_add {x y : Int32} (h1 : -2147483648 ≤ x.toInt + y.toInt) (h2 : x.toInt + y.toInt < 2147483648) : (x + y).toInt = x.toInt + y.toInt := by
  rw [Int32.toInt_add]; exact Int.bmod_eq_of_le (by omega) (by omega)
theorem ki_sub {x y : Int32} (h1 : -2147483648 ≤ x.toInt - y.toInt) (h2 : x.toInt - y.toInt < 2147483648) : (x - y).toInt = x.toInt - y.toInt := by
  rw [Int32.toInt_sub]; exact Int.bmod_eq_of_le (by omega) (by omega)
theorem ki_mul {x y : Int32} (h1 : -2147483648 ≤ x.toInt * y.toInt) (h2 : x.toInt * y.toInt < 2147483648) : (x * y).toInt = x.toInt * y.toInt := by
  rw [Int32.toInt_mul]; exact Int.bmod_eq_of_le (by omega) (by omega)
theorem kin_report {x : Int32} (h1 : ¬ x < 2) (h2 : ¬ 5 < x) : vp_in (x - 2) 4 := by
  rw [ki_lt, show (2 : Int32).toInt = 2 from rfl] at h1
  rw [ki_lt, show (5 : Int32).toInt = 5 from rfl] at h2
  rw [vp_in_iff, ki_sub (by rw [show (2 : Int32).toInt = 2 from rfl]; omega) (by rw [show (2 : Int32).toInt = 2 from rfl]; omega), show (2 : Int32).toInt = 2 from rfl]
  omega
section KL
variable {p : Program} {l : Launch} {e : Env} {R : Room} {s : State} {m : MethodId} {args : Array Value} {below : List Frame} {meth : Method} {c : Code} {H : Heap} {locs : List Loc} {cells slots : Nat} {Q : State → Prop}
variable {cc : ByteArray} {nL pc : Nat} {ls : Array Slot} {rest : List Value} {D : va_G} {A : Nat → Nat} {C : Nat → ClassId} {ka mu : kM} {o : Int32} {own : String}
theorem kK_len (G : kCtx D A C p s m args c cc nL own) (hP : kP D A C ka mu o H) {r n : Nat} (h : kI r n) (hr : r < 34) {v : Int32} (hv : Int32.ofNat n = v) (hdg : decode cc pc = .ok (.arraylength, 1))
    (kk : W p l e R s m args below meth c H locs cells slots Q (F0 m (pc + 1) ls (.int v :: rest))) : W p l e R s m args below meth c H locs cells slots Q (F0 m pc ls (.ref (A r) :: rest)) :=
  va_alen G.1 G.2.1 G.2.2.2.2.2.1.1 hP r 0 (kw_IK h hr) rfl hv hdg kk
theorem k3_getw (G : kCtx D A C p s m args c cc nL RX3) (hP : kP D A C ka mu o H) (j : Nat) (h : k3i j) (h2 : j < 30) {index : Nat} (hl : Cond.fieldLink RX3 index "PartitionKernelModel" (TX3 j).2.1 (TX3 j).2.2.1 ∈ kAll) (he : (TX3 j).1 = "PartitionKernelModel") {v : Int32} (hv : mu 34 j = v) (hdg : decode cc pc = .ok (.getfield index, 3))
    (kk : W p l e R s m args below meth c H locs cells slots Q (F0 m (pc + 3) ls (.int v :: rest))) : W p l e R s m args below meth c H locs cells slots Q (F0 m pc ls (.ref (A 34) :: rest)) := by
  subst hv
  exact k3_geti G hP j h h2 hl he hdg kk
end KL
/-- a partition's region lies in memory -/
def kB (ka : kM) (j : Nat) : Prop := 0 ≤ (ka (j + 6) 2).toInt ∧ 0 ≤ (ka (j + 6) 3).toInt ∧ (ka (j + 6) 2).toInt + (ka (j + 6) 3).toInt ≤ 512
def kInv (ka : kM) : Prop := vp_in (ka 0 8) 12 ∧ (∀ i, i < 12 → ka 4 i = -1 ∨ vp_in (ka 4 i) 6) ∧ (∀ j, j < 6 → kB ka j) ∧ 0 ≤ (ka 0 5).toInt ∧ (ka 0 5).toInt ≤ 12
theorem kin_memo {b n i : Int32} (h0 : 0 ≤ b.toInt) (h1 : b.toInt + n.toInt ≤ 512) (g0 : ¬ i < 0) (g1 : ¬ n ≤ i) : vp_in (b + i) 512 := by
  rw [ki_lt, show (0 : Int32).toInt = 0 from rfl] at g0
  rw [ki_le] at g1
  rw [vp_in_iff, ki_add (by omega) (by omega)]
  omega
theorem k4i (x : Int32) (h : vp_in x 6) : 0 ≤ x.toInt ∧ x.toInt < 6 := by have := vp_in_iff.mp h; exact ⟨this.1, by omega⟩
theorem kin4 {p a : Int32} (hp : vp_in p 6) (ha : vp_in a 4) : vp_in (4 * p + a) 24 := by
  rw [vp_in_iff] at hp ha
  have h1 : (4 * p).toInt = 4 * p.toInt := by rw [ki_mul (by rw [show (4 : Int32).toInt = 4 from rfl]; omega) (by rw [show (4 : Int32).toInt = 4 from rfl]; omega)]; rfl
  rw [vp_in_iff, ki_add (by omega) (by omega), h1]
  omega
theorem ki_8c {c : Int32} (hc : vp_in c 8) : (8 * c).toInt = 8 * c.toInt := by
  rw [vp_in_iff] at hc
  rw [ki_mul (by rw [show (8 : Int32).toInt = 8 from rfl]; omega) (by rw [show (8 : Int32).toInt = 8 from rfl]; omega)]; rfl
theorem kin8 {c : Int32} (hc : vp_in c 8) : vp_in (8 * c) 64 := by
  rw [vp_in_iff, ki_8c hc]
  rw [vp_in_iff] at hc
  omega
theorem kin8k {c k : Int32} (hc : vp_in c 8) (hk : vp_in k 8) : vp_in (8 * c + k) 64 := by
  have h1 := ki_8c hc
  rw [vp_in_iff] at hc hk
  rw [vp_in_iff, ki_add (by omega) (by omega), h1]
  omega
/-- the reference: regions in memory, channels in their rooms -/
def mB (mu : kM) (j : Nat) : Prop := 0 ≤ (mu 36 j).toInt ∧ 0 ≤ (mu 37 j).toInt ∧ (mu 36 j).toInt + (mu 37 j).toInt ≤ 512
def mC (mu : kM) : Prop := ∀ c, c < 8 → 0 ≤ (mu 51 c).toInt ∧ (mu 51 c).toInt ≤ 8 ∧ 0 ≤ (mu 53 c).toInt ∧ (mu 53 c).toInt ≤ 8 ∧ (¬ mu 51 c = 0 → (mu 53 c).toInt ≤ (mu 51 c).toInt)
def mInv (mu : kM) : Prop := (∀ j, j < 6 → mB mu j) ∧ mC mu ∧ 0 ≤ (mu 34 12).toInt ∧ (mu 34 12).toInt ≤ 12 ∧ vp_in (mu 34 25) 12 ∧ (∀ i, i < 12 → (mu 46 i).toInt < 6) ∧ (¬ mu 34 24 = 0 → ¬ mu 34 12 = 0)
theorem kq_0 : Cond.selects "PartitionKernel" ⟨"PartitionKernel", "refuseIfSealed", "()V"⟩ ⟨"PartitionKernel", "refuseIfSealed", "()V"⟩ ∈ kAll := kmem 0 (by decide +kernel) (by decide +kernel)
theorem kq_2 : Cond.selects "PartitionKernel$Partition" ⟨"PartitionKernel$Partition", "isTold", "()Z"⟩ ⟨"PartitionKernel$Partition", "isTold", "()Z"⟩ ∈ kAll := kmem 2 (by decide +kernel) (by decide +kernel)
theorem kq_3 : Cond.selects "PartitionKernel" ⟨"PartitionKernel", "sharesWord", "(II)Z"⟩ ⟨"PartitionKernel", "sharesWord", "(II)Z"⟩ ∈ kAll := kmem 3 (by decide +kernel) (by decide +kernel)
theorem kq_4 : Cond.selects "PartitionKernel$Partition" ⟨"PartitionKernel$Partition", "meets", "(II)Z"⟩ ⟨"PartitionKernel$Partition", "meets", "(II)Z"⟩ ∈ kAll := kmem 4 (by decide +kernel) (by decide +kernel)
theorem kq_5 : Cond.selects "PartitionKernel$Partition" ⟨"PartitionKernel$Partition", "tell", "(IIII)V"⟩ ⟨"PartitionKernel$Partition", "tell", "(IIII)V"⟩ ∈ kAll := kmem 5 (by decide +kernel) (by decide +kernel)
theorem kq_6 : Cond.selects "PartitionKernel" ⟨"PartitionKernel", "refuseUnlessTold", "(I)V"⟩ ⟨"PartitionKernel", "refuseUnlessTold", "(I)V"⟩ ∈ kAll := kmem 6 (by decide +kernel) (by decide +kernel)
theorem kq_7 : Cond.selects "PartitionKernel$Channel" ⟨"PartitionKernel$Channel", "tell", "(III)V"⟩ ⟨"PartitionKernel$Channel", "tell", "(III)V"⟩ ∈ kAll := kmem 7 (by decide +kernel) (by decide +kernel)
theorem kq_8 : Cond.selects "PartitionKernel" ⟨"PartitionKernel", "addressOf", "(II)I"⟩ ⟨"PartitionKernel", "addressOf", "(II)I"⟩ ∈ kAll := kmem 8 (by decide +kernel) (by decide +kernel)
theorem kq_9 : Cond.selects "PartitionKernel$Partition" ⟨"PartitionKernel$Partition", "holds", "(I)Z"⟩ ⟨"PartitionKernel$Partition", "holds", "(I)Z"⟩ ∈ kAll := kmem 9 (by decide +kernel) (by decide +kernel)
theorem kq_10 : Cond.selects "PartitionKernel" ⟨"PartitionKernel", "goOneTick", "()Z"⟩ ⟨"PartitionKernel", "goOneTick", "()Z"⟩ ∈ kAll := kmem 10 (by decide +kernel) (by decide +kernel)
theorem kq_11 : Cond.selects "PartitionKernel" ⟨"PartitionKernel", "runInstruction", "(I)V"⟩ ⟨"PartitionKernel", "runInstruction", "(I)V"⟩ ∈ kAll := kmem 11 (by decide +kernel) (by decide +kernel)
theorem kq_12 : Cond.selects "PartitionKernel" ⟨"PartitionKernel", "perform", "(II)I"⟩ ⟨"PartitionKernel", "perform", "(II)I"⟩ ∈ kAll := kmem 12 (by decide +kernel) (by decide +kernel)
theorem kq_13 : Cond.selects "PartitionKernel" ⟨"PartitionKernel", "load", "(LPartitionKernel$Partition;II)I"⟩ ⟨"PartitionKernel", "load", "(LPartitionKernel$Partition;II)I"⟩ ∈ kAll := kmem 13 (by decide +kernel) (by decide +kernel)
theorem kq_14 : Cond.selects "PartitionKernel" ⟨"PartitionKernel", "store", "(LPartitionKernel$Partition;II)I"⟩ ⟨"PartitionKernel", "store", "(LPartitionKernel$Partition;II)I"⟩ ∈ kAll := kmem 14 (by decide +kernel) (by decide +kernel)
theorem kq_15 : Cond.selects "PartitionKernel$Partition" ⟨"PartitionKernel$Partition", "jumpIf", "(ZI)V"⟩ ⟨"PartitionKernel$Partition", "jumpIf", "(ZI)V"⟩ ∈ kAll := kmem 15 (by decide +kernel) (by decide +kernel)
theorem kq_16 : Cond.selects "PartitionKernel" ⟨"PartitionKernel", "send", "(IIII)I"⟩ ⟨"PartitionKernel", "send", "(IIII)I"⟩ ∈ kAll := kmem 16 (by decide +kernel) (by decide +kernel)
theorem kq_17 : Cond.selects "PartitionKernel" ⟨"PartitionKernel", "isChannel", "(I)Z"⟩ ⟨"PartitionKernel", "isChannel", "(I)Z"⟩ ∈ kAll := kmem 17 (by decide +kernel) (by decide +kernel)
theorem kq_18 : Cond.selects "PartitionKernel$Channel" ⟨"PartitionKernel$Channel", "put", "(II)Z"⟩ ⟨"PartitionKernel$Channel", "put", "(II)Z"⟩ ∈ kAll := kmem 18 (by decide +kernel) (by decide +kernel)
theorem kq_19 : Cond.selects "PartitionKernel$Channel" ⟨"PartitionKernel$Channel", "isSlot", "()Z"⟩ ⟨"PartitionKernel$Channel", "isSlot", "()Z"⟩ ∈ kAll := kmem 19 (by decide +kernel) (by decide +kernel)
theorem kq_20 : Cond.selects "PartitionKernel$Channel" ⟨"PartitionKernel$Channel", "spotOf", "(I)I"⟩ ⟨"PartitionKernel$Channel", "spotOf", "(I)I"⟩ ∈ kAll := kmem 20 (by decide +kernel) (by decide +kernel)
theorem kq_21 : Cond.selects "PartitionKernel" ⟨"PartitionKernel", "take", "(IIII)I"⟩ ⟨"PartitionKernel", "take", "(IIII)I"⟩ ∈ kAll := kmem 21 (by decide +kernel) (by decide +kernel)
theorem kq_22 : Cond.selects "PartitionKernel$Channel" ⟨"PartitionKernel$Channel", "wordAt", "(I)I"⟩ ⟨"PartitionKernel$Channel", "wordAt", "(I)I"⟩ ∈ kAll := kmem 22 (by decide +kernel) (by decide +kernel)
theorem kq_23 : Cond.selects "PartitionKernel$Channel" ⟨"PartitionKernel$Channel", "age", "(I)I"⟩ ⟨"PartitionKernel$Channel", "age", "(I)I"⟩ ∈ kAll := kmem 23 (by decide +kernel) (by decide +kernel)
theorem kq_24 : Cond.selects "PartitionKernel$Channel" ⟨"PartitionKernel$Channel", "dropTaken", "()V"⟩ ⟨"PartitionKernel$Channel", "dropTaken", "()V"⟩ ∈ kAll := kmem 24 (by decide +kernel) (by decide +kernel)
theorem kq_25 : Cond.selects "PartitionKernel$Partition" ⟨"PartitionKernel$Partition", "restartAfter", "(I)Z"⟩ ⟨"PartitionKernel$Partition", "restartAfter", "(I)Z"⟩ ∈ kAll := kmem 25 (by decide +kernel) (by decide +kernel)
theorem kq_26 : Cond.selects "PartitionKernel" ⟨"PartitionKernel", "moveWindowOn", "()V"⟩ ⟨"PartitionKernel", "moveWindowOn", "()V"⟩ ∈ kAll := kmem 26 (by decide +kernel) (by decide +kernel)
theorem kq_27 : Cond.selects "PartitionKernel$Partition" ⟨"PartitionKernel$Partition", "report", "(I)I"⟩ ⟨"PartitionKernel$Partition", "report", "(I)I"⟩ ∈ kAll := kmem 27 (by decide +kernel) (by decide +kernel)
theorem kq_28 : Cond.selects "PartitionKernel$Channel" ⟨"PartitionKernel$Channel", "report", "(II)I"⟩ ⟨"PartitionKernel$Channel", "report", "(II)I"⟩ ∈ kAll := kmem 28 (by decide +kernel) (by decide +kernel)
theorem kq_29 : Cond.selects "PartitionKernelModel" ⟨"PartitionKernelModel", "isTold", "(I)Z"⟩ ⟨"PartitionKernelModel", "isTold", "(I)Z"⟩ ∈ kAll := kmem 29 (by decide +kernel) (by decide +kernel)
theorem kq_30 : Cond.selects "PartitionKernelModel" ⟨"PartitionKernelModel", "shares", "(II)Z"⟩ ⟨"PartitionKernelModel", "shares", "(II)Z"⟩ ∈ kAll := kmem 30 (by decide +kernel) (by decide +kernel)
theorem kq_31 : Cond.selects "PartitionKernelModel" ⟨"PartitionKernelModel", "noWord", "(II)Z"⟩ ⟨"PartitionKernelModel", "noWord", "(II)Z"⟩ ∈ kAll := kmem 31 (by decide +kernel) (by decide +kernel)
theorem kq_32 : Cond.selects "PartitionKernelModel" ⟨"PartitionKernelModel", "instruction", "(I)V"⟩ ⟨"PartitionKernelModel", "instruction", "(I)V"⟩ ∈ kAll := kmem 32 (by decide +kernel) (by decide +kernel)
theorem kq_33 : Cond.selects "PartitionKernelModel" ⟨"PartitionKernelModel", "act", "(II)V"⟩ ⟨"PartitionKernelModel", "act", "(II)V"⟩ ∈ kAll := kmem 33 (by decide +kernel) (by decide +kernel)
theorem kq_34 : Cond.selects "PartitionKernelModel" ⟨"PartitionKernelModel", "send", "(IIII)V"⟩ ⟨"PartitionKernelModel", "send", "(IIII)V"⟩ ∈ kAll := kmem 34 (by decide +kernel) (by decide +kernel)
theorem kq_35 : Cond.selects "PartitionKernelModel" ⟨"PartitionKernelModel", "take", "(IIII)V"⟩ ⟨"PartitionKernelModel", "take", "(IIII)V"⟩ ∈ kAll := kmem 35 (by decide +kernel) (by decide +kernel)
theorem kq_36 : Cond.selects "PartitionKernelModel" ⟨"PartitionKernelModel", "noChannel", "(I)Z"⟩ ⟨"PartitionKernelModel", "noChannel", "(I)Z"⟩ ∈ kAll := kmem 36 (by decide +kernel) (by decide +kernel)
theorem kq_38 : Cond.initialized "PartitionKernel" ∈ kAll := kmem 38 (by decide +kernel) (by decide +kernel)
theorem kq_39 : Cond.initialized "PartitionKernel$Partition" ∈ kAll := kmem 39 (by decide +kernel) (by decide +kernel)
theorem kq_40 : Cond.initialized "PartitionKernel$Channel" ∈ kAll := kmem 40 (by decide +kernel) (by decide +kernel)
theorem kq_41 : Cond.initialized "PartitionKernelModel" ∈ kAll := kmem 41 (by decide +kernel) (by decide +kernel)
theorem kq_48 : Cond.initialized "java/lang/Math" ∈ kAll := kmem 48 (by decide +kernel) (by decide +kernel)
theorem kq_49 : Cond.initialized "java/util/Arrays" ∈ kAll := kmem 49 (by decide +kernel) (by decide +kernel)
theorem kq_65 : Cond.fieldLink "PartitionKernel$Partition" 9 "PartitionKernel$Partition" "registers" "[I" ∈ kAll := kmem 65 (by decide +kernel) (by decide +kernel)
theorem kq_66 : Cond.fieldLinkNest "PartitionKernel" 176 "PartitionKernel$Partition" "registers" "[I" "PartitionKernel" ∈ kNest := knmem 66 (by decide +kernel) (by decide +kernel)
theorem kq_67 : Cond.fieldLink "PartitionKernel$Partition" 15 "PartitionKernel$Partition" "state" "I" ∈ kAll := kmem 67 (by decide +kernel) (by decide +kernel)
theorem kq_68 : Cond.fieldLinkNest "PartitionKernel" 152 "PartitionKernel$Partition" "state" "I" "PartitionKernel" ∈ kNest := knmem 68 (by decide +kernel) (by decide +kernel)
theorem kq_69 : Cond.fieldLink "PartitionKernel$Partition" 19 "PartitionKernel$Partition" "base" "I" ∈ kAll := kmem 69 (by decide +kernel) (by decide +kernel)
theorem kq_70 : Cond.fieldLinkNest "PartitionKernel" 146 "PartitionKernel$Partition" "base" "I" "PartitionKernel" ∈ kNest := knmem 70 (by decide +kernel) (by decide +kernel)
theorem kq_71 : Cond.fieldLink "PartitionKernel$Partition" 22 "PartitionKernel$Partition" "length" "I" ∈ kAll := kmem 71 (by decide +kernel) (by decide +kernel)
theorem kq_72 : Cond.fieldLink "PartitionKernel$Partition" 25 "PartitionKernel$Partition" "entry" "I" ∈ kAll := kmem 72 (by decide +kernel) (by decide +kernel)
theorem kq_73 : Cond.fieldLink "PartitionKernel$Partition" 28 "PartitionKernel$Partition" "place" "I" ∈ kAll := kmem 73 (by decide +kernel) (by decide +kernel)
theorem kq_74 : Cond.fieldLinkNest "PartitionKernel" 164 "PartitionKernel$Partition" "place" "I" "PartitionKernel" ∈ kNest := knmem 74 (by decide +kernel) (by decide +kernel)
theorem kq_75 : Cond.fieldLink "PartitionKernel$Partition" 50 "PartitionKernel$Partition" "done" "I" ∈ kAll := kmem 75 (by decide +kernel) (by decide +kernel)
theorem kq_76 : Cond.fieldLinkNest "PartitionKernel" 170 "PartitionKernel$Partition" "done" "I" "PartitionKernel" ∈ kNest := knmem 76 (by decide +kernel) (by decide +kernel)
theorem kq_77 : Cond.fieldLink "PartitionKernel$Partition" 31 "PartitionKernel$Partition" "restartsLeft" "I" ∈ kAll := kmem 77 (by decide +kernel) (by decide +kernel)
theorem kq_78 : Cond.fieldLink "PartitionKernel$Partition" 38 "PartitionKernel$Partition" "lastFault" "I" ∈ kAll := kmem 78 (by decide +kernel) (by decide +kernel)
theorem kq_79 : Cond.fieldLink "PartitionKernel$Partition" 41 "PartitionKernel$Partition" "faults" "I" ∈ kAll := kmem 79 (by decide +kernel) (by decide +kernel)
theorem kq_109 : Cond.fieldLink "PartitionKernel$Channel" 9 "PartitionKernel$Channel" "words" "[I" ∈ kAll := kmem 109 (by decide +kernel) (by decide +kernel)
theorem kq_110 : Cond.fieldLink "PartitionKernel$Channel" 15 "PartitionKernel$Channel" "isTold" "Z" ∈ kAll := kmem 110 (by decide +kernel) (by decide +kernel)
theorem kq_111 : Cond.fieldLinkNest "PartitionKernel" 75 "PartitionKernel$Channel" "isTold" "Z" "PartitionKernel" ∈ kNest := knmem 111 (by decide +kernel) (by decide +kernel)
theorem kq_112 : Cond.fieldLink "PartitionKernel$Channel" 19 "PartitionKernel$Channel" "from" "I" ∈ kAll := kmem 112 (by decide +kernel) (by decide +kernel)
theorem kq_113 : Cond.fieldLinkNest "PartitionKernel" 200 "PartitionKernel$Channel" "from" "I" "PartitionKernel" ∈ kNest := knmem 113 (by decide +kernel) (by decide +kernel)
theorem kq_114 : Cond.fieldLink "PartitionKernel$Channel" 23 "PartitionKernel$Channel" "to" "I" ∈ kAll := kmem 114 (by decide +kernel) (by decide +kernel)
theorem kq_115 : Cond.fieldLinkNest "PartitionKernel" 206 "PartitionKernel$Channel" "to" "I" "PartitionKernel" ∈ kNest := knmem 115 (by decide +kernel) (by decide +kernel)
theorem kq_116 : Cond.fieldLink "PartitionKernel$Channel" 26 "PartitionKernel$Channel" "room" "I" ∈ kAll := kmem 116 (by decide +kernel) (by decide +kernel)
theorem kq_117 : Cond.fieldLink "PartitionKernel$Channel" 49 "PartitionKernel$Channel" "first" "I" ∈ kAll := kmem 117 (by decide +kernel) (by decide +kernel)
theorem kq_118 : Cond.fieldLink "PartitionKernel$Channel" 33 "PartitionKernel$Channel" "count" "I" ∈ kAll := kmem 118 (by decide +kernel) (by decide +kernel)
theorem kq_119 : Cond.fieldLinkNest "PartitionKernel" 209 "PartitionKernel$Channel" "count" "I" "PartitionKernel" ∈ kNest := knmem 119 (by decide +kernel) (by decide +kernel)
theorem kq_120 : Cond.fieldLink "PartitionKernel$Channel" 36 "PartitionKernel$Channel" "cameAt" "I" ∈ kAll := kmem 120 (by decide +kernel) (by decide +kernel)
theorem kq_121 : Cond.fieldLink "PartitionKernel$Channel" 46 "PartitionKernel$Channel" "came" "I" ∈ kAll := kmem 121 (by decide +kernel) (by decide +kernel)
theorem kq_122 : Cond.fieldLink "PartitionKernel$Channel" 43 "PartitionKernel$Channel" "refused" "I" ∈ kAll := kmem 122 (by decide +kernel) (by decide +kernel)
theorem kq_144 : Cond.fieldLink "PartitionKernel" 9 "PartitionKernel" "memory" "[I" ∈ kAll := kmem 144 (by decide +kernel) (by decide +kernel)
theorem kq_145 : Cond.fieldLink "PartitionKernel" 15 "PartitionKernel" "partitions" "[LPartitionKernel$Partition;" ∈ kAll := kmem 145 (by decide +kernel) (by decide +kernel)
theorem kq_146 : Cond.fieldLink "PartitionKernel" 22 "PartitionKernel" "channels" "[LPartitionKernel$Channel;" ∈ kAll := kmem 146 (by decide +kernel) (by decide +kernel)
theorem kq_147 : Cond.fieldLink "PartitionKernel" 27 "PartitionKernel" "windowOwners" "[I" ∈ kAll := kmem 147 (by decide +kernel) (by decide +kernel)
theorem kq_148 : Cond.fieldLink "PartitionKernel" 30 "PartitionKernel" "windowLengths" "[I" ∈ kAll := kmem 148 (by decide +kernel) (by decide +kernel)
theorem kq_149 : Cond.fieldLink "PartitionKernel" 66 "PartitionKernel" "windowCount" "I" ∈ kAll := kmem 149 (by decide +kernel) (by decide +kernel)
theorem kq_150 : Cond.fieldLink "PartitionKernel" 72 "PartitionKernel" "frameTicks" "I" ∈ kAll := kmem 150 (by decide +kernel) (by decide +kernel)
theorem kq_151 : Cond.fieldLink "PartitionKernel" 94 "PartitionKernel" "sealed" "Z" ∈ kAll := kmem 151 (by decide +kernel) (by decide +kernel)
theorem kq_152 : Cond.fieldLink "PartitionKernel" 129 "PartitionKernel" "windowAtHand" "I" ∈ kAll := kmem 152 (by decide +kernel) (by decide +kernel)
theorem kq_153 : Cond.fieldLink "PartitionKernel" 161 "PartitionKernel" "ticksIntoWindow" "I" ∈ kAll := kmem 153 (by decide +kernel) (by decide +kernel)
theorem kq_154 : Cond.fieldLink "PartitionKernel" 149 "PartitionKernel" "yielded" "Z" ∈ kAll := kmem 154 (by decide +kernel) (by decide +kernel)
theorem kq_155 : Cond.fieldLink "PartitionKernel" 116 "PartitionKernel" "ticksDone" "I" ∈ kAll := kmem 155 (by decide +kernel) (by decide +kernel)
theorem kq_198 : Cond.methodLink "PartitionKernel" 33 ⟨"PartitionKernel", "refuseIfSealed", "()V"⟩ ∈ kAll := kmem 198 (by decide +kernel) (by decide +kernel)
theorem kq_200 : Cond.instanceMethod ⟨"PartitionKernel", "refuseIfSealed", "()V"⟩ ∈ kAll := kmem 200 (by decide +kernel) (by decide +kernel)
theorem kq_201 : Cond.code ⟨"PartitionKernel", "refuseIfSealed", "()V"⟩ prog_1_method_14_code 1 (Option.none) ∈ kAll := kmem 201 (by decide +kernel) (by decide +kernel)
theorem kq_270 : Cond.methodLinkNest "PartitionKernel" 36 ⟨"PartitionKernel$Partition", "isTold", "()Z"⟩ "PartitionKernel" ∈ kNest := knmem 270 (by decide +kernel) (by decide +kernel)
theorem kq_272 : Cond.instanceMethod ⟨"PartitionKernel$Partition", "isTold", "()Z"⟩ ∈ kAll := kmem 272 (by decide +kernel) (by decide +kernel)
theorem kq_273 : Cond.code ⟨"PartitionKernel$Partition", "isTold", "()Z"⟩ prog_3_method_3_code 1 (Option.some FieldType.boolean) ∈ kAll := kmem 273 (by decide +kernel) (by decide +kernel)
theorem kq_290 : Cond.methodLink "PartitionKernel" 47 ⟨"PartitionKernel", "isInMemory", "(II)Z"⟩ ∈ kAll := kmem 290 (by decide +kernel) (by decide +kernel)
theorem kq_291 : Cond.static ⟨"PartitionKernel", "isInMemory", "(II)Z"⟩ ∈ kAll := kmem 291 (by decide +kernel) (by decide +kernel)
theorem kq_292 : Cond.code ⟨"PartitionKernel", "isInMemory", "(II)Z"⟩ prog_1_method_17_code 2 (Option.some FieldType.boolean) ∈ kAll := kmem 292 (by decide +kernel) (by decide +kernel)
theorem kq_293 : Cond.methodLink "PartitionKernel" 51 ⟨"PartitionKernel", "sharesWord", "(II)Z"⟩ ∈ kAll := kmem 293 (by decide +kernel) (by decide +kernel)
theorem kq_295 : Cond.instanceMethod ⟨"PartitionKernel", "sharesWord", "(II)Z"⟩ ∈ kAll := kmem 295 (by decide +kernel) (by decide +kernel)
theorem kq_296 : Cond.code ⟨"PartitionKernel", "sharesWord", "(II)Z"⟩ prog_1_method_18_code 4 (Option.some FieldType.boolean) ∈ kAll := kmem 296 (by decide +kernel) (by decide +kernel)
theorem kq_297 : Cond.methodLinkNest "PartitionKernel" 135 ⟨"PartitionKernel$Partition", "meets", "(II)Z"⟩ "PartitionKernel" ∈ kNest := knmem 297 (by decide +kernel) (by decide +kernel)
theorem kq_299 : Cond.instanceMethod ⟨"PartitionKernel$Partition", "meets", "(II)Z"⟩ ∈ kAll := kmem 299 (by decide +kernel) (by decide +kernel)
theorem kq_300 : Cond.code ⟨"PartitionKernel$Partition", "meets", "(II)Z"⟩ prog_3_method_5_code 3 (Option.some FieldType.boolean) ∈ kAll := kmem 300 (by decide +kernel) (by decide +kernel)
theorem kq_301 : Cond.methodLink "PartitionKernel$Partition" 34 ⟨"PartitionKernel$Partition", "isTold", "()Z"⟩ ∈ kAll := kmem 301 (by decide +kernel) (by decide +kernel)
theorem kq_304 : Cond.methodLinkNest "PartitionKernel" 58 ⟨"PartitionKernel$Partition", "tell", "(IIII)V"⟩ "PartitionKernel" ∈ kNest := knmem 304 (by decide +kernel) (by decide +kernel)
theorem kq_306 : Cond.instanceMethod ⟨"PartitionKernel$Partition", "tell", "(IIII)V"⟩ ∈ kAll := kmem 306 (by decide +kernel) (by decide +kernel)
theorem kq_307 : Cond.code ⟨"PartitionKernel$Partition", "tell", "(IIII)V"⟩ prog_3_method_2_code 5 (Option.none) ∈ kAll := kmem 307 (by decide +kernel) (by decide +kernel)
theorem kq_315 : Cond.methodLink "PartitionKernel" 62 ⟨"PartitionKernel", "refuseUnlessTold", "(I)V"⟩ ∈ kAll := kmem 315 (by decide +kernel) (by decide +kernel)
theorem kq_317 : Cond.instanceMethod ⟨"PartitionKernel", "refuseUnlessTold", "(I)V"⟩ ∈ kAll := kmem 317 (by decide +kernel) (by decide +kernel)
theorem kq_318 : Cond.code ⟨"PartitionKernel", "refuseUnlessTold", "(I)V"⟩ prog_1_method_15_code 2 (Option.none) ∈ kAll := kmem 318 (by decide +kernel) (by decide +kernel)
theorem kq_330 : Cond.methodLinkNest "PartitionKernel" 82 ⟨"PartitionKernel$Channel", "tell", "(III)V"⟩ "PartitionKernel" ∈ kNest := knmem 330 (by decide +kernel) (by decide +kernel)
theorem kq_332 : Cond.instanceMethod ⟨"PartitionKernel$Channel", "tell", "(III)V"⟩ ∈ kAll := kmem 332 (by decide +kernel) (by decide +kernel)
theorem kq_333 : Cond.code ⟨"PartitionKernel$Channel", "tell", "(III)V"⟩ prog_2_method_2_code 4 (Option.none) ∈ kAll := kmem 333 (by decide +kernel) (by decide +kernel)
theorem kq_342 : Cond.methodLink "PartitionKernel" 85 ⟨"PartitionKernel", "addressOf", "(II)I"⟩ ∈ kAll := kmem 342 (by decide +kernel) (by decide +kernel)
theorem kq_344 : Cond.instanceMethod ⟨"PartitionKernel", "addressOf", "(II)I"⟩ ∈ kAll := kmem 344 (by decide +kernel) (by decide +kernel)
theorem kq_345 : Cond.code ⟨"PartitionKernel", "addressOf", "(II)I"⟩ prog_1_method_19_code 3 (Option.some FieldType.int) ∈ kAll := kmem 345 (by decide +kernel) (by decide +kernel)
theorem kq_346 : Cond.methodLinkNest "PartitionKernel" 138 ⟨"PartitionKernel$Partition", "holds", "(I)Z"⟩ "PartitionKernel" ∈ kNest := knmem 346 (by decide +kernel) (by decide +kernel)
theorem kq_348 : Cond.instanceMethod ⟨"PartitionKernel$Partition", "holds", "(I)Z"⟩ ∈ kAll := kmem 348 (by decide +kernel) (by decide +kernel)
theorem kq_349 : Cond.code ⟨"PartitionKernel$Partition", "holds", "(I)Z"⟩ prog_3_method_4_code 2 (Option.some FieldType.boolean) ∈ kAll := kmem 349 (by decide +kernel) (by decide +kernel)
theorem kq_390 : Cond.methodLink "PartitionKernel" 101 ⟨"PartitionKernel", "goOneTick", "()Z"⟩ ∈ kAll := kmem 390 (by decide +kernel) (by decide +kernel)
theorem kq_392 : Cond.instanceMethod ⟨"PartitionKernel", "goOneTick", "()Z"⟩ ∈ kAll := kmem 392 (by decide +kernel) (by decide +kernel)
theorem kq_393 : Cond.code ⟨"PartitionKernel", "goOneTick", "()Z"⟩ prog_1_method_20_code 3 (Option.some FieldType.boolean) ∈ kAll := kmem 393 (by decide +kernel) (by decide +kernel)
theorem kq_394 : Cond.methodLink "PartitionKernel" 155 ⟨"PartitionKernel", "runInstruction", "(I)V"⟩ ∈ kAll := kmem 394 (by decide +kernel) (by decide +kernel)
theorem kq_396 : Cond.instanceMethod ⟨"PartitionKernel", "runInstruction", "(I)V"⟩ ∈ kAll := kmem 396 (by decide +kernel) (by decide +kernel)
theorem kq_397 : Cond.code ⟨"PartitionKernel", "runInstruction", "(I)V"⟩ prog_1_method_22_code 5 (Option.none) ∈ kAll := kmem 397 (by decide +kernel) (by decide +kernel)
theorem kq_398 : Cond.methodLink "PartitionKernel" 167 ⟨"PartitionKernel", "perform", "(II)I"⟩ ∈ kAll := kmem 398 (by decide +kernel) (by decide +kernel)
theorem kq_400 : Cond.instanceMethod ⟨"PartitionKernel", "perform", "(II)I"⟩ ∈ kAll := kmem 400 (by decide +kernel) (by decide +kernel)
theorem kq_401 : Cond.code ⟨"PartitionKernel", "perform", "(II)I"⟩ prog_1_method_23_code 8 (Option.some FieldType.int) ∈ kAll := kmem 401 (by decide +kernel) (by decide +kernel)
theorem kq_402 : Cond.methodLink "PartitionKernel" 179 ⟨"PartitionKernel", "load", "(LPartitionKernel$Partition;II)I"⟩ ∈ kAll := kmem 402 (by decide +kernel) (by decide +kernel)
theorem kq_404 : Cond.instanceMethod ⟨"PartitionKernel", "load", "(LPartitionKernel$Partition;II)I"⟩ ∈ kAll := kmem 404 (by decide +kernel) (by decide +kernel)
theorem kq_405 : Cond.code ⟨"PartitionKernel", "load", "(LPartitionKernel$Partition;II)I"⟩ prog_1_method_25_code 4 (Option.some FieldType.int) ∈ kAll := kmem 405 (by decide +kernel) (by decide +kernel)
theorem kq_406 : Cond.methodLink "PartitionKernel" 183 ⟨"PartitionKernel", "store", "(LPartitionKernel$Partition;II)I"⟩ ∈ kAll := kmem 406 (by decide +kernel) (by decide +kernel)
theorem kq_408 : Cond.instanceMethod ⟨"PartitionKernel", "store", "(LPartitionKernel$Partition;II)I"⟩ ∈ kAll := kmem 408 (by decide +kernel) (by decide +kernel)
theorem kq_409 : Cond.code ⟨"PartitionKernel", "store", "(LPartitionKernel$Partition;II)I"⟩ prog_1_method_26_code 4 (Option.some FieldType.int) ∈ kAll := kmem 409 (by decide +kernel) (by decide +kernel)
theorem kq_410 : Cond.methodLinkNest "PartitionKernel" 186 ⟨"PartitionKernel$Partition", "jumpIf", "(ZI)V"⟩ "PartitionKernel" ∈ kNest := knmem 410 (by decide +kernel) (by decide +kernel)
theorem kq_412 : Cond.instanceMethod ⟨"PartitionKernel$Partition", "jumpIf", "(ZI)V"⟩ ∈ kAll := kmem 412 (by decide +kernel) (by decide +kernel)
theorem kq_413 : Cond.code ⟨"PartitionKernel$Partition", "jumpIf", "(ZI)V"⟩ prog_3_method_6_code 3 (Option.none) ∈ kAll := kmem 413 (by decide +kernel) (by decide +kernel)
theorem kq_414 : Cond.methodLink "PartitionKernel" 190 ⟨"PartitionKernel", "send", "(IIII)I"⟩ ∈ kAll := kmem 414 (by decide +kernel) (by decide +kernel)
theorem kq_416 : Cond.instanceMethod ⟨"PartitionKernel", "send", "(IIII)I"⟩ ∈ kAll := kmem 416 (by decide +kernel) (by decide +kernel)
theorem kq_417 : Cond.code ⟨"PartitionKernel", "send", "(IIII)I"⟩ prog_1_method_27_code 6 (Option.some FieldType.int) ∈ kAll := kmem 417 (by decide +kernel) (by decide +kernel)
theorem kq_418 : Cond.methodLink "PartitionKernel" 110 ⟨"PartitionKernel", "isChannel", "(I)Z"⟩ ∈ kAll := kmem 418 (by decide +kernel) (by decide +kernel)
theorem kq_420 : Cond.instanceMethod ⟨"PartitionKernel", "isChannel", "(I)Z"⟩ ∈ kAll := kmem 420 (by decide +kernel) (by decide +kernel)
theorem kq_421 : Cond.code ⟨"PartitionKernel", "isChannel", "(I)Z"⟩ prog_1_method_16_code 2 (Option.some FieldType.boolean) ∈ kAll := kmem 421 (by decide +kernel) (by decide +kernel)
theorem kq_422 : Cond.methodLinkNest "PartitionKernel" 203 ⟨"PartitionKernel$Channel", "put", "(II)Z"⟩ "PartitionKernel" ∈ kNest := knmem 422 (by decide +kernel) (by decide +kernel)
theorem kq_424 : Cond.instanceMethod ⟨"PartitionKernel$Channel", "put", "(II)Z"⟩ ∈ kAll := kmem 424 (by decide +kernel) (by decide +kernel)
theorem kq_425 : Cond.code ⟨"PartitionKernel$Channel", "put", "(II)Z"⟩ prog_2_method_4_code 3 (Option.some FieldType.boolean) ∈ kAll := kmem 425 (by decide +kernel) (by decide +kernel)
theorem kq_426 : Cond.methodLink "PartitionKernel$Channel" 29 ⟨"PartitionKernel$Channel", "isSlot", "()Z"⟩ ∈ kAll := kmem 426 (by decide +kernel) (by decide +kernel)
theorem kq_428 : Cond.instanceMethod ⟨"PartitionKernel$Channel", "isSlot", "()Z"⟩ ∈ kAll := kmem 428 (by decide +kernel) (by decide +kernel)
theorem kq_429 : Cond.code ⟨"PartitionKernel$Channel", "isSlot", "()Z"⟩ prog_2_method_3_code 1 (Option.some FieldType.boolean) ∈ kAll := kmem 429 (by decide +kernel) (by decide +kernel)
theorem kq_430 : Cond.methodLink "PartitionKernel$Channel" 39 ⟨"PartitionKernel$Channel", "spotOf", "(I)I"⟩ ∈ kAll := kmem 430 (by decide +kernel) (by decide +kernel)
theorem kq_432 : Cond.instanceMethod ⟨"PartitionKernel$Channel", "spotOf", "(I)I"⟩ ∈ kAll := kmem 432 (by decide +kernel) (by decide +kernel)
theorem kq_433 : Cond.code ⟨"PartitionKernel$Channel", "spotOf", "(I)I"⟩ prog_2_method_7_code 2 (Option.some FieldType.int) ∈ kAll := kmem 433 (by decide +kernel) (by decide +kernel)
theorem kq_434 : Cond.methodLink "PartitionKernel" 194 ⟨"PartitionKernel", "take", "(IIII)I"⟩ ∈ kAll := kmem 434 (by decide +kernel) (by decide +kernel)
theorem kq_436 : Cond.instanceMethod ⟨"PartitionKernel", "take", "(IIII)I"⟩ ∈ kAll := kmem 436 (by decide +kernel) (by decide +kernel)
theorem kq_437 : Cond.code ⟨"PartitionKernel", "take", "(IIII)I"⟩ prog_1_method_28_code 7 (Option.some FieldType.int) ∈ kAll := kmem 437 (by decide +kernel) (by decide +kernel)
theorem kq_438 : Cond.methodLinkNest "PartitionKernel" 126 ⟨"PartitionKernel$Channel", "wordAt", "(I)I"⟩ "PartitionKernel" ∈ kNest := knmem 438 (by decide +kernel) (by decide +kernel)
theorem kq_440 : Cond.instanceMethod ⟨"PartitionKernel$Channel", "wordAt", "(I)I"⟩ ∈ kAll := kmem 440 (by decide +kernel) (by decide +kernel)
theorem kq_441 : Cond.code ⟨"PartitionKernel$Channel", "wordAt", "(I)I"⟩ prog_2_method_6_code 2 (Option.some FieldType.int) ∈ kAll := kmem 441 (by decide +kernel) (by decide +kernel)
theorem kq_442 : Cond.methodLinkNest "PartitionKernel" 123 ⟨"PartitionKernel$Channel", "isSlot", "()Z"⟩ "PartitionKernel" ∈ kNest := knmem 442 (by decide +kernel) (by decide +kernel)
theorem kq_443 : Cond.methodLinkNest "PartitionKernel" 212 ⟨"PartitionKernel$Channel", "age", "(I)I"⟩ "PartitionKernel" ∈ kNest := knmem 443 (by decide +kernel) (by decide +kernel)
theorem kq_445 : Cond.instanceMethod ⟨"PartitionKernel$Channel", "age", "(I)I"⟩ ∈ kAll := kmem 445 (by decide +kernel) (by decide +kernel)
theorem kq_446 : Cond.code ⟨"PartitionKernel$Channel", "age", "(I)I"⟩ prog_2_method_8_code 2 (Option.some FieldType.int) ∈ kAll := kmem 446 (by decide +kernel) (by decide +kernel)
theorem kq_447 : Cond.constant "PartitionKernel$Channel" 52 1000000 ∈ kAll := kmem 447 (by decide +kernel) (by decide +kernel)
theorem kq_448 : Cond.methodLink "PartitionKernel$Channel" 53 ⟨"java/lang/Math", "min", "(II)I"⟩ ∈ kAll := kmem 448 (by decide +kernel) (by decide +kernel)
theorem kq_449 : Cond.static ⟨"java/lang/Math", "min", "(II)I"⟩ ∈ kAll := kmem 449 (by decide +kernel) (by decide +kernel)
theorem kq_450 : Cond.code ⟨"java/lang/Math", "min", "(II)I"⟩ Lib.Math.min.code 2 (Option.some FieldType.int) ∈ kAll := kmem 450 (by decide +kernel) (by decide +kernel)
theorem kq_451 : Cond.methodLinkNest "PartitionKernel" 215 ⟨"PartitionKernel$Channel", "dropTaken", "()V"⟩ "PartitionKernel" ∈ kNest := knmem 451 (by decide +kernel) (by decide +kernel)
theorem kq_453 : Cond.instanceMethod ⟨"PartitionKernel$Channel", "dropTaken", "()V"⟩ ∈ kAll := kmem 453 (by decide +kernel) (by decide +kernel)
theorem kq_454 : Cond.code ⟨"PartitionKernel$Channel", "dropTaken", "()V"⟩ prog_2_method_5_code 1 (Option.none) ∈ kAll := kmem 454 (by decide +kernel) (by decide +kernel)
theorem kq_455 : Cond.methodLink "PartitionKernel" 197 ⟨"PartitionKernel", "computed", "(IIII)I"⟩ ∈ kAll := kmem 455 (by decide +kernel) (by decide +kernel)
theorem kq_456 : Cond.static ⟨"PartitionKernel", "computed", "(IIII)I"⟩ ∈ kAll := kmem 456 (by decide +kernel) (by decide +kernel)
theorem kq_457 : Cond.code ⟨"PartitionKernel", "computed", "(IIII)I"⟩ prog_1_method_24_code 4 (Option.some FieldType.int) ∈ kAll := kmem 457 (by decide +kernel) (by decide +kernel)
theorem kq_458 : Cond.methodLinkNest "PartitionKernel" 173 ⟨"PartitionKernel$Partition", "restartAfter", "(I)Z"⟩ "PartitionKernel" ∈ kNest := knmem 458 (by decide +kernel) (by decide +kernel)
theorem kq_460 : Cond.instanceMethod ⟨"PartitionKernel$Partition", "restartAfter", "(I)Z"⟩ ∈ kAll := kmem 460 (by decide +kernel) (by decide +kernel)
theorem kq_461 : Cond.code ⟨"PartitionKernel$Partition", "restartAfter", "(I)Z"⟩ prog_3_method_7_code 2 (Option.some FieldType.boolean) ∈ kAll := kmem 461 (by decide +kernel) (by decide +kernel)
theorem kq_462 : Cond.methodLink "PartitionKernel$Partition" 44 ⟨"java/util/Arrays", "fill", "([II)V"⟩ ∈ kAll := kmem 462 (by decide +kernel) (by decide +kernel)
theorem kq_463 : Cond.static ⟨"java/util/Arrays", "fill", "([II)V"⟩ ∈ kAll := kmem 463 (by decide +kernel) (by decide +kernel)
theorem kq_464 : Cond.code ⟨"java/util/Arrays", "fill", "([II)V"⟩ prog_14_method_103_code 4 (Option.none) ∈ kAll := kmem 464 (by decide +kernel) (by decide +kernel)
theorem kq_465 : Cond.methodLink "PartitionKernel" 158 ⟨"PartitionKernel", "moveWindowOn", "()V"⟩ ∈ kAll := kmem 465 (by decide +kernel) (by decide +kernel)
theorem kq_467 : Cond.instanceMethod ⟨"PartitionKernel", "moveWindowOn", "()V"⟩ ∈ kAll := kmem 467 (by decide +kernel) (by decide +kernel)
theorem kq_468 : Cond.code ⟨"PartitionKernel", "moveWindowOn", "()V"⟩ prog_1_method_21_code 1 (Option.none) ∈ kAll := kmem 468 (by decide +kernel) (by decide +kernel)
theorem kq_477 : Cond.methodLinkNest "PartitionKernel" 106 ⟨"PartitionKernel$Partition", "report", "(I)I"⟩ "PartitionKernel" ∈ kNest := knmem 477 (by decide +kernel) (by decide +kernel)
theorem kq_479 : Cond.instanceMethod ⟨"PartitionKernel$Partition", "report", "(I)I"⟩ ∈ kAll := kmem 479 (by decide +kernel) (by decide +kernel)
theorem kq_480 : Cond.code ⟨"PartitionKernel$Partition", "report", "(I)I"⟩ prog_3_method_8_code 2 (Option.some FieldType.int) ∈ kAll := kmem 480 (by decide +kernel) (by decide +kernel)
theorem kq_489 : Cond.methodLinkNest "PartitionKernel" 119 ⟨"PartitionKernel$Channel", "report", "(II)I"⟩ "PartitionKernel" ∈ kNest := knmem 489 (by decide +kernel) (by decide +kernel)
theorem kq_491 : Cond.instanceMethod ⟨"PartitionKernel$Channel", "report", "(II)I"⟩ ∈ kAll := kmem 491 (by decide +kernel) (by decide +kernel)
theorem kq_492 : Cond.code ⟨"PartitionKernel$Channel", "report", "(II)I"⟩ prog_2_method_9_code 3 (Option.some FieldType.int) ∈ kAll := kmem 492 (by decide +kernel) (by decide +kernel)
theorem kq_493 : Cond.methodLink "PartitionKernel$Channel" 59 ⟨"PartitionKernel$Channel", "wordAt", "(I)I"⟩ ∈ kAll := kmem 493 (by decide +kernel) (by decide +kernel)
theorem kq_494 : Cond.methodLink "PartitionKernel$Channel" 62 ⟨"PartitionKernel$Channel", "age", "(I)I"⟩ ∈ kAll := kmem 494 (by decide +kernel) (by decide +kernel)
theorem kq_509 : Cond.fieldLink "PartitionKernelModel" 77 "PartitionKernelModel" "thrown" "I" ∈ kAll := kmem 509 (by decide +kernel) (by decide +kernel)
theorem kq_510 : Cond.fieldLink "PartitionKernelModel" 7 "PartitionKernelModel" "memory" "[I" ∈ kAll := kmem 510 (by decide +kernel) (by decide +kernel)
theorem kq_511 : Cond.fieldLink "PartitionKernelModel" 13 "PartitionKernelModel" "base" "[I" ∈ kAll := kmem 511 (by decide +kernel) (by decide +kernel)
theorem kq_512 : Cond.fieldLink "PartitionKernelModel" 16 "PartitionKernelModel" "length" "[I" ∈ kAll := kmem 512 (by decide +kernel) (by decide +kernel)
theorem kq_513 : Cond.fieldLink "PartitionKernelModel" 19 "PartitionKernelModel" "entry" "[I" ∈ kAll := kmem 513 (by decide +kernel) (by decide +kernel)
theorem kq_514 : Cond.fieldLink "PartitionKernelModel" 22 "PartitionKernelModel" "state" "[I" ∈ kAll := kmem 514 (by decide +kernel) (by decide +kernel)
theorem kq_515 : Cond.fieldLink "PartitionKernelModel" 25 "PartitionKernelModel" "place" "[I" ∈ kAll := kmem 515 (by decide +kernel) (by decide +kernel)
theorem kq_516 : Cond.fieldLink "PartitionKernelModel" 28 "PartitionKernelModel" "registers" "[I" ∈ kAll := kmem 516 (by decide +kernel) (by decide +kernel)
theorem kq_517 : Cond.fieldLink "PartitionKernelModel" 31 "PartitionKernelModel" "done" "[I" ∈ kAll := kmem 517 (by decide +kernel) (by decide +kernel)
theorem kq_518 : Cond.fieldLink "PartitionKernelModel" 34 "PartitionKernelModel" "restarts" "[I" ∈ kAll := kmem 518 (by decide +kernel) (by decide +kernel)
theorem kq_519 : Cond.fieldLink "PartitionKernelModel" 37 "PartitionKernelModel" "lastFault" "[I" ∈ kAll := kmem 519 (by decide +kernel) (by decide +kernel)
theorem kq_520 : Cond.fieldLink "PartitionKernelModel" 40 "PartitionKernelModel" "faults" "[I" ∈ kAll := kmem 520 (by decide +kernel) (by decide +kernel)
theorem kq_521 : Cond.fieldLink "PartitionKernelModel" 93 "PartitionKernelModel" "windows" "I" ∈ kAll := kmem 521 (by decide +kernel) (by decide +kernel)
theorem kq_522 : Cond.fieldLink "PartitionKernelModel" 43 "PartitionKernelModel" "who" "[I" ∈ kAll := kmem 522 (by decide +kernel) (by decide +kernel)
theorem kq_523 : Cond.fieldLink "PartitionKernelModel" 46 "PartitionKernelModel" "longs" "[I" ∈ kAll := kmem 523 (by decide +kernel) (by decide +kernel)
theorem kq_524 : Cond.fieldLink "PartitionKernelModel" 49 "PartitionKernelModel" "isChannel" "[Z" ∈ kAll := kmem 524 (by decide +kernel) (by decide +kernel)
theorem kq_525 : Cond.fieldLink "PartitionKernelModel" 53 "PartitionKernelModel" "source" "[I" ∈ kAll := kmem 525 (by decide +kernel) (by decide +kernel)
theorem kq_526 : Cond.fieldLink "PartitionKernelModel" 56 "PartitionKernelModel" "target" "[I" ∈ kAll := kmem 526 (by decide +kernel) (by decide +kernel)
theorem kq_527 : Cond.fieldLink "PartitionKernelModel" 59 "PartitionKernelModel" "room" "[I" ∈ kAll := kmem 527 (by decide +kernel) (by decide +kernel)
theorem kq_528 : Cond.fieldLink "PartitionKernelModel" 62 "PartitionKernelModel" "words" "[I" ∈ kAll := kmem 528 (by decide +kernel) (by decide +kernel)
theorem kq_529 : Cond.fieldLink "PartitionKernelModel" 65 "PartitionKernelModel" "many" "[I" ∈ kAll := kmem 529 (by decide +kernel) (by decide +kernel)
theorem kq_530 : Cond.fieldLink "PartitionKernelModel" 68 "PartitionKernelModel" "age" "[I" ∈ kAll := kmem 530 (by decide +kernel) (by decide +kernel)
theorem kq_531 : Cond.fieldLink "PartitionKernelModel" 71 "PartitionKernelModel" "came" "[I" ∈ kAll := kmem 531 (by decide +kernel) (by decide +kernel)
theorem kq_532 : Cond.fieldLink "PartitionKernelModel" 74 "PartitionKernelModel" "refused" "[I" ∈ kAll := kmem 532 (by decide +kernel) (by decide +kernel)
theorem kq_533 : Cond.fieldLink "PartitionKernelModel" 85 "PartitionKernelModel" "sealed" "Z" ∈ kAll := kmem 533 (by decide +kernel) (by decide +kernel)
theorem kq_534 : Cond.fieldLink "PartitionKernelModel" 120 "PartitionKernelModel" "at" "I" ∈ kAll := kmem 534 (by decide +kernel) (by decide +kernel)
theorem kq_535 : Cond.fieldLink "PartitionKernelModel" 99 "PartitionKernelModel" "left" "I" ∈ kAll := kmem 535 (by decide +kernel) (by decide +kernel)
theorem kq_536 : Cond.fieldLink "PartitionKernelModel" 112 "PartitionKernelModel" "yielded" "Z" ∈ kAll := kmem 536 (by decide +kernel) (by decide +kernel)
theorem kq_537 : Cond.fieldLink "PartitionKernelModel" 127 "PartitionKernelModel" "ticks" "I" ∈ kAll := kmem 537 (by decide +kernel) (by decide +kernel)
theorem kq_538 : Cond.fieldLink "PartitionKernelModel" 102 "PartitionKernelModel" "fault" "I" ∈ kAll := kmem 538 (by decide +kernel) (by decide +kernel)
theorem kq_609 : Cond.methodLink "PartitionKernelModel" 81 ⟨"PartitionKernelModel", "isTold", "(I)Z"⟩ ∈ kAll := kmem 609 (by decide +kernel) (by decide +kernel)
theorem kq_611 : Cond.instanceMethod ⟨"PartitionKernelModel", "isTold", "(I)Z"⟩ ∈ kAll := kmem 611 (by decide +kernel) (by decide +kernel)
theorem kq_612 : Cond.code ⟨"PartitionKernelModel", "isTold", "(I)Z"⟩ prog_5_method_3_code 2 (Option.some FieldType.boolean) ∈ kAll := kmem 612 (by decide +kernel) (by decide +kernel)
theorem kq_613 : Cond.methodLink "PartitionKernelModel" 89 ⟨"PartitionKernelModel", "shares", "(II)Z"⟩ ∈ kAll := kmem 613 (by decide +kernel) (by decide +kernel)
theorem kq_615 : Cond.instanceMethod ⟨"PartitionKernelModel", "shares", "(II)Z"⟩ ∈ kAll := kmem 615 (by decide +kernel) (by decide +kernel)
theorem kq_616 : Cond.code ⟨"PartitionKernelModel", "shares", "(II)Z"⟩ prog_5_method_4_code 4 (Option.some FieldType.boolean) ∈ kAll := kmem 616 (by decide +kernel) (by decide +kernel)
theorem kq_629 : Cond.methodLink "PartitionKernelModel" 96 ⟨"PartitionKernelModel", "noWord", "(II)Z"⟩ ∈ kAll := kmem 629 (by decide +kernel) (by decide +kernel)
theorem kq_631 : Cond.instanceMethod ⟨"PartitionKernelModel", "noWord", "(II)Z"⟩ ∈ kAll := kmem 631 (by decide +kernel) (by decide +kernel)
theorem kq_632 : Cond.code ⟨"PartitionKernelModel", "noWord", "(II)Z"⟩ prog_5_method_8_code 3 (Option.some FieldType.boolean) ∈ kAll := kmem 632 (by decide +kernel) (by decide +kernel)
theorem kq_645 : Cond.constant "PartitionKernelModel" 119 1000000 ∈ kAll := kmem 645 (by decide +kernel) (by decide +kernel)
theorem kq_646 : Cond.methodLink "PartitionKernelModel" 123 ⟨"PartitionKernelModel", "instruction", "(I)V"⟩ ∈ kAll := kmem 646 (by decide +kernel) (by decide +kernel)
theorem kq_648 : Cond.instanceMethod ⟨"PartitionKernelModel", "instruction", "(I)V"⟩ ∈ kAll := kmem 648 (by decide +kernel) (by decide +kernel)
theorem kq_649 : Cond.code ⟨"PartitionKernelModel", "instruction", "(I)V"⟩ prog_5_method_15_code 3 (Option.none) ∈ kAll := kmem 649 (by decide +kernel) (by decide +kernel)
theorem kq_650 : Cond.methodLink "PartitionKernelModel" 115 ⟨"PartitionKernelModel", "act", "(II)V"⟩ ∈ kAll := kmem 650 (by decide +kernel) (by decide +kernel)
theorem kq_652 : Cond.instanceMethod ⟨"PartitionKernelModel", "act", "(II)V"⟩ ∈ kAll := kmem 652 (by decide +kernel) (by decide +kernel)
theorem kq_653 : Cond.code ⟨"PartitionKernelModel", "act", "(II)V"⟩ prog_5_method_14_code 12 (Option.none) ∈ kAll := kmem 653 (by decide +kernel) (by decide +kernel)
theorem kq_654 : Cond.methodLink "PartitionKernelModel" 105 ⟨"PartitionKernelModel", "send", "(IIII)V"⟩ ∈ kAll := kmem 654 (by decide +kernel) (by decide +kernel)
theorem kq_656 : Cond.instanceMethod ⟨"PartitionKernelModel", "send", "(IIII)V"⟩ ∈ kAll := kmem 656 (by decide +kernel) (by decide +kernel)
theorem kq_657 : Cond.code ⟨"PartitionKernelModel", "send", "(IIII)V"⟩ prog_5_method_12_code 5 (Option.none) ∈ kAll := kmem 657 (by decide +kernel) (by decide +kernel)
theorem kq_658 : Cond.methodLink "PartitionKernelModel" 109 ⟨"PartitionKernelModel", "take", "(IIII)V"⟩ ∈ kAll := kmem 658 (by decide +kernel) (by decide +kernel)
theorem kq_660 : Cond.instanceMethod ⟨"PartitionKernelModel", "take", "(IIII)V"⟩ ∈ kAll := kmem 660 (by decide +kernel) (by decide +kernel)
theorem kq_661 : Cond.code ⟨"PartitionKernelModel", "take", "(IIII)V"⟩ prog_5_method_13_code 6 (Option.none) ∈ kAll := kmem 661 (by decide +kernel) (by decide +kernel)
theorem kq_670 : Cond.methodLink "PartitionKernelModel" 130 ⟨"PartitionKernelModel", "noChannel", "(I)Z"⟩ ∈ kAll := kmem 670 (by decide +kernel) (by decide +kernel)
theorem kq_672 : Cond.instanceMethod ⟨"PartitionKernelModel", "noChannel", "(I)Z"⟩ ∈ kAll := kmem 672 (by decide +kernel) (by decide +kernel)
theorem kq_673 : Cond.code ⟨"PartitionKernelModel", "noChannel", "(I)Z"⟩ prog_5_method_18_code 2 (Option.some FieldType.boolean) ∈ kAll := kmem 673 (by decide +kernel) (by decide +kernel)
theorem kl_X0_29 : kLV RX0 29 yX0_isSlot (.code yX0_isSlot cX0_isSlot 1 (some .boolean)) := ⟨kq_426, kq_428, kq_19, kq_40, kq_429⟩
theorem kl_X0_39 : kLV RX0 39 yX0_spotOf (.code yX0_spotOf cX0_spotOf 2 (some .int)) := ⟨kq_430, kq_432, kq_20, kq_40, kq_433⟩
theorem kl_X0_59 : kLV RX0 59 yX0_wordAt (.code yX0_wordAt cX0_wordAt 2 (some .int)) := ⟨kq_493, kq_440, kq_22, kq_40, kq_441⟩
theorem kl_X0_62 : kLV RX0 62 yX0_age (.code yX0_age cX0_age 2 (some .int)) := ⟨kq_494, kq_445, kq_23, kq_40, kq_446⟩
theorem kl_X1_34 : kLV RX1 34 yX1_isTold (.code yX1_isTold cX1_isTold 1 (some .boolean)) := ⟨kq_301, kq_272, kq_2, kq_39, kq_273⟩
theorem kl_X1_44 : kLS RX1 44 yJ7_fill_53178 (.code yJ7_fill_53178 cJ7_fill_53178 4 none) := ⟨kq_462, kq_463, kq_49, kq_464⟩
theorem kl_X2_33 : kLV RX2 33 yX2_refuseIfSealed (.code yX2_refuseIfSealed cX2_refuseIfSealed 1 none) := ⟨kq_198, kq_200, kq_0, kq_38, kq_201⟩
theorem kl_X2_36 : kLN RX2 36 yX1_isTold (.code yX1_isTold cX1_isTold 1 (some .boolean)) := ⟨kq_270, kq_272, kq_2, kq_39, kq_273⟩
theorem kl_X2_47 : kLS RX2 47 yX2_isInMemory (.code yX2_isInMemory cX2_isInMemory 2 (some .boolean)) := ⟨kq_290, kq_291, kq_38, kq_292⟩
theorem kl_X2_51 : kLV RX2 51 yX2_sharesWord (.code yX2_sharesWord cX2_sharesWord 4 (some .boolean)) := ⟨kq_293, kq_295, kq_3, kq_38, kq_296⟩
theorem kl_X2_58 : kLN RX2 58 yX1_tell (.code yX1_tell cX1_tell 5 none) := ⟨kq_304, kq_306, kq_5, kq_39, kq_307⟩
theorem kl_X2_62 : kLV RX2 62 yX2_refuseUnlessTold (.code yX2_refuseUnlessTold cX2_refuseUnlessTold 2 none) := ⟨kq_315, kq_317, kq_6, kq_38, kq_318⟩
theorem kl_X2_82 : kLN RX2 82 yX0_tell (.code yX0_tell cX0_tell 4 none) := ⟨kq_330, kq_332, kq_7, kq_40, kq_333⟩
theorem kl_X2_85 : kLV RX2 85 yX2_addressOf (.code yX2_addressOf cX2_addressOf 3 (some .int)) := ⟨kq_342, kq_344, kq_8, kq_38, kq_345⟩
theorem kl_X2_101 : kLV RX2 101 yX2_goOneTick (.code yX2_goOneTick cX2_goOneTick 3 (some .boolean)) := ⟨kq_390, kq_392, kq_10, kq_38, kq_393⟩
theorem kl_X2_106 : kLN RX2 106 yX1_report (.code yX1_report cX1_report 2 (some .int)) := ⟨kq_477, kq_479, kq_27, kq_39, kq_480⟩
theorem kl_X2_110 : kLV RX2 110 yX2_isChannel (.code yX2_isChannel cX2_isChannel 2 (some .boolean)) := ⟨kq_418, kq_420, kq_17, kq_38, kq_421⟩
theorem kl_X2_119 : kLN RX2 119 yX0_report (.code yX0_report cX0_report 3 (some .int)) := ⟨kq_489, kq_491, kq_28, kq_40, kq_492⟩
theorem kl_X2_123 : kLN RX2 123 yX0_isSlot (.code yX0_isSlot cX0_isSlot 1 (some .boolean)) := ⟨kq_442, kq_428, kq_19, kq_40, kq_429⟩
theorem kl_X2_126 : kLN RX2 126 yX0_wordAt (.code yX0_wordAt cX0_wordAt 2 (some .int)) := ⟨kq_438, kq_440, kq_22, kq_40, kq_441⟩
theorem kl_X2_135 : kLN RX2 135 yX1_meets (.code yX1_meets cX1_meets 3 (some .boolean)) := ⟨kq_297, kq_299, kq_4, kq_39, kq_300⟩
theorem kl_X2_138 : kLN RX2 138 yX1_holds (.code yX1_holds cX1_holds 2 (some .boolean)) := ⟨kq_346, kq_348, kq_9, kq_39, kq_349⟩
theorem kl_X2_155 : kLV RX2 155 yX2_runInstruction (.code yX2_runInstruction cX2_runInstruction 5 none) := ⟨kq_394, kq_396, kq_11, kq_38, kq_397⟩
theorem kl_X2_158 : kLV RX2 158 yX2_moveWindowOn (.code yX2_moveWindowOn cX2_moveWindowOn 1 none) := ⟨kq_465, kq_467, kq_26, kq_38, kq_468⟩
theorem kl_X2_167 : kLV RX2 167 yX2_perform (.code yX2_perform cX2_perform 8 (some .int)) := ⟨kq_398, kq_400, kq_12, kq_38, kq_401⟩
theorem kl_X2_173 : kLN RX2 173 yX1_restartAfter (.code yX1_restartAfter cX1_restartAfter 2 (some .boolean)) := ⟨kq_458, kq_460, kq_25, kq_39, kq_461⟩
theorem kl_X2_179 : kLV RX2 179 yX2_load (.code yX2_load cX2_load 4 (some .int)) := ⟨kq_402, kq_404, kq_13, kq_38, kq_405⟩
theorem kl_X2_183 : kLV RX2 183 yX2_store (.code yX2_store cX2_store 4 (some .int)) := ⟨kq_406, kq_408, kq_14, kq_38, kq_409⟩
theorem kl_X2_186 : kLN RX2 186 yX1_jumpIf (.code yX1_jumpIf cX1_jumpIf 3 none) := ⟨kq_410, kq_412, kq_15, kq_39, kq_413⟩
theorem kl_X2_190 : kLV RX2 190 yX2_send (.code yX2_send cX2_send 6 (some .int)) := ⟨kq_414, kq_416, kq_16, kq_38, kq_417⟩
theorem kl_X2_194 : kLV RX2 194 yX2_take (.code yX2_take cX2_take 7 (some .int)) := ⟨kq_434, kq_436, kq_21, kq_38, kq_437⟩
theorem kl_X2_197 : kLS RX2 197 yX2_computed (.code yX2_computed cX2_computed 4 (some .int)) := ⟨kq_455, kq_456, kq_38, kq_457⟩
theorem kl_X2_203 : kLN RX2 203 yX0_put (.code yX0_put cX0_put 3 (some .boolean)) := ⟨kq_422, kq_424, kq_18, kq_40, kq_425⟩
theorem kl_X2_212 : kLN RX2 212 yX0_age (.code yX0_age cX0_age 2 (some .int)) := ⟨kq_443, kq_445, kq_23, kq_40, kq_446⟩
theorem kl_X2_215 : kLN RX2 215 yX0_dropTaken (.code yX0_dropTaken cX0_dropTaken 1 none) := ⟨kq_451, kq_453, kq_24, kq_40, kq_454⟩
theorem kl_X3_81 : kLV RX3 81 yX3_isTold (.code yX3_isTold cX3_isTold 2 (some .boolean)) := ⟨kq_609, kq_611, kq_29, kq_41, kq_612⟩
theorem kl_X3_89 : kLV RX3 89 yX3_shares (.code yX3_shares cX3_shares 4 (some .boolean)) := ⟨kq_613, kq_615, kq_30, kq_41, kq_616⟩
theorem kl_X3_96 : kLV RX3 96 yX3_noWord (.code yX3_noWord cX3_noWord 3 (some .boolean)) := ⟨kq_629, kq_631, kq_31, kq_41, kq_632⟩
theorem kl_X3_105 : kLV RX3 105 yX3_send (.code yX3_send cX3_send 5 none) := ⟨kq_654, kq_656, kq_34, kq_41, kq_657⟩
theorem kl_X3_109 : kLV RX3 109 yX3_take (.code yX3_take cX3_take 6 none) := ⟨kq_658, kq_660, kq_35, kq_41, kq_661⟩
theorem kl_X3_115 : kLV RX3 115 yX3_act (.code yX3_act cX3_act 12 none) := ⟨kq_650, kq_652, kq_33, kq_41, kq_653⟩
theorem kl_X3_123 : kLV RX3 123 yX3_instruction (.code yX3_instruction cX3_instruction 3 none) := ⟨kq_646, kq_648, kq_32, kq_41, kq_649⟩
theorem kl_X3_130 : kLV RX3 130 yX3_noChannel (.code yX3_noChannel cX3_noChannel 2 (some .boolean)) := ⟨kq_670, kq_672, kq_36, kq_41, kq_673⟩
theorem yk_X0_isSlot : kYok yX0_isSlot 0 := by unfold kYok; decide +kernel
theorem yk_X0_spotOf : kYok yX0_spotOf 1 := by unfold kYok; decide +kernel
theorem yk_X0_wordAt : kYok yX0_wordAt 1 := by unfold kYok; decide +kernel
theorem yk_X0_age : kYok yX0_age 1 := by unfold kYok; decide +kernel
theorem yk_X1_isTold : kYok yX1_isTold 0 := by unfold kYok; decide +kernel
theorem yk_J7_fill_53178 : kYok yJ7_fill_53178 2 := by unfold kYok; decide +kernel
theorem yk_X2_refuseIfSealed : kYok yX2_refuseIfSealed 0 := by unfold kYok; decide +kernel
theorem yk_X2_isInMemory : kYok yX2_isInMemory 2 := by unfold kYok; decide +kernel
theorem yk_X2_sharesWord : kYok yX2_sharesWord 2 := by unfold kYok; decide +kernel
theorem yk_X1_tell : kYok yX1_tell 4 := by unfold kYok; decide +kernel
theorem yk_X2_refuseUnlessTold : kYok yX2_refuseUnlessTold 1 := by unfold kYok; decide +kernel
theorem yk_X0_tell : kYok yX0_tell 3 := by unfold kYok; decide +kernel
theorem yk_X2_addressOf : kYok yX2_addressOf 2 := by unfold kYok; decide +kernel
theorem yk_X2_goOneTick : kYok yX2_goOneTick 0 := by unfold kYok; decide +kernel
theorem yk_X1_report : kYok yX1_report 1 := by unfold kYok; decide +kernel
theorem yk_X2_isChannel : kYok yX2_isChannel 1 := by unfold kYok; decide +kernel
theorem yk_X0_report : kYok yX0_report 2 := by unfold kYok; decide +kernel
theorem yk_X1_meets : kYok yX1_meets 2 := by unfold kYok; decide +kernel
theorem yk_X1_holds : kYok yX1_holds 1 := by unfold kYok; decide +kernel
theorem yk_X2_runInstruction : kYok yX2_runInstruction 1 := by unfold kYok; decide +kernel
theorem yk_X2_moveWindowOn : kYok yX2_moveWindowOn 0 := by unfold kYok; decide +kernel
theorem yk_X2_perform : kYok yX2_perform 2 := by unfold kYok; decide +kernel
theorem yk_X1_restartAfter : kYok yX1_restartAfter 1 := by unfold kYok; decide +kernel
theorem yk_X2_load : kYok yX2_load 3 := by unfold kYok; decide +kernel
theorem yk_X2_store : kYok yX2_store 3 := by unfold kYok; decide +kernel
theorem yk_X1_jumpIf : kYok yX1_jumpIf 2 := by unfold kYok; decide +kernel
theorem yk_X2_send : kYok yX2_send 4 := by unfold kYok; decide +kernel
theorem yk_X2_take : kYok yX2_take 4 := by unfold kYok; decide +kernel
theorem yk_X2_computed : kYok yX2_computed 4 := by unfold kYok; decide +kernel
theorem yk_X0_put : kYok yX0_put 2 := by unfold kYok; decide +kernel
theorem yk_X0_dropTaken : kYok yX0_dropTaken 0 := by unfold kYok; decide +kernel
theorem yk_X3_isTold : kYok yX3_isTold 1 := by unfold kYok; decide +kernel
theorem yk_X3_shares : kYok yX3_shares 2 := by unfold kYok; decide +kernel
theorem yk_X3_noWord : kYok yX3_noWord 2 := by unfold kYok; decide +kernel
theorem yk_X3_send : kYok yX3_send 4 := by unfold kYok; decide +kernel
theorem yk_X3_take : kYok yX3_take 4 := by unfold kYok; decide +kernel
theorem yk_X3_act : kYok yX3_act 2 := by unfold kYok; decide +kernel
theorem yk_X3_instruction : kYok yX3_instruction 1 := by unfold kYok; decide +kernel
theorem yk_X3_noChannel : kYok yX3_noChannel 1 := by unfold kYok; decide +kernel
