section
-- ===== PART A: goes FIRST, ahead of the names: the tables' words, and 'selects' of the private methods out of them =====
/-- a private method of a class that the tables say can be made, by its rows of tables_1 -/
def lw_okq (q : MethodName × Nat) : Prop := (q.1.cls ≠ "java/lang/invoke/MethodHandle" ∧ q.1.cls ≠ "java/lang/invoke/VarHandle") ∧ Cond.instantiable q.1.cls q.2 ∈ tables_1 ∧ Cond.privateMethod q.1 ∈ tables_1 ∧ Cond.instanceMethod q.1 ∈ tables_1
theorem lw_p0 : lw_okq (⟨"PartitionKernel", "refuseIfSealed", "()V"⟩, 12) := ⟨⟨by decide +kernel, by decide +kernel⟩, List.mem_of_getElem? (i := 14) (by decide +kernel), List.mem_of_getElem? (i := 162) (by decide +kernel), List.mem_of_getElem? (i := 163) (by decide +kernel)⟩
theorem lw_p1 : lw_okq (⟨"java/lang/Throwable", "fillInStackTrace", "(I)Ljava/lang/Throwable;"⟩, 6) := ⟨⟨by decide +kernel, by decide +kernel⟩, List.mem_of_getElem? (i := 204) (by decide +kernel), List.mem_of_getElem? (i := 202) (by decide +kernel), List.mem_of_getElem? (i := 203) (by decide +kernel)⟩
theorem lw_p2 : lw_okq (⟨"PartitionKernel$Partition", "isTold", "()Z"⟩, 10) := ⟨⟨by decide +kernel, by decide +kernel⟩, List.mem_of_getElem? (i := 23) (by decide +kernel), List.mem_of_getElem? (i := 234) (by decide +kernel), List.mem_of_getElem? (i := 235) (by decide +kernel)⟩
theorem lw_p3 : lw_okq (⟨"PartitionKernel", "sharesWord", "(II)Z"⟩, 12) := ⟨⟨by decide +kernel, by decide +kernel⟩, List.mem_of_getElem? (i := 14) (by decide +kernel), List.mem_of_getElem? (i := 257) (by decide +kernel), List.mem_of_getElem? (i := 258) (by decide +kernel)⟩
theorem lw_p4 : lw_okq (⟨"PartitionKernel$Partition", "meets", "(II)Z"⟩, 10) := ⟨⟨by decide +kernel, by decide +kernel⟩, List.mem_of_getElem? (i := 23) (by decide +kernel), List.mem_of_getElem? (i := 261) (by decide +kernel), List.mem_of_getElem? (i := 262) (by decide +kernel)⟩
theorem lw_p5 : lw_okq (⟨"PartitionKernel$Partition", "tell", "(IIII)V"⟩, 10) := ⟨⟨by decide +kernel, by decide +kernel⟩, List.mem_of_getElem? (i := 23) (by decide +kernel), List.mem_of_getElem? (i := 268) (by decide +kernel), List.mem_of_getElem? (i := 269) (by decide +kernel)⟩
theorem lw_p6 : lw_okq (⟨"PartitionKernel", "refuseUnlessTold", "(I)V"⟩, 12) := ⟨⟨by decide +kernel, by decide +kernel⟩, List.mem_of_getElem? (i := 14) (by decide +kernel), List.mem_of_getElem? (i := 279) (by decide +kernel), List.mem_of_getElem? (i := 280) (by decide +kernel)⟩
theorem lw_p7 : lw_okq (⟨"PartitionKernel$Channel", "tell", "(III)V"⟩, 10) := ⟨⟨by decide +kernel, by decide +kernel⟩, List.mem_of_getElem? (i := 67) (by decide +kernel), List.mem_of_getElem? (i := 294) (by decide +kernel), List.mem_of_getElem? (i := 295) (by decide +kernel)⟩
theorem lw_p8 : lw_okq (⟨"PartitionKernel", "addressOf", "(II)I"⟩, 12) := ⟨⟨by decide +kernel, by decide +kernel⟩, List.mem_of_getElem? (i := 14) (by decide +kernel), List.mem_of_getElem? (i := 306) (by decide +kernel), List.mem_of_getElem? (i := 307) (by decide +kernel)⟩
theorem lw_p9 : lw_okq (⟨"PartitionKernel$Partition", "holds", "(I)Z"⟩, 10) := ⟨⟨by decide +kernel, by decide +kernel⟩, List.mem_of_getElem? (i := 23) (by decide +kernel), List.mem_of_getElem? (i := 310) (by decide +kernel), List.mem_of_getElem? (i := 311) (by decide +kernel)⟩
theorem lw_p10 : lw_okq (⟨"PartitionKernel", "goOneTick", "()Z"⟩, 12) := ⟨⟨by decide +kernel, by decide +kernel⟩, List.mem_of_getElem? (i := 14) (by decide +kernel), List.mem_of_getElem? (i := 354) (by decide +kernel), List.mem_of_getElem? (i := 355) (by decide +kernel)⟩
theorem lw_p11 : lw_okq (⟨"PartitionKernel", "runInstruction", "(I)V"⟩, 12) := ⟨⟨by decide +kernel, by decide +kernel⟩, List.mem_of_getElem? (i := 14) (by decide +kernel), List.mem_of_getElem? (i := 358) (by decide +kernel), List.mem_of_getElem? (i := 359) (by decide +kernel)⟩
theorem lw_p12 : lw_okq (⟨"PartitionKernel", "perform", "(II)I"⟩, 12) := ⟨⟨by decide +kernel, by decide +kernel⟩, List.mem_of_getElem? (i := 14) (by decide +kernel), List.mem_of_getElem? (i := 362) (by decide +kernel), List.mem_of_getElem? (i := 363) (by decide +kernel)⟩
theorem lw_p13 : lw_okq (⟨"PartitionKernel", "load", "(LPartitionKernel$Partition;II)I"⟩, 12) := ⟨⟨by decide +kernel, by decide +kernel⟩, List.mem_of_getElem? (i := 14) (by decide +kernel), List.mem_of_getElem? (i := 366) (by decide +kernel), List.mem_of_getElem? (i := 367) (by decide +kernel)⟩
theorem lw_p14 : lw_okq (⟨"PartitionKernel", "store", "(LPartitionKernel$Partition;II)I"⟩, 12) := ⟨⟨by decide +kernel, by decide +kernel⟩, List.mem_of_getElem? (i := 14) (by decide +kernel), List.mem_of_getElem? (i := 370) (by decide +kernel), List.mem_of_getElem? (i := 371) (by decide +kernel)⟩
theorem lw_p15 : lw_okq (⟨"PartitionKernel$Partition", "jumpIf", "(ZI)V"⟩, 10) := ⟨⟨by decide +kernel, by decide +kernel⟩, List.mem_of_getElem? (i := 23) (by decide +kernel), List.mem_of_getElem? (i := 374) (by decide +kernel), List.mem_of_getElem? (i := 375) (by decide +kernel)⟩
def lw_privs_1 : List (MethodName × Nat) := [(⟨"PartitionKernel", "refuseIfSealed", "()V"⟩, 12), (⟨"java/lang/Throwable", "fillInStackTrace", "(I)Ljava/lang/Throwable;"⟩, 6), (⟨"PartitionKernel$Partition", "isTold", "()Z"⟩, 10), (⟨"PartitionKernel", "sharesWord", "(II)Z"⟩, 12), (⟨"PartitionKernel$Partition", "meets", "(II)Z"⟩, 10), (⟨"PartitionKernel$Partition", "tell", "(IIII)V"⟩, 10), (⟨"PartitionKernel", "refuseUnlessTold", "(I)V"⟩, 12), (⟨"PartitionKernel$Channel", "tell", "(III)V"⟩, 10), (⟨"PartitionKernel", "addressOf", "(II)I"⟩, 12), (⟨"PartitionKernel$Partition", "holds", "(I)Z"⟩, 10), (⟨"PartitionKernel", "goOneTick", "()Z"⟩, 12), (⟨"PartitionKernel", "runInstruction", "(I)V"⟩, 12), (⟨"PartitionKernel", "perform", "(II)I"⟩, 12), (⟨"PartitionKernel", "load", "(LPartitionKernel$Partition;II)I"⟩, 12), (⟨"PartitionKernel", "store", "(LPartitionKernel$Partition;II)I"⟩, 12), (⟨"PartitionKernel$Partition", "jumpIf", "(ZI)V"⟩, 10)]
theorem lw_r1 : ∀ q ∈ lw_privs_1, lw_okq q := List.forall_mem_cons.mpr ⟨lw_p0, List.forall_mem_cons.mpr ⟨lw_p1, List.forall_mem_cons.mpr ⟨lw_p2, List.forall_mem_cons.mpr ⟨lw_p3, List.forall_mem_cons.mpr ⟨lw_p4, List.forall_mem_cons.mpr ⟨lw_p5, List.forall_mem_cons.mpr ⟨lw_p6, List.forall_mem_cons.mpr ⟨lw_p7, List.forall_mem_cons.mpr ⟨lw_p8, List.forall_mem_cons.mpr ⟨lw_p9, List.forall_mem_cons.mpr ⟨lw_p10, List.forall_mem_cons.mpr ⟨lw_p11, List.forall_mem_cons.mpr ⟨lw_p12, List.forall_mem_cons.mpr ⟨lw_p13, List.forall_mem_cons.mpr ⟨lw_p14, List.forall_mem_cons.mpr ⟨lw_p15, fun _ h => absurd h List.not_mem_nil⟩⟩⟩⟩⟩⟩⟩⟩⟩⟩⟩⟩⟩⟩⟩⟩
theorem lw_p16 : lw_okq (⟨"PartitionKernel", "send", "(IIII)I"⟩, 12) := ⟨⟨by decide +kernel, by decide +kernel⟩, List.mem_of_getElem? (i := 14) (by decide +kernel), List.mem_of_getElem? (i := 378) (by decide +kernel), List.mem_of_getElem? (i := 379) (by decide +kernel)⟩
theorem lw_p17 : lw_okq (⟨"PartitionKernel", "isChannel", "(I)Z"⟩, 12) := ⟨⟨by decide +kernel, by decide +kernel⟩, List.mem_of_getElem? (i := 14) (by decide +kernel), List.mem_of_getElem? (i := 382) (by decide +kernel), List.mem_of_getElem? (i := 383) (by decide +kernel)⟩
theorem lw_p18 : lw_okq (⟨"PartitionKernel$Channel", "put", "(II)Z"⟩, 10) := ⟨⟨by decide +kernel, by decide +kernel⟩, List.mem_of_getElem? (i := 67) (by decide +kernel), List.mem_of_getElem? (i := 386) (by decide +kernel), List.mem_of_getElem? (i := 387) (by decide +kernel)⟩
theorem lw_p19 : lw_okq (⟨"PartitionKernel$Channel", "isSlot", "()Z"⟩, 10) := ⟨⟨by decide +kernel, by decide +kernel⟩, List.mem_of_getElem? (i := 67) (by decide +kernel), List.mem_of_getElem? (i := 390) (by decide +kernel), List.mem_of_getElem? (i := 391) (by decide +kernel)⟩
theorem lw_p20 : lw_okq (⟨"PartitionKernel$Channel", "spotOf", "(I)I"⟩, 10) := ⟨⟨by decide +kernel, by decide +kernel⟩, List.mem_of_getElem? (i := 67) (by decide +kernel), List.mem_of_getElem? (i := 394) (by decide +kernel), List.mem_of_getElem? (i := 395) (by decide +kernel)⟩
theorem lw_p21 : lw_okq (⟨"PartitionKernel", "take", "(IIII)I"⟩, 12) := ⟨⟨by decide +kernel, by decide +kernel⟩, List.mem_of_getElem? (i := 14) (by decide +kernel), List.mem_of_getElem? (i := 398) (by decide +kernel), List.mem_of_getElem? (i := 399) (by decide +kernel)⟩
theorem lw_p22 : lw_okq (⟨"PartitionKernel$Channel", "wordAt", "(I)I"⟩, 10) := ⟨⟨by decide +kernel, by decide +kernel⟩, List.mem_of_getElem? (i := 67) (by decide +kernel), List.mem_of_getElem? (i := 402) (by decide +kernel), List.mem_of_getElem? (i := 403) (by decide +kernel)⟩
theorem lw_p23 : lw_okq (⟨"PartitionKernel$Channel", "age", "(I)I"⟩, 10) := ⟨⟨by decide +kernel, by decide +kernel⟩, List.mem_of_getElem? (i := 67) (by decide +kernel), List.mem_of_getElem? (i := 407) (by decide +kernel), List.mem_of_getElem? (i := 408) (by decide +kernel)⟩
theorem lw_p24 : lw_okq (⟨"PartitionKernel$Channel", "dropTaken", "()V"⟩, 10) := ⟨⟨by decide +kernel, by decide +kernel⟩, List.mem_of_getElem? (i := 67) (by decide +kernel), List.mem_of_getElem? (i := 415) (by decide +kernel), List.mem_of_getElem? (i := 416) (by decide +kernel)⟩
theorem lw_p25 : lw_okq (⟨"PartitionKernel$Partition", "restartAfter", "(I)Z"⟩, 10) := ⟨⟨by decide +kernel, by decide +kernel⟩, List.mem_of_getElem? (i := 23) (by decide +kernel), List.mem_of_getElem? (i := 422) (by decide +kernel), List.mem_of_getElem? (i := 423) (by decide +kernel)⟩
theorem lw_p26 : lw_okq (⟨"PartitionKernel", "moveWindowOn", "()V"⟩, 12) := ⟨⟨by decide +kernel, by decide +kernel⟩, List.mem_of_getElem? (i := 14) (by decide +kernel), List.mem_of_getElem? (i := 429) (by decide +kernel), List.mem_of_getElem? (i := 430) (by decide +kernel)⟩
theorem lw_p27 : lw_okq (⟨"PartitionKernel$Partition", "report", "(I)I"⟩, 10) := ⟨⟨by decide +kernel, by decide +kernel⟩, List.mem_of_getElem? (i := 23) (by decide +kernel), List.mem_of_getElem? (i := 441) (by decide +kernel), List.mem_of_getElem? (i := 442) (by decide +kernel)⟩
theorem lw_p28 : lw_okq (⟨"PartitionKernel$Channel", "report", "(II)I"⟩, 10) := ⟨⟨by decide +kernel, by decide +kernel⟩, List.mem_of_getElem? (i := 67) (by decide +kernel), List.mem_of_getElem? (i := 453) (by decide +kernel), List.mem_of_getElem? (i := 454) (by decide +kernel)⟩
theorem lw_p29 : lw_okq (⟨"PartitionKernelModel", "isTold", "(I)Z"⟩, 30) := ⟨⟨by decide +kernel, by decide +kernel⟩, List.mem_of_getElem? (i := 467) (by decide +kernel), List.mem_of_getElem? (i := 573) (by decide +kernel), List.mem_of_getElem? (i := 574) (by decide +kernel)⟩
theorem lw_p30 : lw_okq (⟨"PartitionKernelModel", "shares", "(II)Z"⟩, 30) := ⟨⟨by decide +kernel, by decide +kernel⟩, List.mem_of_getElem? (i := 467) (by decide +kernel), List.mem_of_getElem? (i := 577) (by decide +kernel), List.mem_of_getElem? (i := 578) (by decide +kernel)⟩
theorem lw_p31 : lw_okq (⟨"PartitionKernelModel", "noWord", "(II)Z"⟩, 30) := ⟨⟨by decide +kernel, by decide +kernel⟩, List.mem_of_getElem? (i := 467) (by decide +kernel), List.mem_of_getElem? (i := 593) (by decide +kernel), List.mem_of_getElem? (i := 594) (by decide +kernel)⟩
def lw_privs_2 : List (MethodName × Nat) := [(⟨"PartitionKernel", "send", "(IIII)I"⟩, 12), (⟨"PartitionKernel", "isChannel", "(I)Z"⟩, 12), (⟨"PartitionKernel$Channel", "put", "(II)Z"⟩, 10), (⟨"PartitionKernel$Channel", "isSlot", "()Z"⟩, 10), (⟨"PartitionKernel$Channel", "spotOf", "(I)I"⟩, 10), (⟨"PartitionKernel", "take", "(IIII)I"⟩, 12), (⟨"PartitionKernel$Channel", "wordAt", "(I)I"⟩, 10), (⟨"PartitionKernel$Channel", "age", "(I)I"⟩, 10), (⟨"PartitionKernel$Channel", "dropTaken", "()V"⟩, 10), (⟨"PartitionKernel$Partition", "restartAfter", "(I)Z"⟩, 10), (⟨"PartitionKernel", "moveWindowOn", "()V"⟩, 12), (⟨"PartitionKernel$Partition", "report", "(I)I"⟩, 10), (⟨"PartitionKernel$Channel", "report", "(II)I"⟩, 10), (⟨"PartitionKernelModel", "isTold", "(I)Z"⟩, 30), (⟨"PartitionKernelModel", "shares", "(II)Z"⟩, 30), (⟨"PartitionKernelModel", "noWord", "(II)Z"⟩, 30)]
theorem lw_r2 : ∀ q ∈ lw_privs_2, lw_okq q := List.forall_mem_cons.mpr ⟨lw_p16, List.forall_mem_cons.mpr ⟨lw_p17, List.forall_mem_cons.mpr ⟨lw_p18, List.forall_mem_cons.mpr ⟨lw_p19, List.forall_mem_cons.mpr ⟨lw_p20, List.forall_mem_cons.mpr ⟨lw_p21, List.forall_mem_cons.mpr ⟨lw_p22, List.forall_mem_cons.mpr ⟨lw_p23, List.forall_mem_cons.mpr ⟨lw_p24, List.forall_mem_cons.mpr ⟨lw_p25, List.forall_mem_cons.mpr ⟨lw_p26, List.forall_mem_cons.mpr ⟨lw_p27, List.forall_mem_cons.mpr ⟨lw_p28, List.forall_mem_cons.mpr ⟨lw_p29, List.forall_mem_cons.mpr ⟨lw_p30, List.forall_mem_cons.mpr ⟨lw_p31, fun _ h => absurd h List.not_mem_nil⟩⟩⟩⟩⟩⟩⟩⟩⟩⟩⟩⟩⟩⟩⟩⟩
theorem lw_p32 : lw_okq (⟨"PartitionKernelModel", "instruction", "(I)V"⟩, 30) := ⟨⟨by decide +kernel, by decide +kernel⟩, List.mem_of_getElem? (i := 467) (by decide +kernel), List.mem_of_getElem? (i := 610) (by decide +kernel), List.mem_of_getElem? (i := 611) (by decide +kernel)⟩
theorem lw_p33 : lw_okq (⟨"PartitionKernelModel", "act", "(II)V"⟩, 30) := ⟨⟨by decide +kernel, by decide +kernel⟩, List.mem_of_getElem? (i := 467) (by decide +kernel), List.mem_of_getElem? (i := 614) (by decide +kernel), List.mem_of_getElem? (i := 615) (by decide +kernel)⟩
theorem lw_p34 : lw_okq (⟨"PartitionKernelModel", "send", "(IIII)V"⟩, 30) := ⟨⟨by decide +kernel, by decide +kernel⟩, List.mem_of_getElem? (i := 467) (by decide +kernel), List.mem_of_getElem? (i := 618) (by decide +kernel), List.mem_of_getElem? (i := 619) (by decide +kernel)⟩
theorem lw_p35 : lw_okq (⟨"PartitionKernelModel", "take", "(IIII)V"⟩, 30) := ⟨⟨by decide +kernel, by decide +kernel⟩, List.mem_of_getElem? (i := 467) (by decide +kernel), List.mem_of_getElem? (i := 622) (by decide +kernel), List.mem_of_getElem? (i := 623) (by decide +kernel)⟩
theorem lw_p36 : lw_okq (⟨"PartitionKernelModel", "noChannel", "(I)Z"⟩, 30) := ⟨⟨by decide +kernel, by decide +kernel⟩, List.mem_of_getElem? (i := 467) (by decide +kernel), List.mem_of_getElem? (i := 634) (by decide +kernel), List.mem_of_getElem? (i := 635) (by decide +kernel)⟩
def lw_privs_3 : List (MethodName × Nat) := [(⟨"PartitionKernelModel", "instruction", "(I)V"⟩, 30), (⟨"PartitionKernelModel", "act", "(II)V"⟩, 30), (⟨"PartitionKernelModel", "send", "(IIII)V"⟩, 30), (⟨"PartitionKernelModel", "take", "(IIII)V"⟩, 30), (⟨"PartitionKernelModel", "noChannel", "(I)Z"⟩, 30)]
theorem lw_r3 : ∀ q ∈ lw_privs_3, lw_okq q := List.forall_mem_cons.mpr ⟨lw_p32, List.forall_mem_cons.mpr ⟨lw_p33, List.forall_mem_cons.mpr ⟨lw_p34, List.forall_mem_cons.mpr ⟨lw_p35, List.forall_mem_cons.mpr ⟨lw_p36, fun _ h => absurd h List.not_mem_nil⟩⟩⟩⟩⟩
def lw_privs : List (MethodName × Nat) := lw_privs_1 ++ (lw_privs_2 ++ (lw_privs_3))
def lw_tbl : List Cond := k2_sels lw_privs ++ tables_1
theorem lw_privs_ok : ∀ q ∈ lw_privs, lw_okq q := by
  show ∀ q ∈ lw_privs_1 ++ (lw_privs_2 ++ (lw_privs_3)), lw_okq q
  exact List.forall_mem_append.mpr ⟨lw_r1, List.forall_mem_append.mpr ⟨lw_r2, lw_r3⟩⟩
/-! ===== BEGIN words of one list among another's, by their places ===== -/
theorem goodIn_r {big : List Cond} (ws : List Cond) (ps : List Nat) (hp : ws = ps.filterMap (fun i => big[i]?)) (h : ws.all goodWord = true) : GoodIn big ws := by
  intro w hw
  have h1 := List.all_eq_true.mp h w hw
  rw [hp] at hw
  obtain ⟨i, -, hi⟩ := List.mem_filterMap.mp hw
  have hm : w ∈ big := by first | exact List.mem_of_getElem? hi | exact List.getElem?_mem hi
  exact ⟨hm, good_of_word h1⟩
theorem goodIn_app {big a b : List Cond} (ha : GoodIn big a) (hb : GoodIn big b) : GoodIn big (a ++ b) := fun w h => (List.mem_append.mp h).elim (ha w) (hb w)
theorem goodIn_ca {big a b : List Cond} {c : Cond} (ha : GoodIn big (c :: a)) (hb : GoodIn big b) : GoodIn big (c :: (a ++ b)) := fun w h => (List.mem_cons.mp h).elim (fun e => ha w (List.mem_cons.mpr (Or.inl e))) (fun h => (List.mem_append.mp h).elim (fun h => ha w (List.mem_cons.mpr (Or.inr h))) (hb w))
theorem goodIn_sub {big ws : List Cond} (hm : ∀ w ∈ ws, w ∈ big) (h : ws.all goodWord = true) : GoodIn big ws := fun w hw => ⟨hm w hw, good_of_word (List.all_eq_true.mp h w hw)⟩
/-! ===== END ===== -/

/-! ===== catching behind rows that are passed (own rows; the library's laws for this lie where rounds don't reach) ===== -/
def kx_Finds (e : Env) (s : State) (f : JFrame) (a : Addr) (h : Handler) (vm' : Vm) : Prop :=
  ∀ (Q : Handler → Pre) (E : CtlPost) (d : Bool) (acts : List Action), wp (findHandler f a) Q E e d acts s ↔ Q h d acts (s.setVm vm')
def kx_Pass (pl : Platform) (s₀ : State) (d : ClassId) (pc : Nat) (thrown : ClassId) (y : ExceptionTableEntry) : Prop :=
  covers y pc = false ∨ (y.catchType ≠ 0 ∧ ∃ c, s₀.vm.ClassLinks pl d y.catchType c ∧ s₀.vm.assignable thrown c = false)
theorem kx_row {Q : Handler → Pre} {E : CtlPost} {e : Env} {d : Bool} {acts : List Action} {s : State} {f : JFrame} {a : Addr} {x : ExceptionTableEntry} {t : List ExceptionTableEntry} {c : ClassId} {cell : Cell} (hx : covers x f.pc = true) (h0 : x.catchType ≠ 0)
    (hl : s.vm.ClassLinks e.platform f.method.cls x.catchType c) (hcell : s.heap[a]? = some cell) (hobj : ∀ k, cell.vm ≠ .statics k)
    (hk : ∃ k, s.vm.classes[cell.cls]? = some k) (hc : ∃ k, s.vm.classes[c]? = some k) :
    (s.vm.assignable cell.cls c = true → (wp (findHandler.go f a (x :: t)) Q E e d acts s ↔ Q (.found x.handlerPc) d acts (s.setVm (s.vm.noted f.method.cls x.catchType (.cls c))))) ∧
    (s.vm.assignable cell.cls c = false → (wp (findHandler.go f a (x :: t)) Q E e d acts s ↔ wp (findHandler.go f a t) Q E e d acts (s.setVm (s.vm.noted f.method.cls x.catchType (.cls c))))) := by
  simp only [covers] at hx
  obtain ⟨ha, ht⟩ := (resolveClass_links e.toSetting hl).op (op := VmOp.resolveClass f.method.cls x.catchType) rfl
  have hal : s.vm.Alike (s.vm.noted f.method.cls x.catchType (.cls c)) := (Vm.Alike.refl s.vm).noted _ _ _
  obtain ⟨k1, hk1⟩ := hk
  obtain ⟨k2, hk2⟩ := hc
  obtain ⟨k1', hk1', -⟩ := hal.2.2 _ _ hk1
  obtain ⟨k2', hk2', -⟩ := hal.2.2 _ _ hk2
  constructor
  · intro hy
    have hy' : (s.vm.noted f.method.cls x.catchType (.cls c)).assignable cell.cls c = true := by rw [hal.assignable]; exact hy
    simp [findHandler.go, hx, h0, ha, ht, hcell, hobj, hk1', hk2', hy', VmOp.dirties, VmOp.acts]
  · intro hn
    have hn' : (s.vm.noted f.method.cls x.catchType (.cls c)).assignable cell.cls c = false := by rw [hal.assignable]; exact hn
    simp [findHandler.go, hx, h0, ha, ht, hcell, hobj, hk1', hk2', hn', VmOp.dirties, VmOp.acts]
theorem kx_go {e : Env} {s₀ : State} {f : JFrame} {a : Addr} {cell : Cell} (hobj : ∀ k, cell.vm ≠ .statics k) (hk0 : ∃ k, s₀.vm.classes[cell.cls]? = some k)
    (x : ExceptionTableEntry) (rest : List ExceptionTableEntry) (hx : covers x f.pc = true) (h0 : x.catchType ≠ 0) {c : ClassId} (hl : s₀.vm.ClassLinks e.platform f.method.cls x.catchType c) (hfit : s₀.vm.assignable cell.cls c = true) :
    ∀ (pre : List ExceptionTableEntry) (S : State), s₀.WarmedH S.vm → S.heap[a]? = some cell → (∀ y ∈ pre, kx_Pass e.platform s₀ f.method.cls f.pc cell.cls y) →
      ∃ vm', s₀.WarmedH vm' ∧ ∀ (Q : Handler → Pre) (E : CtlPost) (d : Bool) (acts : List Action), wp (findHandler.go f a (pre ++ x :: rest)) Q E e d acts S ↔ Q (.found x.handlerPc) d acts (S.setVm vm') := by
  obtain ⟨k0, hk0⟩ := hk0
  intro pre
  induction pre with
  | nil =>
    intro S hW hcell _
    obtain ⟨k0', hk0', -⟩ := hW.alike.2.2 _ _ hk0
    obtain ⟨dk, _, _, kt, hd, _, _, _, _, hkt, _, hopen⟩ := hl.here
    obtain ⟨kt', hkt', -⟩ := hW.alike.2.2 _ _ hkt
    exact ⟨_, hW.noted hd hopen (State.rightAt_cls hl), fun Q E d acts => (kx_row hx h0 (hW.classLinks hl) hcell hobj ⟨k0', hk0'⟩ ⟨kt', hkt'⟩).1 (by rw [hW.alike.assignable]; exact hfit)⟩
  | cons y ys ih =>
    intro S hW hcell hpass
    obtain ⟨k0', hk0', -⟩ := hW.alike.2.2 _ _ hk0
    have hrest : ∀ z ∈ ys, kx_Pass e.platform s₀ f.method.cls f.pc cell.cls z := fun z hz => hpass z (List.mem_cons_of_mem _ hz)
    rcases hpass y List.mem_cons_self with h | ⟨hy0, cy, hly, hno⟩
    · obtain ⟨vm', hW', hq⟩ := ih S hW hcell hrest
      exact ⟨vm', hW', fun Q E d acts => by
        rw [List.cons_append, Jvm.W.findHandler_go_skip h]
        exact hq Q E d acts⟩
    · by_cases hcov : covers y f.pc = true
      · obtain ⟨dk, _, _, kt, hd, _, _, _, _, hkt, _, hopen⟩ := hly.here
        obtain ⟨kt', hkt', -⟩ := hW.alike.2.2 _ _ hkt
        obtain ⟨vm', hW', hq⟩ := ih (S.setVm (S.vm.noted f.method.cls y.catchType (.cls cy))) (hW.noted hd hopen (State.rightAt_cls hly)) hcell hrest
        exact ⟨vm', hW', fun Q E d acts => by
          rw [List.cons_append, (kx_row hcov hy0 (hW.classLinks hly) hcell hobj ⟨k0', hk0'⟩ ⟨kt', hkt'⟩).2 (by rw [hW.alike.assignable]; exact hno)]
          exact hq Q E d acts⟩
      · obtain ⟨vm', hW', hq⟩ := ih S hW hcell hrest
        exact ⟨vm', hW', fun Q E d acts => by
          rw [List.cons_append, Jvm.W.findHandler_go_skip (by simpa using hcov)]
          exact hq Q E d acts⟩
theorem kx_step {tb : Tables} {e : Env} {s target : State} {g : JFrame} {c : Code} {below : List Frame} {a : Addr} (h : At s g.method c below) {pc : Nat} {vm' : Vm}
    (hfind : kx_Finds e ((s.setTop g).pushFrame (.throwing a)) g a (.found pc) vm') (hrest : Steps tb e below ((s.setVm vm').setTop { g with pc := pc, stack := [.ref a] }) target) :
    Steps tb e below ((s.setTop g).pushFrame (.throwing a)) target := by
  obtain ⟨hgo, hw⟩ := h.throwing a
  refine Steps.head hgo hw ?_
  have hIs : ∀ (u : State) (r : List Frame), kx_Finds e u g a (.found pc) vm' → (stepThrowing e u a (.java g :: r)).Is ((u.setVm vm').setFrames (.java { g with pc := pc, stack := [.ref a] } :: r)) [] := by
    intro u r hf
    simp only [stepThrowing, searchFrame, vmDo]
    generalize hr : Sem.go _ e false [] u = res
    obtain ⟨as, rfl, ha⟩ := Sem.eq_ok_of hr (a := Handler.found pc) (s' := u.setVm vm') (acts' := []) (by simp [hf _ _ _ _])
    exact ⟨rfl, ha⟩
  rw [stepThread_throwing (frames_entered h.top _), (hIs ((s.setTop g).pushFrame (.throwing a)) _ hfind).1]
  obtain ⟨g₀, hg⟩ := Option.isSome_iff_exists.mp h.top
  obtain ⟨r, hr⟩ := State.topJava?_eq_some.mp hg
  have hr' : (s.setVm vm').frames = .java g₀ :: r := hr
  have hsv : ∀ (u : State) (F G : List Frame), ((u.setFrames F).setVm vm').setFrames G = (u.setVm vm').setFrames G := fun u F G => by
    have h1 : (u.setFrames F).setVm vm' = (u.setVm vm').setFrames F := rfl
    rw [h1, State.setFrames_setFrames]
  rw [State.setTop_of_frames _ hr'] at hrest
  rw [hr, List.tail_cons, State.pushFrame, hsv, State.setTop_of_frames _ hr, hsv]
  exact hrest
theorem kx_caught {p : Program} {l : Launch} {e : Env} {R : Room} {s : State} {m₀ : MethodId} {args : Array Value} {below : List Frame} {meth : Method} {c : Code} {T : State} {locs : List Loc} {cells slots : Nat} (X : Stand p l e R s m₀ args below meth c T locs cells slots) (a : Addr) {g : JFrame} (hg : g.method = m₀)
    {cell : Cell} (hcell : T.heap[a]? = some cell) (hobj : cell.vm.isStatics = false) (hk0 : ∃ k, s.vm.classes[cell.cls]? = some k)
    (pre : List ExceptionTableEntry) (x : ExceptionTableEntry) (rest : List ExceptionTableEntry) (hsplit : c.exceptionTable.toList = pre ++ x :: rest)
    (hpass : ∀ y ∈ pre, kx_Pass e.platform s m₀.cls g.pc cell.cls y) (hx : covers x g.pc = true) (h0 : x.catchType ≠ 0) {cT : ClassId} (hl : s.vm.ClassLinks e.platform m₀.cls x.catchType cT) (hfit : s.vm.assignable cell.cls cT = true) :
    ∃ vm', Stand p l e R s m₀ args below meth c (T.setVm vm') locs cells slots ∧ Steps p.tables e below ((T.setTop g).pushFrame (.throwing a)) ((T.setVm vm').setTop { g with pc := x.handlerPc, stack := [.ref a] }) := by
  subst hg
  obtain ⟨vm', hW', hq⟩ := kx_go (e := e) (f := g) (a := a) (VmData.ne_statics_of hobj) hk0 x rest hx h0 hl hfit pre ((T.setTop g).pushFrame (.throwing a)) X.warmed hcell hpass
  have hf : kx_Finds e ((T.setTop g).pushFrame (.throwing a)) g a (.found x.handlerPc) vm' := fun Q E d acts => by
    rw [Jvm.W.findHandler_eq (s := (T.setTop g).pushFrame (.throwing a)) (meth := meth) (code := c) X.method' X.code, hsplit]
    exact hq Q E d acts
  exact ⟨vm', X.noted hW', kx_step X.here hf (Steps.refl _)⟩
/-! ===== BEGIN exceptions that leave a method, and their catching by the caller (launches without stack traces) ===== -/
section VXA
/-! The laws vx_back, vx_callV, vx_callS, vx_callSW, vx_throw0, vx_throwS follow proofs of the library, with one case more: JvmDerived/Free/Laws.lean (Back.of_free), Shelf42/LK1.lean (callV, callS), Shelf/KitTraced.lean (throwNew0V, throwNewS). -/
/-- where a method has thrown q: the class by its name, the cell, what was written, the world -/
def vx_T (XC : String → State → State → Prop) (st : State) (q : Addr) (t : State) (mc ms : Nat) (free : Addr → Prop) : Prop :=
  ∃ (E : String) (ce : Cell) (L : List Loc), XC E st t ∧ t.heap[q]? = some ce ∧ ce.vm = .none ∧ st.vm.findClass E = some ce.cls ∧ st.WarmedH t.vm ∧ st.sameButNew ({ t with vm := st.vm } : State) L mc ms ∧ ∀ z ∈ L, free z.base
def vx_Q (Qc : Array Value → State → Outcome → State → Prop) (XC : String → State → State → Prop) (mc ms : Nat) (free : Addr → Prop) : Array Value → State → Outcome → State → Prop := fun a st o t =>
  (Qc a st o t ∧ ∃ L, FrameEnd st o t L mc ms ∧ ∀ q ∈ L, free q.base) ∨ ∃ q, o = .threw q ∧ vx_T XC st q t mc ms free
/-- a callee that returns or throws -/
def vx_Met (l : Launch) (y : MethodName) (ws : List Cond) (rm : Room) (Pc : Array Value → State → Prop) (Qc : Array Value → State → Outcome → State → Prop) (XC : String → State → State → Prop) (mc ms : Nat) (free : Addr → Prop) : Prop :=
  MetFree l y (headSpec ws rm) Pc (fun _ _ _ _ _ => True) (vx_Q Qc XC mc ms free)
def vx_Post (XC : String → State → State → Prop) (mc ms : Nat) (free : Addr → Prop) : Pt → Array Value → Addr → Pt → Prop := fun A a q B =>
  ∃ (g : JFrame) (mk : MethodId) (t : State) (L : List Loc) (E : String) (ce : Cell), B.U.heap = t.heap ∧ B.U.vm = t.vm ∧ XC E (A.U.calling g mk a) t ∧ t.heap[q]? = some ce ∧ ce.vm = .none ∧ A.U.vm.findClass E = some ce.cls ∧ B.locs = A.locs ++ L ∧ (∀ z ∈ L, free z.base) ∧ B.cells = A.cells + mc ∧ B.slots = A.slots + ms
def vx_Back (l : Launch) (R : Room) (p : Program) (e : Env) (below : List Frame) (s : State) (sargs : Array Value) (y : MethodName) (len W9 : Nat)
    (Pre : Pt → Array Value → Prop) (Post : Pt → Array Value → Option Value → Pt → Prop) (PostX : Pt → Array Value → Addr → Pt → Prop) : Prop :=
  ∀ (m : MethodId) (meth : Method) (c : Code) (A : Pt) (g : JFrame) (ig : Instr) (mk : MethodId) (a : Array Value),
    Stand p l e R s m sargs below meth c A.U A.locs A.cells A.slots → g.method = m → g.locals.size = c.maxLocals → decode c.code g.pc = .ok (ig, len) →
    2 * g.monitorRoom + (g.stack.map fun v => v.category).sum ≤ W9 → A.U.methodNamed? y = some mk → Pre A a →
    (∃ (v : Option Value) (B : Pt), Stand p l e R s m sargs below meth c B.U B.locs B.cells B.slots ∧ Post A a v B ∧
      Steps p.tables e below (doInvoke e (A.U.setTop g) [] mk a).1 (B.U.setTop { g with pc := g.pc + len, stack := v.toList ++ g.stack })) ∨
    (∃ (q : Addr) (B : Pt), Stand p l e R s m sargs below meth c B.U B.locs B.cells B.slots ∧ PostX A a q B ∧
      Steps p.tables e below (doInvoke e (A.U.setTop g) [] mk a).1 ((B.U.setTop g).pushFrame (.throwing q)))
section Payer
variable {l : Launch} {R : Room} {p : Program} {e : Env} {below : List Frame} {s : State} {sargs : Array Value} {y : MethodName} {len W9 : Nat}
theorem vx_back {ws : List Cond} {rm : Room} {Pc : Array Value → State → Prop} {Qc : Array Value → State → Outcome → State → Prop} {XC : String → State → State → Prop} {mc ms : Nat} {free : Addr → Prop} {bytes : ByteArray} {maxL : Nat} {ret : Option FieldType}
    (hM : vx_Met l y ws rm Pc Qc XC mc ms free) (hblind : FrameBlind Pc) (hrc : rm.cells = mc) (hrs : rm.slots = ms)
    (hframes : rm.frames + 1 ≤ R.frames) (hlocals : W9 + (maxL + 11) + rm.locals ≤ R.locals)
    (hws : ∀ w ∈ ws, ∀ a' U, s.WarmedH U.vm → w.before a' U = true) (hcode : Cond.code y bytes maxL ret ∈ ws) (hinit : ∀ a' U, s.WarmedH U.vm → (Cond.initialized y.cls).before a' U = true) :
    vx_Back l R p e below s sargs y len W9 (PreOf R mc ms Pc) (PostOf Qc mc ms free) (vx_Post XC mc ms free) := by
  intro m meth c A g ig mk a X hg hsize hdg hW hn hp
  have h1 : (headSpec ws rm).pre.before a A.U = true := atoms_intro fun w hw => hws w hw _ _ X.warmed
  have h2 : (Cond.code y bytes maxL ret).before a A.U = true := hws _ hcode _ _ X.warmed
  have h3 : (Cond.initialized y.cls).before a A.U = true := hinit _ _ X.warmed
  have h4 : A.cells + (headSpec ws rm).room.cells ≤ R.cells := by rw [show (headSpec ws rm).room.cells = mc from hrc]; exact hp.1
  have h5 : A.slots + (headSpec ws rm).room.slots ≤ R.slots := by rw [show (headSpec ws rm).room.slots = ms from hrs]; exact hp.2.1
  have hPc : Pc a (A.U.calling g mk a) := hblind _ _ _ _ hp.2.2
  obtain ⟨U, Ls, c0, s0⟩ := A
  dsimp only [Pt.U, Pt.locs, Pt.cells, Pt.slots] at h1 h2 h3 h4 h5 X hn hPc ⊢
  obtain ⟨methY, cY, hmY, hcY, -, hlY, -, -, -, -⟩ := Cond.code_spec hn h2
  obtain ⟨kY, hkY, -⟩ := className_of_methodNamed hn
  have hinitY : kY.init = .initialized := Cond.initialized_spec (findClass_of_methodNamed hn) hkY h3
  have h : At U g.method c below := by rw [hg]; exact X.here
  have hlocals9 : W9 + (maxL + 11) + (headSpec ws rm).room.locals ≤ R.locals := hlocals
  have happ : (headSpec ws rm).appliesLoose y e.platform (U.calling g mk a) = true :=
    Spec.appliesLoose_calling (g := g) h hdg hn hkY hinitY
      (X.room_calling (g := g) (R' := (headSpec ws rm).room) hsize hmY hcY hframes (by rw [hlY]; omega) h4 h5) h1
  obtain ⟨mid, hmid⟩ := h.above
  have hfr : (U.setTop g).frames = (.java g :: mid) ++ below := by rw [State.frames_setTop' g h.top, hmid]; rfl
  obtain ⟨o, s₂, hsteps, -, hend, hq⟩ := Steps.callFree hM p X.admits X.cas X.clock (acts := []) hfr happ hPc trivial
  have hq' : vx_Q Qc XC mc ms free a (U.calling g mk a) o s₂ := hq
  rw [State.frames_setTop' g h.top] at hend
  obtain ⟨g₀, hg0⟩ := Option.isSome_iff_exists.mp h.top
  obtain ⟨r, hr⟩ := State.topJava?_eq_some.mp hg0
  have hr' : (({ U with heap := s₂.heap, slotsUsed := s₂.slotsUsed } : State).setVm s₂.vm).frames = .java g₀ :: r := hr
  rcases hq' with ⟨hqc, L, hfe, hL⟩ | ⟨q, rfl, E, ce, L, hx, hce, hcv, hcl, hW₂, hsm, hL⟩
  · obtain ⟨⟨v, rfl⟩, hW₂, e2, q2, q3, q4, q5, q6⟩ := id hfe
    have e3 : s₂ = ({ (U.calling g mk a).setFrames s₂.frames with heap := s₂.heap, slotsUsed := s₂.slotsUsed } : State).setVm s₂.vm := by
      have : s₂ = ({ s₂ with vm := (U.calling g mk a).vm } : State).setVm s₂.vm := rfl
      rw [e2] at this
      exact this
    obtain ⟨c₂, i₂, len₂, hc₂, hd₂, hf₂⟩ := hend
    have hW' : U.WarmedH s₂.vm := hW₂
    have hcc : c₂ = c := by
      have h1 : s₂.code? g.method = U.code? g.method := by
        rw [State.code?_eq, State.code?_eq, hW'.alike.method?]
      exact Option.some.inj (hc₂.symm.trans (h1.trans h.code))
    subst hcc
    have hlen : len₂ = len := by rw [hdg] at hd₂; cases hd₂; rfl
    subst hlen
    have hs₂ : s₂ = (({ U with heap := s₂.heap, slotsUsed := s₂.slotsUsed } : State).setVm s₂.vm).setTop { g with pc := g.pc + len₂, stack := v.toList ++ g.stack } := by
      refine e3.trans ?_
      rw [hf₂, State.calling_eq h.top, State.setFrames_setFrames, State.setTop_of_frames _ hr', hr]
      rfl
    have hsame : U.sameButNew ({ U with heap := s₂.heap, slotsUsed := s₂.slotsUsed } : State) L mc ms := by
      refine ⟨?_, q2, q3, q4, q5, q6⟩
      obtain ⟨t, ht, -⟩ := State.frames_cons hr
      show ({ U with heap := s₂.heap, slotsUsed := s₂.slotsUsed } : State) = { U.setFrames U.frames with heap := s₂.heap, slotsUsed := s₂.slotsUsed }
      rw [State.setFrames_self ht]
    subst hg
    refine Or.inl ⟨v, ⟨(({ U with heap := s₂.heap, slotsUsed := s₂.slotsUsed } : State).setVm s₂.vm), Ls ++ L, c0 + mc, s0 + ms⟩,
      ⟨X.admits, X.cas, X.clock, X.frames, X.room, X.hears, X.method, X.code, (X.here.setHeapUsed s₂.heap s₂.slotsUsed).setVm hW'.alike, X.tail, State.WarmedH.trans X.warmed hW', X.limits, X.bytes, X.same.trans (hsame.setVm s.vm)⟩,
      ⟨g, mk, s₂, L, rfl, rfl, hqc, rfl, hL, rfl, rfl⟩, ?_⟩
    show Steps p.tables e below _ ((({ U with heap := s₂.heap, slotsUsed := s₂.slotsUsed } : State).setVm s₂.vm).setTop { g with pc := g.pc + len₂, stack := v.toList ++ g.stack })
    rw [← hs₂]
    exact hsteps
  · obtain ⟨e2, q2, q3, q4, q5, q6⟩ := id hsm
    have e3 : s₂ = ({ (U.calling g mk a).setFrames s₂.frames with heap := s₂.heap, slotsUsed := s₂.slotsUsed } : State).setVm s₂.vm := by
      have : s₂ = ({ s₂ with vm := (U.calling g mk a).vm } : State).setVm s₂.vm := rfl
      rw [e2] at this
      exact this
    have hf₂ : s₂.frames = .throwing q :: .java g :: U.frames.tail := hend
    have hW' : U.WarmedH s₂.vm := hW₂
    have hs₂ : s₂ = ((({ U with heap := s₂.heap, slotsUsed := s₂.slotsUsed } : State).setVm s₂.vm).setTop g).pushFrame (.throwing q) := by
      refine e3.trans ?_
      rw [hf₂, State.calling_eq h.top, State.setFrames_setFrames, State.pushFrame, State.frames_setTop _ hr', State.setTop_of_frames _ hr', State.setFrames_setFrames, hr]
      rfl
    have hsame : U.sameButNew ({ U with heap := s₂.heap, slotsUsed := s₂.slotsUsed } : State) L mc ms := by
      refine ⟨?_, q2, q3, q4, q5, q6⟩
      obtain ⟨t, ht, -⟩ := State.frames_cons hr
      show ({ U with heap := s₂.heap, slotsUsed := s₂.slotsUsed } : State) = { U.setFrames U.frames with heap := s₂.heap, slotsUsed := s₂.slotsUsed }
      rw [State.setFrames_self ht]
    subst hg
    refine Or.inr ⟨q, ⟨(({ U with heap := s₂.heap, slotsUsed := s₂.slotsUsed } : State).setVm s₂.vm), Ls ++ L, c0 + mc, s0 + ms⟩,
      ⟨X.admits, X.cas, X.clock, X.frames, X.room, X.hears, X.method, X.code, (X.here.setHeapUsed s₂.heap s₂.slotsUsed).setVm hW'.alike, X.tail, State.WarmedH.trans X.warmed hW', X.limits, X.bytes, X.same.trans (hsame.setVm s.vm)⟩,
      ⟨g, mk, s₂, L, E, ce, rfl, rfl, hx, hce, hcv, hcl, rfl, hL, rfl, rfl⟩, ?_⟩
    show Steps p.tables e below _ (((({ U with heap := s₂.heap, slotsUsed := s₂.slotsUsed } : State).setVm s₂.vm).setTop g).pushFrame (.throwing q))
    rw [← hs₂]
    exact hsteps
end Payer
section Calls
variable {p : Program} {l : Launch} {e : Env} {R : Room} {s : State} {m : MethodId} {args : Array Value} {below : List Frame} {meth : Method} {c : Code} {T : State} {locs : List Loc} {cells slots : Nat}
theorem vx_callV (X : Stand p l e R s m args below meth c T locs cells slots) (hexec : p.tables.exec = Jvm.exec) {own C : String} {index : Nat} {y : MethodName} {bytes : ByteArray} {maxL : Nat} {ret : Option FieldType}
    (hown : s.vm.findClass own = some m.cls) (hlink : (Cond.methodLink own index y).before args s = true) (hinst : (Cond.instanceMethod y).before args s = true) (hsel : (Cond.selects C y y).before args s = true)
    (hcode : (Cond.code y bytes maxL ret).before args s = true) (hy : y.cls ≠ "java/lang/invoke/MethodHandle" ∧ y.cls ≠ "java/lang/invoke/VarHandle")
    {W9 : Nat} {Pre : Pt → Array Value → Prop} {Post : Pt → Array Value → Option Value → Pt → Prop} {PostX : Pt → Array Value → Addr → Pt → Prop} (hK : vx_Back l R p e below s args y 3 W9 Pre Post PostX)
    {b : Addr} {cellB : Cell} (hcell : T.heap[b]? = some cellB) (hobj : cellB.vm.isStatics = false) (hcls : s.vm.findClass C = some cellB.cls)
    {g : JFrame} (hg : g.method = m) (hsize : g.locals.size = c.maxLocals) {argsL rest : List Value} (hlen : ∀ sig, parseMethodDescriptor y.desc = some sig → argsL.length = sig.parameters.length)
    (hstack : g.stack = argsL.reverse ++ .ref b :: rest) (hW : 2 * g.monitorRoom + (rest.map fun v => v.category).sum ≤ W9) (hdg : decode c.code g.pc = .ok (.invokevirtual index, 3))
    (hpre : ∀ vm₁, s.WarmedH vm₁ → Pre ⟨T.setVm vm₁, locs, cells, slots⟩ (Value.ref b :: argsL).toArray) :
    (∃ (v : Option Value) (vm₁ : Vm) (B : Pt), s.WarmedH vm₁ ∧ Stand p l e R s m args below meth c B.U B.locs B.cells B.slots ∧ Post ⟨T.setVm vm₁, locs, cells, slots⟩ (Value.ref b :: argsL).toArray v B ∧
      ∀ target, Steps p.tables e below (B.U.setTop { g with pc := g.pc + 3, stack := v.toList ++ rest }) target → Steps p.tables e below (T.setTop g) target) ∨
    (∃ (q : Addr) (vm₁ : Vm) (B : Pt), s.WarmedH vm₁ ∧ Stand p l e R s m args below meth c B.U B.locs B.cells B.slots ∧ PostX ⟨T.setVm vm₁, locs, cells, slots⟩ (Value.ref b :: argsL).toArray q B ∧
      Steps p.tables e below (T.setTop g) ((B.U.setTop { g with stack := rest }).pushFrame (.throwing q))) := by
  obtain ⟨mk, methM, hnamed, hmethM, hstM, habM⟩ := Cond.instanceMethod_spec hinst
  obtain ⟨methM', cM, hmethM', -, -, -, -, -, -, hsigM⟩ := Cond.code_spec hnamed hcode
  cases hmethM.symm.trans hmethM'
  obtain ⟨c2, r2, m2, q1, q2, q3, q4, kP, hkP, hkPi⟩ := Cond.selects_spec hsel
  cases hcls.symm.trans q1
  cases (State.methodFound?_of_named hnamed hy).symm.trans q2
  cases hnamed.symm.trans q3
  have hselP : selectMethod e.platform s.vm cellB.cls mk = .method mk := by rw [Launch.admits_selectMethod X.admits]; exact q4
  obtain ⟨vm₁, X₁, hstep₁⟩ := X.invokevirtual hexec hown hlink hnamed hmethM hstM hkP hkPi hy (a := b) (cell := cellB) hcell
    (fun z h => by rw [h] at hobj; cases hobj) hselP hmethM habM hkP hkPi (g := g) hg (argsL := argsL) (rest := rest) (hlen _ hsigM) hstack hdg
  rcases hK m meth c ⟨T.setVm vm₁, locs, cells, slots⟩ { g with stack := rest } (.invokevirtual index) mk (Value.ref b :: argsL).toArray X₁ hg hsize hdg hW (X₁.named hnamed) (hpre vm₁ X₁.warmed) with ⟨v, B, X', hpost, hsteps⟩ | ⟨q, B, X', hpost, hsteps⟩
  · exact Or.inl ⟨v, vm₁, B, X₁.warmed, X', hpost, fun target h => hstep₁ _ fun acts => by rw [doInvoke_state]; exact hsteps.trans h⟩
  · exact Or.inr ⟨q, vm₁, B, X₁.warmed, X', hpost, hstep₁ _ fun acts => by rw [doInvoke_state]; exact hsteps⟩
theorem vx_callS (X : Stand p l e R s m args below meth c T locs cells slots) (hexec : p.tables.exec = Jvm.exec) {own : String} {index : Nat} {y : MethodName} {bytes : ByteArray} {maxL : Nat} {ret : Option FieldType}
    (hown : s.vm.findClass own = some m.cls) (hlink : (Cond.methodLink own index y).before args s = true) (hstat : (Cond.static y).before args s = true) (hinit : (Cond.initialized y.cls).before args s = true)
    (hcode : (Cond.code y bytes maxL ret).before args s = true) (hy : y.cls ≠ "java/lang/invoke/MethodHandle" ∧ y.cls ≠ "java/lang/invoke/VarHandle")
    {W9 : Nat} {Pre : Pt → Array Value → Prop} {Post : Pt → Array Value → Option Value → Pt → Prop} {PostX : Pt → Array Value → Addr → Pt → Prop} (hK : vx_Back l R p e below s args y 3 W9 Pre Post PostX)
    {g : JFrame} (hg : g.method = m) (hsize : g.locals.size = c.maxLocals) {argsL rest : List Value} (hlen : ∀ sig, parseMethodDescriptor y.desc = some sig → argsL.length = sig.parameters.length)
    (hstack : g.stack = argsL.reverse ++ rest) (hW : 2 * g.monitorRoom + (rest.map fun v => v.category).sum ≤ W9) (hdg : decode c.code g.pc = .ok (.invokestatic index, 3))
    (hpre : ∀ vm₁, s.WarmedH vm₁ → Pre ⟨T.setVm vm₁, locs, cells, slots⟩ argsL.toArray) :
    (∃ (v : Option Value) (vm₁ : Vm) (B : Pt), s.WarmedH vm₁ ∧ Stand p l e R s m args below meth c B.U B.locs B.cells B.slots ∧ Post ⟨T.setVm vm₁, locs, cells, slots⟩ argsL.toArray v B ∧
      ∀ target, Steps p.tables e below (B.U.setTop { g with pc := g.pc + 3, stack := v.toList ++ rest }) target → Steps p.tables e below (T.setTop g) target) ∨
    (∃ (q : Addr) (vm₁ : Vm) (B : Pt), s.WarmedH vm₁ ∧ Stand p l e R s m args below meth c B.U B.locs B.cells B.slots ∧ PostX ⟨T.setVm vm₁, locs, cells, slots⟩ argsL.toArray q B ∧
      Steps p.tables e below (T.setTop g) ((B.U.setTop { g with stack := rest }).pushFrame (.throwing q))) := by
  obtain ⟨mk, hnamed⟩ := Cond.code_named hcode
  obtain ⟨methM, cM, hmethM, -, -, -, -, -, -, hsigM⟩ := Cond.code_spec hnamed hcode
  have hstatic : methM.isStatic = true := Cond.static_spec hnamed hmethM hstat
  obtain ⟨kP, hkP, -⟩ := className_of_methodNamed hnamed
  have hinitP : kP.init = .initialized := Cond.initialized_spec (findClass_of_methodNamed hnamed) hkP hinit
  obtain ⟨vm₁, X₁, hstep₁⟩ := X.invokestatic hexec hown hlink hnamed hmethM hstatic hkP hinitP hy (g := g) hg (argsL := argsL) (rest := rest) (hlen _ hsigM) hstack hdg
  rcases hK m meth c ⟨T.setVm vm₁, locs, cells, slots⟩ { g with stack := rest } (.invokestatic index) mk argsL.toArray X₁ hg hsize hdg hW (X₁.named hnamed) (hpre vm₁ X₁.warmed) with ⟨v, B, X', hpost, hsteps⟩ | ⟨q, B, X', hpost, hsteps⟩
  · exact Or.inl ⟨v, vm₁, B, X₁.warmed, X', hpost, fun target h => hstep₁ _ fun acts => by rw [doInvoke_state]; exact hsteps.trans h⟩
  · exact Or.inr ⟨q, vm₁, B, X₁.warmed, X', hpost, hstep₁ _ fun acts => by rw [doInvoke_state]; exact hsteps⟩
end Calls
theorem vx_cls {s : State} {T : State} {vm₁ : Vm} {E : String} {k : ClassId} (hW : s.WarmedH vm₁) (h : (T.setVm vm₁).vm.findClass E = some k) : s.vm.findClass E = some k := by
  have h1 : vm₁.findClass E = some k := h
  rw [hW.alike.findClass] at h1
  exact h1
/-- the method's frame g, with q thrown over it -/
def vx_W (p : Program) (l : Launch) (e : Env) (R : Room) (s : State) (m : MethodId) (args : Array Value) (below : List Frame) (meth : Method) (c : Code) (H : Heap) (locs : List Loc) (cells slots : Nat) (Q : State → Prop) (g : JFrame) (q : Addr) : Prop :=
  ∀ T : State, T.heap = H → Stand p l e R s m args below meth c T locs cells slots → ∃ t, Steps p.tables e below ((T.setTop g).pushFrame (.throwing q)) t ∧ Q t
def vx_Run (p : Program) (l : Launch) (e : Env) (R : Room) (s : State) (m : MethodId) (args : Array Value) (below : List Frame) (meth : Method) (c : Code) (H : Heap) (locs : List Loc) (cells slots mc ms : Nat) (g : JFrame) (rest : List Value) (Qa : State → Outcome → State → Prop) (XC : String → State → State → Prop) (free : Addr → Prop) : Prop :=
  ∀ T : State, T.heap = H → Stand p l e R s m args below meth c T locs cells slots →
    (∃ (v : Option Value) (st₀ t T' : State) (L : List Loc), st₀.heap = H ∧ Stand p l e R s m args below meth c T' (locs ++ L) (cells + mc) (slots + ms) ∧ (∀ q ∈ L, free q.base) ∧ T'.heap = t.heap ∧ T'.vm = t.vm ∧ Qa st₀ (.returned v) t ∧
      Goes p e below T g T' { g with pc := g.pc + 3, stack := v.toList ++ rest }) ∨
    (∃ (q : Addr) (st₀ t T' : State) (L : List Loc) (E : String) (ce : Cell), st₀.heap = H ∧ Stand p l e R s m args below meth c T' (locs ++ L) (cells + mc) (slots + ms) ∧ (∀ z ∈ L, free z.base) ∧ T'.heap = t.heap ∧ T'.vm = t.vm ∧ XC E st₀ t ∧ t.heap[q]? = some ce ∧ ce.vm = .none ∧ s.vm.findClass E = some ce.cls ∧
      Steps p.tables e below (T.setTop g) ((T'.setTop { g with stack := rest }).pushFrame (.throwing q)))
def vx_X {S : Type} (px : S → Prop) (B : String → S → State → Prop) (A : Nat → Prop) : String → State → State → Prop := fun E st t => ∃ u : S, px u ∧ B E u t ∧ va_F A st t
section Runs
variable {p : Program} {l : Launch} {e : Env} {R : Room} {s : State} {m : MethodId} {args : Array Value} {below : List Frame} {meth : Method} {c : Code} {H : Heap} {locs : List Loc} {cells slots : Nat}
variable {y : MethodName} {bytes cc : ByteArray} {maxL nL mc ms n index : Nat} {ret : Option FieldType} {ws : List Cond} {rm : Room} {Pc : Array Value → State → Prop} {Qc : Array Value → State → Outcome → State → Prop} {XC : String → State → State → Prop} {free : Addr → Prop} {Ts : List Cond} {own C : String} {b : Addr} {As rest : List Value} {g : JFrame}
theorem vx_callBack (cb : CallB R s args own index y bytes maxL ret ws rm mc ms n) (hM : vx_Met l y ws rm Pc Qc XC mc ms free) (hbl : FrameBlind Pc) : vx_Back l R p e below s args y 3 8 (PreOf R mc ms Pc) (PostOf Qc mc ms free) (vx_Post XC mc ms free) := by
  obtain ⟨hrc, hrs, hfr, hlo, hws, hcw, -, hini, -⟩ := cb
  exact vx_back (bytes := bytes) (maxL := maxL) (ret := ret) hM hbl hrc hrs hfr hlo hws hcw (fun a' U hW => word_at hW (Or.inl (by first | rfl | simp [Cond.onTables, Cond.keeps, Cond.steady])) hini)
theorem vx_runV (S : CallFix p m c cc nL s args Ts own) (hM : vx_Met l y ws rm Pc Qc XC mc ms free) (cw : CallW R s args own C index y bytes maxL ret ws rm mc ms n) (hp : PreV s H C b Pc As)
    (hg : g.method = m) (hn : As.length = n) (hsize : g.locals.size = nL) (hstack : g.stack = As.reverse ++ .ref b :: rest) (hW : 2 * g.monitorRoom + (rest.map fun v => v.category).sum ≤ 8) (hdg : decode cc g.pc = .ok (.invokevirtual index, 3)) (hf : cells + mc ≤ R.cells ∧ slots + ms ≤ R.slots) :
    vx_Run p l e R s m args below meth c H locs cells slots mc ms g rest (Qc (Value.ref b :: As).toArray) XC free := by
  have hK : vx_Back l R p e below s args y 3 8 (PreOf R mc ms Pc) (PostOf Qc mc ms free) (vx_Post XC mc ms free) := vx_callBack cw.1 hM hp.1
  obtain ⟨⟨-, -, -, -, -, -, hcode, -, hy, hlen, hl⟩, hin, hse⟩ := cw
  obtain ⟨hx, hb, hml, ho, -⟩ := S
  obtain ⟨-, ⟨cellB, hcB, hoB, hclB⟩, hPc⟩ := hp
  intro T hT X
  rcases vx_callV X hx (C := C) (bytes := bytes) (maxL := maxL) (ret := ret) ho hl hin hse hcode hy hK (by rw [hT]; exact hcB) hoB hclB hg (hsize.trans hml.symm) (argsL := As) (rest := rest) (fun sig h => hn.trans (hlen sig h)) hstack hW (by rw [hb]; exact hdg)
    (fun vm₁ hW₁ => ⟨hf.1, hf.2, hPc (T.setVm vm₁) hT hW₁⟩) with ⟨v, vm₁, ⟨U', l2, c2, s2⟩, hW₁, X', ⟨g', mk, t, L, e1, e2, hq, h1, hL, h2, h3⟩, st⟩ | ⟨q, vm₁, ⟨U', l2, c2, s2⟩, hW₁, X', ⟨g', mk, t, L, E, ce, e1, e2, hq, hce, hcv, hcl, h1, hL, h2, h3⟩, st⟩
  · dsimp only [Pt.U, Pt.locs, Pt.cells, Pt.slots] at X' e1 e2 h1 h2 h3 st
    subst h1; subst h2; subst h3
    exact Or.inl ⟨v, (T.setVm vm₁).calling g' mk (Value.ref b :: As).toArray, t, U', L, hT, X', hL, e1, e2, hq, st⟩
  · dsimp only [Pt.U, Pt.locs, Pt.cells, Pt.slots] at X' e1 e2 h1 h2 h3 st hcl
    subst h1; subst h2; subst h3
    exact Or.inr ⟨q, (T.setVm vm₁).calling g' mk (Value.ref b :: As).toArray, t, U', L, E, ce, hT, X', hL, e1, e2, hq, hce, hcv, vx_cls hW₁ hcl, st⟩
theorem vx_runS (S : CallFix p m c cc nL s args Ts own) (hM : vx_Met l y ws rm Pc Qc XC mc ms free) (cw : CallB R s args own index y bytes maxL ret ws rm mc ms n ∧ (Cond.static y).before args s = true) (hp : PreS s H Pc As)
    (hg : g.method = m) (hn : As.length = n) (hsize : g.locals.size = nL) (hstack : g.stack = As.reverse ++ rest) (hW : 2 * g.monitorRoom + (rest.map fun v => v.category).sum ≤ 8) (hdg : decode cc g.pc = .ok (.invokestatic index, 3)) (hf : cells + mc ≤ R.cells ∧ slots + ms ≤ R.slots) :
    vx_Run p l e R s m args below meth c H locs cells slots mc ms g rest (Qc As.toArray) XC free := by
  have hK : vx_Back l R p e below s args y 3 8 (PreOf R mc ms Pc) (PostOf Qc mc ms free) (vx_Post XC mc ms free) := vx_callBack cw.1 hM hp.1
  obtain ⟨⟨-, -, -, -, -, -, hcode, hini, hy, hlen, hl⟩, hstt⟩ := cw
  obtain ⟨hx, hb, hml, ho, -⟩ := S
  intro T hT X
  rcases vx_callS X hx (bytes := bytes) (maxL := maxL) (ret := ret) ho hl hstt hini hcode hy hK hg (hsize.trans hml.symm) (argsL := As) (rest := rest) (fun sig h => hn.trans (hlen sig h)) hstack hW (by rw [hb]; exact hdg)
    (fun vm₁ hW₁ => ⟨hf.1, hf.2, hp.2 (T.setVm vm₁) hT hW₁⟩) with ⟨v, vm₁, ⟨U', l2, c2, s2⟩, hW₁, X', ⟨g', mk, t, L, e1, e2, hq, h1, hL, h2, h3⟩, st⟩ | ⟨q, vm₁, ⟨U', l2, c2, s2⟩, hW₁, X', ⟨g', mk, t, L, E, ce, e1, e2, hq, hce, hcv, hcl, h1, hL, h2, h3⟩, st⟩
  · dsimp only [Pt.U, Pt.locs, Pt.cells, Pt.slots] at X' e1 e2 h1 h2 h3 st
    subst h1; subst h2; subst h3
    exact Or.inl ⟨v, (T.setVm vm₁).calling g' mk As.toArray, t, U', L, hT, X', hL, e1, e2, hq, st⟩
  · dsimp only [Pt.U, Pt.locs, Pt.cells, Pt.slots] at X' e1 e2 h1 h2 h3 st hcl
    subst h1; subst h2; subst h3
    exact Or.inr ⟨q, (T.setVm vm₁).calling g' mk As.toArray, t, U', L, E, ce, hT, X', hL, e1, e2, hq, hce, hcv, vx_cls hW₁ hcl, st⟩
end Runs
section Rows
variable {p : Program} {l : Launch} {e : Env} {R : Room} {s : State} {m : MethodId} {args : Array Value} {below : List Frame} {meth : Method} {c : Code} {H : Heap} {locs : List Loc} {cells slots : Nat} {Q : State → Prop}
variable {mc ms : Nat} {free : Addr → Prop} {A0 A1 : Nat → Prop} {H0 : Heap} {a : Array Value} {pc : Nat} {ls : Array Slot} {st0 rest : List Value}
theorem vx_keep {st₀ t T' : State} {L : List Loc} (h0 : st₀.heap = H) (e1 : T'.heap = t.heap) (hS : va_S A0 H0 H locs) (hA : ∀ q, q < H.size → A1 q → A0 q) (hf : ∀ q, free q → A0 q) (hL : ∀ q ∈ L, free q.base) (hF : va_F A1 st₀ t) :
    H.size ≤ T'.heap.size ∧ (∀ q : Nat, q < H.size → ¬ A1 q → T'.heap[q]? = H[q]?) ∧ va_S A0 H0 T'.heap (locs ++ L) := by
  obtain ⟨hz, hk⟩ := hF
  rw [h0] at hz hk
  exact ⟨by rw [e1]; exact hz, fun q h1 h2 => by rw [e1]; exact hk q h1 h2,
    ⟨Nat.le_trans hS.1 (by rw [e1]; exact hz), fun q h1 h2 => by rw [e1, hk q (Nat.lt_of_lt_of_le h1 hS.1) (fun z => h2 (hA q (Nat.lt_of_lt_of_le h1 hS.1) z))]; exact hS.2.1 q h1 h2, fun q hq => by
      rcases List.mem_append.mp hq with h | h
      · exact hS.2.2 q h
      · exact hf _ (hL q h)⟩⟩
theorem vx_calli {S SX : Type} {post : Int32 → S → Prop} {px : SX → Prop} {B : S → State → Prop} {BX : String → SX → State → Prop} {AX : Nat → Prop} (hr : vx_Run p l e R s m args below meth c H locs cells slots mc ms (F0 m pc ls st0) rest (va_Qi post B A1 a) (vx_X px BX AX) free) (hS : va_S A0 H0 H locs) (hA : ∀ q, q < H.size → A1 q → A0 q) (hf : ∀ q, free q → A0 q) (hAX : ∀ q, q < H.size → AX q → A0 q)
    (kx : ∀ (E : String) (ce : Cell) (q9 : Addr) (u : SX) (t : State) (H1 : Heap) (locs1 : List Loc), t.heap = H1 → s.vm.Alike t.vm → px u → BX E u t → H.size ≤ H1.size → (∀ q : Nat, q < H.size → ¬ AX q → H1[q]? = H[q]?) → va_S A0 H0 H1 locs1 → H1[q9]? = some ce → ce.vm = .none → s.vm.findClass E = some ce.cls → vx_W p l e R s m args below meth c H1 locs1 (cells + mc) (slots + ms) Q (F0 m pc ls rest) q9)
    (kk : ∀ (r : Int32) (u : S) (t : State) (H1 : Heap) (locs1 : List Loc), t.heap = H1 → s.vm.Alike t.vm → post r u → B u t → H.size ≤ H1.size → (∀ q : Nat, q < H.size → ¬ A1 q → H1[q]? = H[q]?) → va_S A0 H0 H1 locs1 → W p l e R s m args below meth c H1 locs1 (cells + mc) (slots + ms) Q (F0 m (pc + 3) ls (.int r :: rest))) : W p l e R s m args below meth c H locs cells slots Q (F0 m pc ls st0) := by
  intro T hT X
  rcases hr T hT X with ⟨v, st₀, t, T', L, h0, X', hL, e1, e2, ⟨⟨r, u, hv, hp, hb⟩, hF⟩, st⟩ | ⟨q, st₀, t, T', L, E, ce, h0, X', hL, e1, e2, ⟨u, hp, hb, hF⟩, hce, hcv, hcl, st⟩
  · cases hv
    obtain ⟨k1, k2, k3⟩ := vx_keep h0 e1 hS hA hf hL hF
    obtain ⟨t2, a1, b1⟩ := kk r u t T'.heap (locs ++ L) e1.symm (by rw [← e2]; exact X'.warmed.alike) hp hb k1 k2 k3 T' rfl X'
    exact ⟨t2, st t2 a1, b1⟩
  · obtain ⟨k1, k2, k3⟩ := vx_keep h0 e1 hS hAX hf hL hF
    obtain ⟨t2, a1, b1⟩ := kx E ce q u t T'.heap (locs ++ L) e1.symm (by rw [← e2]; exact X'.warmed.alike) hp hb k1 k2 k3 (by rw [e1]; exact hce) hcv hcl T' rfl X'
    exact ⟨t2, st.trans a1, b1⟩
theorem vx_calll {S SX : Type} {post : Int64 → S → Prop} {px : SX → Prop} {B : S → State → Prop} {BX : String → SX → State → Prop} {AX : Nat → Prop} (hr : vx_Run p l e R s m args below meth c H locs cells slots mc ms (F0 m pc ls st0) rest (va_Ql post B A1 a) (vx_X px BX AX) free) (hS : va_S A0 H0 H locs) (hA : ∀ q, q < H.size → A1 q → A0 q) (hf : ∀ q, free q → A0 q) (hAX : ∀ q, q < H.size → AX q → A0 q)
    (kx : ∀ (E : String) (ce : Cell) (q9 : Addr) (u : SX) (t : State) (H1 : Heap) (locs1 : List Loc), t.heap = H1 → s.vm.Alike t.vm → px u → BX E u t → H.size ≤ H1.size → (∀ q : Nat, q < H.size → ¬ AX q → H1[q]? = H[q]?) → va_S A0 H0 H1 locs1 → H1[q9]? = some ce → ce.vm = .none → s.vm.findClass E = some ce.cls → vx_W p l e R s m args below meth c H1 locs1 (cells + mc) (slots + ms) Q (F0 m pc ls rest) q9)
    (kk : ∀ (r : Int64) (u : S) (t : State) (H1 : Heap) (locs1 : List Loc), t.heap = H1 → s.vm.Alike t.vm → post r u → B u t → H.size ≤ H1.size → (∀ q : Nat, q < H.size → ¬ A1 q → H1[q]? = H[q]?) → va_S A0 H0 H1 locs1 → W p l e R s m args below meth c H1 locs1 (cells + mc) (slots + ms) Q (F0 m (pc + 3) ls (.long r :: rest))) : W p l e R s m args below meth c H locs cells slots Q (F0 m pc ls st0) := by
  intro T hT X
  rcases hr T hT X with ⟨v, st₀, t, T', L, h0, X', hL, e1, e2, ⟨⟨r, u, hv, hp, hb⟩, hF⟩, st⟩ | ⟨q, st₀, t, T', L, E, ce, h0, X', hL, e1, e2, ⟨u, hp, hb, hF⟩, hce, hcv, hcl, st⟩
  · cases hv
    obtain ⟨k1, k2, k3⟩ := vx_keep h0 e1 hS hA hf hL hF
    obtain ⟨t2, a1, b1⟩ := kk r u t T'.heap (locs ++ L) e1.symm (by rw [← e2]; exact X'.warmed.alike) hp hb k1 k2 k3 T' rfl X'
    exact ⟨t2, st t2 a1, b1⟩
  · obtain ⟨k1, k2, k3⟩ := vx_keep h0 e1 hS hAX hf hL hF
    obtain ⟨t2, a1, b1⟩ := kx E ce q u t T'.heap (locs ++ L) e1.symm (by rw [← e2]; exact X'.warmed.alike) hp hb k1 k2 k3 (by rw [e1]; exact hce) hcv hcl T' rfl X'
    exact ⟨t2, st.trans a1, b1⟩
theorem vx_callf {S SX : Type} {post : UInt32 → S → Prop} {px : SX → Prop} {B : S → State → Prop} {BX : String → SX → State → Prop} {AX : Nat → Prop} (hr : vx_Run p l e R s m args below meth c H locs cells slots mc ms (F0 m pc ls st0) rest (va_Qf post B A1 a) (vx_X px BX AX) free) (hS : va_S A0 H0 H locs) (hA : ∀ q, q < H.size → A1 q → A0 q) (hf : ∀ q, free q → A0 q) (hAX : ∀ q, q < H.size → AX q → A0 q)
    (kx : ∀ (E : String) (ce : Cell) (q9 : Addr) (u : SX) (t : State) (H1 : Heap) (locs1 : List Loc), t.heap = H1 → s.vm.Alike t.vm → px u → BX E u t → H.size ≤ H1.size → (∀ q : Nat, q < H.size → ¬ AX q → H1[q]? = H[q]?) → va_S A0 H0 H1 locs1 → H1[q9]? = some ce → ce.vm = .none → s.vm.findClass E = some ce.cls → vx_W p l e R s m args below meth c H1 locs1 (cells + mc) (slots + ms) Q (F0 m pc ls rest) q9)
    (kk : ∀ (r : UInt32) (u : S) (t : State) (H1 : Heap) (locs1 : List Loc), t.heap = H1 → s.vm.Alike t.vm → post r u → B u t → H.size ≤ H1.size → (∀ q : Nat, q < H.size → ¬ A1 q → H1[q]? = H[q]?) → va_S A0 H0 H1 locs1 → W p l e R s m args below meth c H1 locs1 (cells + mc) (slots + ms) Q (F0 m (pc + 3) ls (.float r :: rest))) : W p l e R s m args below meth c H locs cells slots Q (F0 m pc ls st0) := by
  intro T hT X
  rcases hr T hT X with ⟨v, st₀, t, T', L, h0, X', hL, e1, e2, ⟨⟨r, u, hv, hp, hb⟩, hF⟩, st⟩ | ⟨q, st₀, t, T', L, E, ce, h0, X', hL, e1, e2, ⟨u, hp, hb, hF⟩, hce, hcv, hcl, st⟩
  · cases hv
    obtain ⟨k1, k2, k3⟩ := vx_keep h0 e1 hS hA hf hL hF
    obtain ⟨t2, a1, b1⟩ := kk r u t T'.heap (locs ++ L) e1.symm (by rw [← e2]; exact X'.warmed.alike) hp hb k1 k2 k3 T' rfl X'
    exact ⟨t2, st t2 a1, b1⟩
  · obtain ⟨k1, k2, k3⟩ := vx_keep h0 e1 hS hAX hf hL hF
    obtain ⟨t2, a1, b1⟩ := kx E ce q u t T'.heap (locs ++ L) e1.symm (by rw [← e2]; exact X'.warmed.alike) hp hb k1 k2 k3 (by rw [e1]; exact hce) hcv hcl T' rfl X'
    exact ⟨t2, st.trans a1, b1⟩
theorem vx_calld {S SX : Type} {post : UInt64 → S → Prop} {px : SX → Prop} {B : S → State → Prop} {BX : String → SX → State → Prop} {AX : Nat → Prop} (hr : vx_Run p l e R s m args below meth c H locs cells slots mc ms (F0 m pc ls st0) rest (va_Qd post B A1 a) (vx_X px BX AX) free) (hS : va_S A0 H0 H locs) (hA : ∀ q, q < H.size → A1 q → A0 q) (hf : ∀ q, free q → A0 q) (hAX : ∀ q, q < H.size → AX q → A0 q)
    (kx : ∀ (E : String) (ce : Cell) (q9 : Addr) (u : SX) (t : State) (H1 : Heap) (locs1 : List Loc), t.heap = H1 → s.vm.Alike t.vm → px u → BX E u t → H.size ≤ H1.size → (∀ q : Nat, q < H.size → ¬ AX q → H1[q]? = H[q]?) → va_S A0 H0 H1 locs1 → H1[q9]? = some ce → ce.vm = .none → s.vm.findClass E = some ce.cls → vx_W p l e R s m args below meth c H1 locs1 (cells + mc) (slots + ms) Q (F0 m pc ls rest) q9)
    (kk : ∀ (r : UInt64) (u : S) (t : State) (H1 : Heap) (locs1 : List Loc), t.heap = H1 → s.vm.Alike t.vm → post r u → B u t → H.size ≤ H1.size → (∀ q : Nat, q < H.size → ¬ A1 q → H1[q]? = H[q]?) → va_S A0 H0 H1 locs1 → W p l e R s m args below meth c H1 locs1 (cells + mc) (slots + ms) Q (F0 m (pc + 3) ls (.double r :: rest))) : W p l e R s m args below meth c H locs cells slots Q (F0 m pc ls st0) := by
  intro T hT X
  rcases hr T hT X with ⟨v, st₀, t, T', L, h0, X', hL, e1, e2, ⟨⟨r, u, hv, hp, hb⟩, hF⟩, st⟩ | ⟨q, st₀, t, T', L, E, ce, h0, X', hL, e1, e2, ⟨u, hp, hb, hF⟩, hce, hcv, hcl, st⟩
  · cases hv
    obtain ⟨k1, k2, k3⟩ := vx_keep h0 e1 hS hA hf hL hF
    obtain ⟨t2, a1, b1⟩ := kk r u t T'.heap (locs ++ L) e1.symm (by rw [← e2]; exact X'.warmed.alike) hp hb k1 k2 k3 T' rfl X'
    exact ⟨t2, st t2 a1, b1⟩
  · obtain ⟨k1, k2, k3⟩ := vx_keep h0 e1 hS hAX hf hL hF
    obtain ⟨t2, a1, b1⟩ := kx E ce q u t T'.heap (locs ++ L) e1.symm (by rw [← e2]; exact X'.warmed.alike) hp hb k1 k2 k3 (by rw [e1]; exact hce) hcv hcl T' rfl X'
    exact ⟨t2, st.trans a1, b1⟩
theorem vx_callv {S SX : Type} {post : S → Prop} {px : SX → Prop} {B : S → State → Prop} {BX : String → SX → State → Prop} {AX : Nat → Prop} (hr : vx_Run p l e R s m args below meth c H locs cells slots mc ms (F0 m pc ls st0) rest (va_Qv post B A1 a) (vx_X px BX AX) free) (hS : va_S A0 H0 H locs) (hA : ∀ q, q < H.size → A1 q → A0 q) (hf : ∀ q, free q → A0 q) (hAX : ∀ q, q < H.size → AX q → A0 q)
    (kx : ∀ (E : String) (ce : Cell) (q9 : Addr) (u : SX) (t : State) (H1 : Heap) (locs1 : List Loc), t.heap = H1 → s.vm.Alike t.vm → px u → BX E u t → H.size ≤ H1.size → (∀ q : Nat, q < H.size → ¬ AX q → H1[q]? = H[q]?) → va_S A0 H0 H1 locs1 → H1[q9]? = some ce → ce.vm = .none → s.vm.findClass E = some ce.cls → vx_W p l e R s m args below meth c H1 locs1 (cells + mc) (slots + ms) Q (F0 m pc ls rest) q9)
    (kk : ∀ (u : S) (t : State) (H1 : Heap) (locs1 : List Loc), t.heap = H1 → s.vm.Alike t.vm → post u → B u t → H.size ≤ H1.size → (∀ q : Nat, q < H.size → ¬ A1 q → H1[q]? = H[q]?) → va_S A0 H0 H1 locs1 → W p l e R s m args below meth c H1 locs1 (cells + mc) (slots + ms) Q (F0 m (pc + 3) ls (rest))) : W p l e R s m args below meth c H locs cells slots Q (F0 m pc ls st0) := by
  intro T hT X
  rcases hr T hT X with ⟨v, st₀, t, T', L, h0, X', hL, e1, e2, ⟨⟨u, hv, hp, hb⟩, hF⟩, st⟩ | ⟨q, st₀, t, T', L, E, ce, h0, X', hL, e1, e2, ⟨u, hp, hb, hF⟩, hce, hcv, hcl, st⟩
  · cases hv
    obtain ⟨k1, k2, k3⟩ := vx_keep h0 e1 hS hA hf hL hF
    obtain ⟨t2, a1, b1⟩ := kk u t T'.heap (locs ++ L) e1.symm (by rw [← e2]; exact X'.warmed.alike) hp hb k1 k2 k3 T' rfl X'
    exact ⟨t2, st t2 a1, b1⟩
  · obtain ⟨k1, k2, k3⟩ := vx_keep h0 e1 hS hAX hf hL hF
    obtain ⟨t2, a1, b1⟩ := kx E ce q u t T'.heap (locs ++ L) e1.symm (by rw [← e2]; exact X'.warmed.alike) hp hb k1 k2 k3 (by rw [e1]; exact hce) hcv hcl T' rfl X'
    exact ⟨t2, st.trans a1, b1⟩
/-- caught by the row x of this method's table; the rows ahead don't take it -/
theorem vx_catch {own name : String} {E : String} {ce : Cell} {q : Addr} (hown : s.vm.findClass own = some m.cls) (pre : List ExceptionTableEntry) (x : ExceptionTableEntry) (suf : List ExceptionTableEntry) (hsplit : c.exceptionTable.toList = pre ++ x :: suf)
    (hpass : ∀ z ∈ pre, covers z pc = false ∨ (z.catchType ≠ 0 ∧ ∃ nm : String, (Cond.classLink own z.catchType nm).before args s = true ∧ va_Nc E nm s)) (hx : covers x pc = true) (h0 : x.catchType ≠ 0)
    (hlink : (Cond.classLink own x.catchType name).before args s = true) (hcast : (Cond.castable E name).before args s = true) (hcell : H[q]? = some ce) (hv : ce.vm = .none) (hcl : s.vm.findClass E = some ce.cls)
    (kk : W p l e R s m args below meth c H locs cells slots Q (F0 m x.handlerPc ls [.ref q])) : vx_W p l e R s m args below meth c H locs cells slots Q (F0 m pc ls rest) q := by
  intro T hT X
  have hpl : e.platform.magicAccessors = ({} : Platform).magicAccessors := by rw [X.admits.platform]
  obtain ⟨c3, c4, hc3, hc4, hasg⟩ := Cond.castable_spec hcast
  cases Option.some.inj (hc3.symm.trans hcl)
  obtain ⟨c5, hc5, hcl5⟩ := Cond.classLink_spec hown hlink e.platform hpl
  cases Option.some.inj (hc4.symm.trans hc5)
  obtain ⟨vm', X', st⟩ := kx_caught X q (g := F0 m pc ls rest) rfl (by rw [hT]; exact hcell) (by rw [hv]; rfl) (by obtain ⟨k9, h9, -⟩ := Vm.findClass_spec hcl; exact ⟨k9, h9⟩) pre x suf hsplit
    (fun z hz => by
      rcases hpass z hz with h | ⟨hz0, nm, hl1, hn1⟩
      · exact Or.inl h
      · obtain ⟨c6, hc6, hcl6⟩ := Cond.classLink_spec hown hl1 e.platform hpl
        obtain ⟨a8, b8, h1, h2, h3⟩ := hn1
        cases Option.some.inj (h1.symm.trans hcl)
        cases Option.some.inj (h2.symm.trans hc6)
        exact Or.inr ⟨hz0, _, hcl6, h3⟩) hx h0 hcl5 hasg
  obtain ⟨t, a1, b1⟩ := kk (T.setVm vm') hT X'
  exact ⟨t, st.trans a1, b1⟩
end Rows
section Ends
variable {p : Program} {l : Launch} {e : Env} {R : Room} {s : State} {m : MethodId} {args : Array Value} {below : List Frame} {meth : Method} {c : Code} {H : Heap} {locs : List Loc} {cells slots : Nat} {Q : State → Prop}
variable {mc ms : Nat} {free : Addr → Prop} {A0 A1 : Nat → Prop} {H0 : Heap} {a : Array Value} {ls : Array Slot} {st0 rest : List Value}
variable {Qc : Array Value → State → Outcome → State → Prop} {XC : String → State → State → Prop}
/-- what a body that may throw owes at its end -/
def vx_MQ (below : List Frame) (Qc : Array Value → State → Outcome → State → Prop) (XC : String → State → State → Prop) (a : Array Value) (s : State) (mc ms : Nat) (free : Addr → Prop) : State → Prop := fun t =>
  ∃ o, t.status = .running ∧ Ended t below o ∧ vx_Q Qc XC mc ms free a s o t
theorem vx_ret {g : JFrame} {mc ms : Nat} (k : W p l e R s m args below meth c H locs cells slots (MQ below Qc args s mc ms free) g) : W p l e R s m args below meth c H locs cells slots (vx_MQ below Qc XC args s mc ms free) g := by
  intro T hT X
  obtain ⟨t, a1, o, b1, b2, b3, b4⟩ := k T hT X
  exact ⟨t, a1, o, b1, b2, Or.inl ⟨b3, b4⟩⟩
/-- not caught here: it goes on to the caller -/
theorem vx_widen {g : JFrame} {q : Addr} {k n : Nat} (h1 : cells ≤ k) (h2 : slots ≤ n) (kk : vx_W p l e R s m args below meth c H locs k n Q g q) : vx_W p l e R s m args below meth c H locs cells slots Q g q := fun T hT X => kk T hT (stand_widen X h1 h2)
theorem vx_out {pc : Nat} {E : String} {ce : Cell} {q : Addr} {mc ms : Nat} (hout : ∀ x ∈ c.exceptionTable.toList, covers x pc = false) (hlocks : meth.locks = false) (hcell : H[q]? = some ce) (hv : ce.vm = .none) (hcl : s.vm.findClass E = some ce.cls)
    (hx : ∀ t : State, t.heap = H → s.vm.Alike t.vm → XC E s t) (hf : ∀ z ∈ locs, free z.base) (hc : cells ≤ mc) (hs : slots ≤ ms) :
    vx_W p l e R s m args below meth c H locs cells slots (vx_MQ below Qc XC args s mc ms free) (F0 m pc ls rest) q := by
  intro T hT X
  obtain ⟨st1, hrun, hend, hW, hsm⟩ := X.leaveThrown q (g := F0 m pc ls rest) rfl rfl rfl hout hlocks
  have hcell9 : (T.setFrames (.throwing q :: below)).heap[q]? = some ce := by
    show T.heap[q]? = some ce
    rw [hT]; exact hcell
  exact ⟨_, st1, .threw q, hrun, hend, Or.inr ⟨q, rfl, E, ce, locs, hx _ hT hW.alike, hcell9, hv, hcl, hW, hsm.mono hc hs, hf⟩⟩
theorem vx_frame {U : State} {k n : Nat} (h : s.sameButNew ({ U with vm := s.vm } : State) locs k n) : s.heap.size ≤ U.heap.size ∧ ∀ q : Nat, q < s.heap.size → (∀ z ∈ locs, z.base ≠ q) → U.heap[q]? = s.heap[q]? := by
  obtain ⟨-, h2, -, -, -, h6⟩ := h
  refine ⟨h2, fun q hq hz => ?_⟩
  obtain ⟨c9, e1, e2, e3, e4⟩ := h6 q _ (Array.getElem?_eq_getElem hq)
  have hs : c9.slots = (s.heap[q]).slots := Array.ext_getElem? fun i => e4 i fun hm => hz _ hm rfl
  have h9 : c9 = s.heap[q] := by
    rw [hs] at e2
    exact e2
  have e5 : U.heap[q]? = some c9 := e1
  rw [e5, h9, Array.getElem?_eq_getElem hq]
/-- the words of a throw but the four that speak of the heap -/
def vx_no (w : Cond) : Bool := decide (w ≠ .isRef (.static Bundle.tN "UNASSIGNED_STACK" Bundle.steD)) && decide (w ≠ .isRef (.static Bundle.tN "SUPPRESSED_SENTINEL" Bundle.listD)) && decide (w ≠ .laysStatic Bundle.tN "UNASSIGNED_STACK" Bundle.steD) && decide (w ≠ .laysStatic Bundle.tN "SUPPRESSED_SENTINEL" Bundle.listD)
def vx_at0 (own : String) (ic : Nat) (X : String) (names : List String) : List Cond := (Bundle.ownAtoms0 own ic X names).filter vx_no
def vx_atS (own : String) (ic : Nat) (X : String) (names : List String) : List Cond := (Bundle.ownAtoms own ic X names).filter vx_no
/-- a word that the tables alone decide, or a good one -/
def vx_ot (w : Cond) : Bool := w.onTables || goodWord w
theorem vx_ot_at {args a' : Array Value} {s U : State} {w : Cond} (hW : s.WarmedH U.vm) (hvm : s.vm = U.vm) (hg : vx_ot w = true) (h : w.before args s = true) : w.before a' U = true := by
  simp only [vx_ot, Bool.or_eq_true] at hg
  rcases hg with hg | hg
  · exact va_tabs hg hvm h
  · exact word_at hW (good_of_word hg) h
/-- a list's words: the good ones out of the method's own list, the others by premises of their own -/
theorem vx_hat {args : Array Value} {s : State} {L B : List Cond} (h1 : ∀ w ∈ L.filter goodWord, w.before args s = true) (h2 : ∀ w ∈ L.filter (fun w => !goodWord w), w ∈ B) (h3 : ∀ w ∈ B, w.before args s = true) : ∀ w ∈ L, w.before args s = true := by
  intro w hw
  by_cases g : goodWord w = true
  · exact h1 w (List.mem_filter.mpr ⟨hw, g⟩)
  · refine h3 w (h2 w (List.mem_filter.mpr ⟨hw, ?_⟩))
    show (!goodWord w) = true
    cases hgw : goodWord w
    · rfl
    · exact absurd hgw g
theorem vx_c {args : Array Value} {s : State} {w : Cond} {B : List Cond} (h : w.before args s = true) (t : ∀ w ∈ B, w.before args s = true) : ∀ w' ∈ w :: B, w'.before args s = true := fun w' h' => (List.mem_cons.mp h').elim (fun e => by rw [e]; exact h) (t w')
theorem vx_n {args : Array Value} {s : State} : ∀ w ∈ ([] : List Cond), w.before args s = true := fun _ h => nomatch h
theorem vx_own {args : Array Value} {s : State} {L : List Cond} (h1 : ∀ w ∈ L.filter vx_no, w.before args s = true)
    (hU : (Cond.isRef (.static Bundle.tN "UNASSIGNED_STACK" Bundle.steD)).before args s = true) (hN : (Cond.isRef (.static Bundle.tN "SUPPRESSED_SENTINEL" Bundle.listD)).before args s = true)
    (lU : (Cond.laysStatic Bundle.tN "UNASSIGNED_STACK" Bundle.steD).before args s = true) (lN : (Cond.laysStatic Bundle.tN "SUPPRESSED_SENTINEL" Bundle.listD).before args s = true) : ∀ w ∈ L, w.before args s = true := by
  intro w hw
  by_cases e1 : w = .isRef (.static Bundle.tN "UNASSIGNED_STACK" Bundle.steD)
  · rw [e1]; exact hU
  · by_cases e2 : w = .isRef (.static Bundle.tN "SUPPRESSED_SENTINEL" Bundle.listD)
    · rw [e2]; exact hN
    · by_cases e3 : w = .laysStatic Bundle.tN "UNASSIGNED_STACK" Bundle.steD
      · rw [e3]; exact lU
      · by_cases e4 : w = .laysStatic Bundle.tN "SUPPRESSED_SENTINEL" Bundle.listD
        · rw [e4]; exact lN
        · exact h1 w (List.mem_filter.mpr ⟨hw, by unfold vx_no; rw [decide_eq_true e1, decide_eq_true e2, decide_eq_true e3, decide_eq_true e4]; rfl⟩)
/-- where a static field lies, its class's statics cell in H -/
def vx_L (C n d : String) (A : Nat → Prop) (U : State) (H : Heap) : Prop := ∃ (c : ClassId) (k : Class) (i : Nat) (f : Field) (a : Nat) (cell : Cell), U.vm.findClass C = some c ∧ U.fieldFound? C n d = some (c, k, i, f) ∧ f.isStatic = true ∧ k.statics = some a ∧ H[a]? = some cell ∧ cell.vm.isStatics = true ∧ cell.cls = c ∧ f.slot < cell.slots.size ∧ k.staticTypes[f.slot]? = some f.type ∧ ¬ A a
theorem vx_L.moved {C n d : String} {A : Nat → Prop} {u U : State} {H : Heap} (hvm : u.vm.Alike U.vm) (h : vx_L C n d A u H) : vx_L C n d A U H := by
  obtain ⟨c, k, i, f, a, cell, h1, h2, h3, h4, h5, h6, h7, h8, h9, h10⟩ := h
  obtain ⟨k', hi', he⟩ := State.fieldFound?_setVm hvm h2
  exact ⟨c, k', i, f, a, cell, by rw [hvm.findClass]; exact h1, hi', h3, by rw [he]; exact h4, h5, h6, h7, h8, by rw [he]; exact h9, h10⟩
theorem vx_L.kept {C n d : String} {A : Nat → Prop} {U : State} {H H1 : Heap} (h : vx_L C n d A U H) (hq : ∀ a : Nat, a < H.size → ¬ A a → H1[a]? = H[a]?) : vx_L C n d A U H1 := by
  obtain ⟨c, k, i, f, a, cell, h1, h2, h3, h4, h5, h6, h7, h8, h9, h10⟩ := h
  exact ⟨c, k, i, f, a, cell, h1, h2, h3, h4, by rw [hq a (Array.getElem?_eq_some_iff.mp h5).1 h10]; exact h5, h6, h7, h8, h9, h10⟩
theorem vx_L.narrow {C n d : String} {A B : Nat → Prop} {U : State} {H : Heap} (h : vx_L C n d A U H) (hAB : ∀ q, B q → A q) : vx_L C n d B U H := by
  obtain ⟨c, k, i, f, a, cell, h1, h2, h3, h4, h5, h6, h7, h8, h9, h10⟩ := h
  exact ⟨c, k, i, f, a, cell, h1, h2, h3, h4, h5, h6, h7, h8, h9, fun z => h10 (hAB _ z)⟩
theorem vx_L.word {C n d : String} {A : Nat → Prop} {s : State} {args : Array Value} (h : vx_L C n d A s s.heap) : (Cond.laysStatic C n d).before args s = true := by
  obtain ⟨c, k, i, f, a, cell, h1, h2, h3, h4, h5, h6, h7, h8, h9, -⟩ := h
  show (Cond.laysStatic C n d).holds args s none s [] = true
  exact Cond.laysStatic_of h1 h2 h3 h4 h5 h6 h7 h8 h9
/-- .. and what it holds: null or some reference -/
def vx_Zq (C n d : String) (A : Nat → Prop) (U : State) (H : Heap) : Prop := va_Zq C n d A U H ∧ vx_L C n d A U H
theorem vx_Zq.moved {C n d : String} {A : Nat → Prop} {u U : State} {H : Heap} (hvm : u.vm.Alike U.vm) (h : vx_Zq C n d A u H) : vx_Zq C n d A U H := ⟨va_Zq.moved hvm h.1, vx_L.moved hvm h.2⟩
theorem vx_Zq.kept {C n d : String} {A : Nat → Prop} {U : State} {H H1 : Heap} (h : vx_Zq C n d A U H) (hq : ∀ a : Nat, a < H.size → ¬ A a → H1[a]? = H[a]?) : vx_Zq C n d A U H1 := ⟨va_Zq.kept h.1 hq, vx_L.kept h.2 hq⟩
theorem vx_Zq.narrow {C n d : String} {A B : Nat → Prop} {U : State} {H : Heap} (h : vx_Zq C n d A U H) (hAB : ∀ q, B q → A q) : vx_Zq C n d B U H := ⟨va_Zq.narrow h.1 hAB, vx_L.narrow h.2 hAB⟩
theorem vx_Zqof {args : Array Value} {s : State} {C n d : String} {A : Nat → Prop} (hl : (Cond.laysStatic C n d).before args s = true) (hini : (Cond.initialized C).before args s = true) (h : (Cond.isRef (.static C n d)).before args s = true) (hA : ∀ a : Nat, a < s.heap.size → ¬ A a) : vx_Zq C n d A s s.heap := by
  refine ⟨va_Zqof hl hini h hA, ?_⟩
  obtain ⟨c, k, i, f, a, cell, h1, h2, h3, h4, h5, h6, h7, h8, h9⟩ := Cond.laysStatic_spec hl
  exact ⟨c, k, i, f, a, cell, h1, h2, h3, h4, h5, h6, h7, h8, h9, hA a (Array.getElem?_eq_some_iff.mp h5).1⟩
theorem vx_isRef {C n d : String} {v : Value} {A : Nat → Prop} {s : State} {args : Array Value} (h : va_Z C n d v A s s.heap) (hv : v.isRef = true) : (Cond.isRef (.static C n d)).before args s = true := by
  obtain ⟨cf, kf, fi, f, a, cell, h1, h2, h3, h4, h5, h6, h7, -⟩ := h
  have he : (Term.static C n d).eval args s none [] s = some v := by
    simp [Term.eval, State.fieldNamed?, h1, h2, h4, h5, h6, h7]
  simp only [Cond.before, Cond.holds, Cond.value, he]
  cases v <;> simp_all [Value.isRef]
theorem vx_isRefq {C n d : String} {A : Nat → Prop} {s : State} {args : Array Value} (h : va_Zq C n d A s s.heap) : (Cond.isRef (.static C n d)).before args s = true := by
  rcases h with h | ⟨t, h⟩
  · exact vx_isRef h rfl
  · exact vx_isRef h rfl
/-- the same frame, seen from here: as if the method were called anew in this heap -/
theorem vx_rebase {T : State} (X : Stand p l e R s m args below meth c T locs cells slots) {R' : Room} (hf : R'.frames ≤ R.frames) (hl : R'.locals ≤ R.locals) (hc : cells + R'.cells ≤ R.cells) (hs : slots + R'.slots ≤ R.slots) :
    Stand p l e R' ((T.setVm s.vm).setFrames (.invoking m args :: below)) m args below meth c T [] 0 0 := by
  have htop : (T.setVm s.vm).topJava?.isSome := X.here.top
  have hF : ((T.setVm s.vm).setFrames (.invoking m args :: below)).frames = .invoking m args :: below := State.frames_setFrames _ (State.cur_lt_of_top htop)
  obtain ⟨g₀, hg0⟩ := Option.isSome_iff_exists.mp htop
  obtain ⟨r, hr⟩ := State.topJava?_eq_some.mp hg0
  have hl9 : e.platform.stackLimits (T.setVm s.vm).me = e.platform.stackLimits s.me := X.limits
  have hb9 : (T.setVm s.vm).me.stackBytes = s.me.stackBytes := X.bytes
  refine ⟨X.admits, X.cas, X.clock, hF, ?_, X.hears, X.method, X.code, X.here, X.tail, X.warmed, ?_, ?_, ?_⟩
  · have h := X.room
    have hU : ((T.setVm s.vm).setFrames (.invoking m args :: below)).localsInUse = s.localsInUse := by
      rw [State.localsInUse_invoking hF (meth := meth) (c := c) X.method X.code, State.localsInUse_invoking X.frames X.method X.code]
    simp only [State.hasRoom, Bool.and_eq_true, decide_eq_true_eq] at h ⊢
    obtain ⟨⟨⟨⟨h1, h2, h3, h4, h5, h6⟩, h7⟩, h8⟩, h9⟩ := h
    rw [X.frames, List.length_cons] at h2 h3
    have q1 := X.heapSize
    have q2 := X.used
    simp only [hF, hU, List.length_cons, State.stackLimits_setFrames, State.stackBytes_setFrames, hl9, hb9]
    refine ⟨⟨⟨⟨by omega, by omega, by omega, by omega, by omega, h6⟩, ?_⟩, ?_⟩, X.book⟩
    · show T.heap.size + R'.cells ≤ e.platform.maxCells
      omega
    · show T.slotsUsed + R'.slots ≤ e.platform.maxSlots
      omega
  · rw [State.stackLimits_setFrames]; rfl
  · rw [State.stackBytes_setFrames]; rfl
  · refine ⟨?_, Nat.le_refl _, Nat.le_refl _, ?_, ?_, fun a c9 h9 => ⟨c9, h9, rfl, rfl, fun _ _ => rfl⟩⟩
    · obtain ⟨t, ht, -⟩ := State.frames_cons hr
      show T.setVm s.vm = { ((T.setVm s.vm).setFrames (.invoking m args :: below)).setFrames (T.setVm s.vm).frames with heap := T.heap, slotsUsed := T.slotsUsed }
      rw [State.setFrames_setFrames, State.setFrames_self ht]
      rfl
    · show T.slotsUsed = T.slotsUsed + ((T.heap.toList.drop T.heap.size).map (·.slots.size)).sum
      rw [List.drop_eq_nil_of_le (Nat.le_of_eq Array.length_toList)]
      rfl
    · show ((T.heap.toList.drop T.heap.size).map (·.slots.size)).sum ≤ 0
      rw [List.drop_eq_nil_of_le (Nat.le_of_eq Array.length_toList)]
      exact Nat.le_refl _
/-- 'throw new E()': new; dup; invokespecial; athrow -/
theorem vx_throw0 {cc : ByteArray} {pc : Nat} (hexec : p.tables.exec = Jvm.exec) (hb : c.code = cc) (hl : l.stackTraces = false) {own cls : String} {names : List String} {ik ic mc ms : Nat} {A : Nat → Prop}
    (hown : s.vm.findClass own = some m.cls) (hcls : Bundle.fit cls = true) (hnames : ∀ n ∈ names, Bundle.fit n = true)
    (hk : (Cond.classLink own ik cls).before args s = true) (hini : (Cond.initialized cls).before args s = true) (hat : ∀ w ∈ vx_at0 own ic cls names, w.before args s = true)
    (hgood : ∀ w ∈ Cond.classLink own ik cls :: Cond.initialized cls :: vx_at0 own ic cls names, vx_ot w = true)
    (hU : vx_Zq Bundle.tN "UNASSIGNED_STACK" Bundle.steD A s s.heap) (hN : vx_Zq Bundle.tN "SUPPRESSED_SENTINEL" Bundle.listD A s s.heap) (hS : va_S A s.heap H locs) (hsize : ls.size = c.maxLocals)
    (d0 : decode cc pc = .ok (.new ik, 3)) (d3 : decode cc (pc + 3) = .ok (.dup, 1)) (d4 : decode cc (pc + 4) = .ok (.invokespecial ic, 3)) (d7 : decode cc (pc + 7) = .ok (.athrow, 1))
    (hout : ∀ x ∈ c.exceptionTable.toList, covers x (pc + 7) = false)
    (hRframes : names.length + 3 < R.frames) (hRlocals : (rest.map fun v => v.category).sum + (13 * (names.length + 1) + 42) ≤ R.locals) (hRcells : cells + 1 ≤ R.cells) (hRslots : slots + 6 ≤ R.slots) (hlocks : meth.locks = false)
    (hx : ∀ t : State, s.vm.Alike t.vm → H.size ≤ t.heap.size → (∀ q : Nat, q < H.size → t.heap[q]? = H[q]?) → XC cls s t)
    (hf : ∀ z ∈ locs, free z.base) (hc : cells + 1 ≤ mc) (hs : slots + 6 ≤ ms) :
    W p l e R s m args below meth c H locs cells slots (vx_MQ below Qc XC args s mc ms free) (F0 m pc ls rest) := by
  intro T hT X
  have htr : e.platform.stackTraces = false := (show e.platform.stackTraces = l.stackTraces by rw [X.admits.platform]).trans hl
  have Y := vx_rebase X (R' := { frames := R.frames, locals := R.locals, cells := 1, slots := 6 }) (Nat.le_refl _) (Nat.le_refl _) hRcells hRslots
  obtain ⟨s', hA⟩ : ∃ z, z = (T.setVm s.vm).setFrames (.invoking m args :: below) := ⟨_, rfl⟩
  rw [← hA] at Y
  have hvm : s'.vm = s.vm := by rw [hA]; rfl
  have hhp : s'.heap = H := by rw [hA]; exact hT
  have hW0 : s.WarmedH s'.vm := by rw [hvm]; exact State.WarmedH.refl s
  have hat' : ∀ w ∈ vx_at0 own ic cls names, w.before args s' = true := fun w hw => vx_ot_at hW0 hvm.symm (hgood w (List.mem_cons_of_mem _ (List.mem_cons_of_mem _ hw))) (hat w hw)
  have hk' : (Cond.classLink own ik cls).before args s' = true := vx_ot_at hW0 hvm.symm (hgood _ List.mem_cons_self) hk
  have hini' : (Cond.initialized cls).before args s' = true := vx_ot_at hW0 hvm.symm (hgood _ (List.mem_cons_of_mem _ List.mem_cons_self)) hini
  have hU' : vx_Zq Bundle.tN "UNASSIGNED_STACK" Bundle.steD A s' s'.heap := by rw [hhp]; exact vx_Zq.moved hW0.alike (hU.kept hS.2.1)
  have hN' : vx_Zq Bundle.tN "SUPPRESSED_SENTINEL" Bundle.listD A s' s'.heap := by rw [hhp]; exact vx_Zq.moved hW0.alike (hN.kept hS.2.1)
  have h : ∀ w ∈ Bundle.ownAtoms0 own ic cls names, w.before args s' = true := vx_own hat' (vx_isRefq hU'.1) (vx_isRefq hN'.1) hU'.2.word hN'.2.word
  have hown' : s'.vm.findClass own = some m.cls := by rw [hvm]; exact hown
  have hins : (Cond.instantiable cls 6).before args s' = true := h _ (by simp [Bundle.ownAtoms0])
  obtain ⟨vm₁, cX, kX, hfX, hkX, -, -, X₁, st1⟩ := Y.newCold hexec (own := own) (C := cls) (index := ik) (n := 6) hown' hk' hins hini'
    (g := F0 m pc ls rest) rfl (by rw [hb]; exact d0) (Nat.le_refl _) (Nat.le_refl _)
  generalize hT1 : (T.setVm vm₁).pushCell { cls := cX, slots := kX.instanceTypes.map defaultValue, vm := .none } = T1 at X₁ st1
  have hcat : (Value.ref T.heap.size).category = 1 := rfl
  have hcellA : T1.heap[T.heap.size]? = some (freshCell cX kX) := by rw [← hT1]; exact State.heap_pushCell_size _ _
  have d3' : decode c.code (pc + 3) = .ok (.dup, 1) := by rw [hb]; exact d3
  obtain ⟨U, hsteps, hrun, hend, hW, hsame, ce, hce, hO⟩ := X₁.ctorThrow0 hexec htr (own := own) (cls := cls) (names := names) (ic := ic) hown' hcls hnames h (fun x hx => nomatch hx) hfX hkX hcellA (by rw [hhp, hT]; exact Nat.le_refl _)
    (g := { method := m, pc := pc + 4, locals := ls, stack := .ref T.heap.size :: .ref T.heap.size :: rest, locked := none }) rfl hsize rfl rfl (rest := rest) rfl
    (by rw [hb]; exact d4) (by rw [hb]; exact d7) hout hRframes (by simp only [List.map_cons, List.sum_cons, hcat]; omega) hlocks
  obtain ⟨f1, f2⟩ := vx_frame hsame
  rw [hhp] at f1 f2
  have hWs : s.WarmedH U.vm := State.WarmedH.trans hW0 hW
  have hcl : s.vm.findClass cls = some ce.cls := by
    have h9 := hO.cls
    rw [hvm] at h9
    exact h9
  have hall : s.sameButNew ({ U with vm := s.vm } : State) locs mc ms := by
    subst hA
    obtain ⟨e1, e2⟩ := hsame
    rw [State.setFrames_setFrames] at e1
    have h2 : (T.setVm s.vm).sameButNew ({ U with vm := s.vm } : State) [] (0 + 1) (0 + 6) := ⟨e1, e2⟩
    have h3 := X.same.trans h2
    rw [List.append_nil] at h3
    exact h3.mono hc hs
  refine ⟨U, ?_, .threw T.heap.size, hrun, hend, Or.inr ⟨T.heap.size, rfl, cls, ce, locs, hx U hWs.alike f1 (fun q hq => f2 q hq (fun z hz => nomatch hz)), hce, hO.vm, hcl, hWs, hall, hf⟩⟩
  refine st1 _ ?_
  show Steps p.tables e below (T1.setTop { method := m, pc := pc + 3, locals := ls, stack := .ref T.heap.size :: rest, locked := none }) _
  jvm_step X₁.here [X₁.here.top, hexec, d3', Value.category]
  exact hsteps
/-- 'throw new E("text")': new; dup; ldc; invokespecial; athrow -/
theorem vx_throwS {cc : ByteArray} {pc : Nat} (hexec : p.tables.exec = Jvm.exec) (hb : c.code = cc) (hl : l.stackTraces = false) {own cls text : String} {names : List String} {ik is ic mc ms sa : Nat} {A : Nat → Prop}
    (hown : s.vm.findClass own = some m.cls) (hcls : Bundle.fit cls = true) (hnames : ∀ n ∈ names, Bundle.fit n = true)
    (hk : (Cond.classLink own ik cls).before args s = true) (hini : (Cond.initialized cls).before args s = true) (hstr : vk_R own is text sa s) (hat : ∀ w ∈ vx_atS own ic cls names, w.before args s = true)
    (hgood : ∀ w ∈ Cond.classLink own ik cls :: Cond.initialized cls :: vx_atS own ic cls names, vx_ot w = true)
    (hU : vx_Zq Bundle.tN "UNASSIGNED_STACK" Bundle.steD A s s.heap) (hN : vx_Zq Bundle.tN "SUPPRESSED_SENTINEL" Bundle.listD A s s.heap) (hS : va_S A s.heap H locs) (hsize : ls.size = c.maxLocals)
    (d0 : decode cc pc = .ok (.new ik, 3)) (d3 : decode cc (pc + 3) = .ok (.dup, 1)) (d4 : decode cc (pc + 4) = .ok (.ldc is, 2)) (d6 : decode cc (pc + 6) = .ok (.invokespecial ic, 3)) (d9 : decode cc (pc + 9) = .ok (.athrow, 1))
    (hout : ∀ x ∈ c.exceptionTable.toList, covers x (pc + 9) = false)
    (hRframes : names.length + 3 < R.frames) (hRlocals : (rest.map fun v => v.category).sum + (13 * (names.length + 1) + 43) ≤ R.locals) (hRcells : cells + 1 ≤ R.cells) (hRslots : slots + 6 ≤ R.slots) (hlocks : meth.locks = false)
    (hx : ∀ t : State, s.vm.Alike t.vm → H.size ≤ t.heap.size → (∀ q : Nat, q < H.size → t.heap[q]? = H[q]?) → XC cls s t)
    (hf : ∀ z ∈ locs, free z.base) (hc : cells + 1 ≤ mc) (hs : slots + 6 ≤ ms) :
    W p l e R s m args below meth c H locs cells slots (vx_MQ below Qc XC args s mc ms free) (F0 m pc ls rest) := by
  intro T hT X
  have htr : e.platform.stackTraces = false := (show e.platform.stackTraces = l.stackTraces by rw [X.admits.platform]).trans hl
  have Y := vx_rebase X (R' := { frames := R.frames, locals := R.locals, cells := 1, slots := 6 }) (Nat.le_refl _) (Nat.le_refl _) hRcells hRslots
  obtain ⟨s', hA⟩ : ∃ z, z = (T.setVm s.vm).setFrames (.invoking m args :: below) := ⟨_, rfl⟩
  rw [← hA] at Y
  have hvm : s'.vm = s.vm := by rw [hA]; rfl
  have hhp : s'.heap = H := by rw [hA]; exact hT
  have hW0 : s.WarmedH s'.vm := by rw [hvm]; exact State.WarmedH.refl s
  have hat' : ∀ w ∈ vx_atS own ic cls names, w.before args s' = true := fun w hw => vx_ot_at hW0 hvm.symm (hgood w (List.mem_cons_of_mem _ (List.mem_cons_of_mem _ hw))) (hat w hw)
  have hk' : (Cond.classLink own ik cls).before args s' = true := vx_ot_at hW0 hvm.symm (hgood _ List.mem_cons_self) hk
  have hini' : (Cond.initialized cls).before args s' = true := vx_ot_at hW0 hvm.symm (hgood _ (List.mem_cons_of_mem _ List.mem_cons_self)) hini
  have hU' : vx_Zq Bundle.tN "UNASSIGNED_STACK" Bundle.steD A s' s'.heap := by rw [hhp]; exact vx_Zq.moved hW0.alike (hU.kept hS.2.1)
  have hN' : vx_Zq Bundle.tN "SUPPRESSED_SENTINEL" Bundle.listD A s' s'.heap := by rw [hhp]; exact vx_Zq.moved hW0.alike (hN.kept hS.2.1)
  have h : ∀ w ∈ Bundle.ownAtoms own ic cls names, w.before args s' = true := vx_own hat' (vx_isRefq hU'.1) (vx_isRefq hN'.1) hU'.2.word hN'.2.word
  have hown' : s'.vm.findClass own = some m.cls := by rw [hvm]; exact hown
  have hins : (Cond.instantiable cls 6).before args s' = true := h _ (by simp [Bundle.ownAtoms])
  obtain ⟨vm₁, cX, kX, hfX, hkX, -, -, X₁, st1⟩ := Y.newCold hexec (own := own) (C := cls) (index := ik) (n := 6) hown' hk' hins hini'
    (g := F0 m pc ls rest) rfl (by rw [hb]; exact d0) (Nat.le_refl _) (Nat.le_refl _)
  generalize hT1 : (T.setVm vm₁).pushCell { cls := cX, slots := kX.instanceTypes.map defaultValue, vm := .none } = T1 at X₁ st1
  have hcat : (Value.ref T.heap.size).category = 1 := rfl
  have hcellA : T1.heap[T.heap.size]? = some (freshCell cX kX) := by rw [← hT1]; exact State.heap_pushCell_size _ _
  have d3' : decode c.code (pc + 3) = .ok (.dup, 1) := by rw [hb]; exact d3
  have d4' : decode c.code (pc + 4) = .ok (.ldc is, 2) := by rw [hb]; exact d4
  have hstr' : vk_R own is text sa s' := vk_R.warm hW0 hstr
  obtain ⟨U, hsteps, hrun, hend, hW, hsame, ce, hce, hO⟩ := X₁.ctorThrowS hexec htr (own := own) (cls := cls) (names := names) (ic := ic) hown' hcls hnames h (fun x hx => nomatch hx) hfX hkX hcellA (by rw [hhp, hT]; exact Nat.le_refl _) (msg := .ref sa) rfl
    (g := { method := m, pc := pc + 6, locals := ls, stack := .ref sa :: .ref T.heap.size :: .ref T.heap.size :: rest, locked := none }) rfl hsize rfl rfl (rest := rest) rfl
    (by rw [hb]; exact d6) (by rw [hb]; exact d9) hout hRframes (by simp only [List.map_cons, List.sum_cons, hcat]; omega) hlocks
  obtain ⟨f1, f2⟩ := vx_frame hsame
  rw [hhp] at f1 f2
  have hWs : s.WarmedH U.vm := State.WarmedH.trans hW0 hW
  have hcl : s.vm.findClass cls = some ce.cls := by
    have h9 := hO.cls
    rw [hvm] at h9
    exact h9
  have hall : s.sameButNew ({ U with vm := s.vm } : State) locs mc ms := by
    subst hA
    obtain ⟨e1, e2⟩ := hsame
    rw [State.setFrames_setFrames] at e1
    have h2 : (T.setVm s.vm).sameButNew ({ U with vm := s.vm } : State) [] (0 + 1) (0 + 6) := ⟨e1, e2⟩
    have h3 := X.same.trans h2
    rw [List.append_nil] at h3
    exact h3.mono hc hs
  refine ⟨U, ?_, .threw T.heap.size, hrun, hend, Or.inr ⟨T.heap.size, rfl, cls, ce, locs, hx U hWs.alike f1 (fun q hq => f2 q hq (fun z hz => nomatch hz)), hce, hO.vm, hcl, hWs, hall, hf⟩⟩
  refine st1 _ ?_
  show Steps p.tables e below (T1.setTop { method := m, pc := pc + 3, locals := ls, stack := .ref T.heap.size :: rest, locked := none }) _
  jvm_step X₁.here [X₁.here.top, hexec, d3', Value.category]
  exact X₁.ldcString hexec (own := own) (text := text) (index := is) (a := sa) hown' hstr'.1 hstr'.2
    (g := { method := m, pc := pc + 4, locals := ls, stack := .ref T.heap.size :: .ref T.heap.size :: rest, locked := none }) rfl d4' _ hsteps
/-- 'throw new E("text")', the text by a wide index -/
theorem vx_throwSW {cc : ByteArray} {pc : Nat} (hexec : p.tables.exec = Jvm.exec) (hb : c.code = cc) (hl : l.stackTraces = false) {own cls text : String} {names : List String} {ik is ic mc ms sa : Nat} {A : Nat → Prop}
    (hown : s.vm.findClass own = some m.cls) (hcls : Bundle.fit cls = true) (hnames : ∀ n ∈ names, Bundle.fit n = true)
    (hk : (Cond.classLink own ik cls).before args s = true) (hini : (Cond.initialized cls).before args s = true) (hstr : vk_R own is text sa s) (hat : ∀ w ∈ vx_atS own ic cls names, w.before args s = true)
    (hgood : ∀ w ∈ Cond.classLink own ik cls :: Cond.initialized cls :: vx_atS own ic cls names, vx_ot w = true)
    (hU : vx_Zq Bundle.tN "UNASSIGNED_STACK" Bundle.steD A s s.heap) (hN : vx_Zq Bundle.tN "SUPPRESSED_SENTINEL" Bundle.listD A s s.heap) (hS : va_S A s.heap H locs) (hsize : ls.size = c.maxLocals)
    (d0 : decode cc pc = .ok (.new ik, 3)) (d3 : decode cc (pc + 3) = .ok (.dup, 1)) (d4 : decode cc (pc + 4) = .ok (.ldc_w is, 3)) (d7 : decode cc (pc + 7) = .ok (.invokespecial ic, 3)) (d10 : decode cc (pc + 10) = .ok (.athrow, 1))
    (hout : ∀ x ∈ c.exceptionTable.toList, covers x (pc + 10) = false)
    (hRframes : names.length + 3 < R.frames) (hRlocals : (rest.map fun v => v.category).sum + (13 * (names.length + 1) + 43) ≤ R.locals) (hRcells : cells + 1 ≤ R.cells) (hRslots : slots + 6 ≤ R.slots) (hlocks : meth.locks = false)
    (hx : ∀ t : State, s.vm.Alike t.vm → H.size ≤ t.heap.size → (∀ q : Nat, q < H.size → t.heap[q]? = H[q]?) → XC cls s t)
    (hf : ∀ z ∈ locs, free z.base) (hc : cells + 1 ≤ mc) (hs : slots + 6 ≤ ms) :
    W p l e R s m args below meth c H locs cells slots (vx_MQ below Qc XC args s mc ms free) (F0 m pc ls rest) := by
  intro T hT X
  have htr : e.platform.stackTraces = false := (show e.platform.stackTraces = l.stackTraces by rw [X.admits.platform]).trans hl
  have Y := vx_rebase X (R' := { frames := R.frames, locals := R.locals, cells := 1, slots := 6 }) (Nat.le_refl _) (Nat.le_refl _) hRcells hRslots
  obtain ⟨s', hA⟩ : ∃ z, z = (T.setVm s.vm).setFrames (.invoking m args :: below) := ⟨_, rfl⟩
  rw [← hA] at Y
  have hvm : s'.vm = s.vm := by rw [hA]; rfl
  have hhp : s'.heap = H := by rw [hA]; exact hT
  have hW0 : s.WarmedH s'.vm := by rw [hvm]; exact State.WarmedH.refl s
  have hat' : ∀ w ∈ vx_atS own ic cls names, w.before args s' = true := fun w hw => vx_ot_at hW0 hvm.symm (hgood w (List.mem_cons_of_mem _ (List.mem_cons_of_mem _ hw))) (hat w hw)
  have hk' : (Cond.classLink own ik cls).before args s' = true := vx_ot_at hW0 hvm.symm (hgood _ List.mem_cons_self) hk
  have hini' : (Cond.initialized cls).before args s' = true := vx_ot_at hW0 hvm.symm (hgood _ (List.mem_cons_of_mem _ List.mem_cons_self)) hini
  have hU' : vx_Zq Bundle.tN "UNASSIGNED_STACK" Bundle.steD A s' s'.heap := by rw [hhp]; exact vx_Zq.moved hW0.alike (hU.kept hS.2.1)
  have hN' : vx_Zq Bundle.tN "SUPPRESSED_SENTINEL" Bundle.listD A s' s'.heap := by rw [hhp]; exact vx_Zq.moved hW0.alike (hN.kept hS.2.1)
  have h : ∀ w ∈ Bundle.ownAtoms own ic cls names, w.before args s' = true := vx_own hat' (vx_isRefq hU'.1) (vx_isRefq hN'.1) hU'.2.word hN'.2.word
  have hown' : s'.vm.findClass own = some m.cls := by rw [hvm]; exact hown
  have hins : (Cond.instantiable cls 6).before args s' = true := h _ (by simp [Bundle.ownAtoms])
  obtain ⟨vm₁, cX, kX, hfX, hkX, -, -, X₁, st1⟩ := Y.newCold hexec (own := own) (C := cls) (index := ik) (n := 6) hown' hk' hins hini'
    (g := F0 m pc ls rest) rfl (by rw [hb]; exact d0) (Nat.le_refl _) (Nat.le_refl _)
  generalize hT1 : (T.setVm vm₁).pushCell { cls := cX, slots := kX.instanceTypes.map defaultValue, vm := .none } = T1 at X₁ st1
  have hcat : (Value.ref T.heap.size).category = 1 := rfl
  have hcellA : T1.heap[T.heap.size]? = some (freshCell cX kX) := by rw [← hT1]; exact State.heap_pushCell_size _ _
  have d3' : decode c.code (pc + 3) = .ok (.dup, 1) := by rw [hb]; exact d3
  have d4' : decode c.code (pc + 4) = .ok (.ldc_w is, 3) := by rw [hb]; exact d4
  have hstr' : vk_R own is text sa s' := vk_R.warm hW0 hstr
  obtain ⟨U, hsteps, hrun, hend, hW, hsame, ce, hce, hO⟩ := X₁.ctorThrowS hexec htr (own := own) (cls := cls) (names := names) (ic := ic) hown' hcls hnames h (fun x hx => nomatch hx) hfX hkX hcellA (by rw [hhp, hT]; exact Nat.le_refl _) (msg := .ref sa) rfl
    (g := { method := m, pc := pc + 7, locals := ls, stack := .ref sa :: .ref T.heap.size :: .ref T.heap.size :: rest, locked := none }) rfl hsize rfl rfl (rest := rest) rfl
    (by rw [hb]; exact d7) (by rw [hb]; exact d10) hout hRframes (by simp only [List.map_cons, List.sum_cons, hcat]; omega) hlocks
  obtain ⟨f1, f2⟩ := vx_frame hsame
  rw [hhp] at f1 f2
  have hWs : s.WarmedH U.vm := State.WarmedH.trans hW0 hW
  have hcl : s.vm.findClass cls = some ce.cls := by
    have h9 := hO.cls
    rw [hvm] at h9
    exact h9
  have hall : s.sameButNew ({ U with vm := s.vm } : State) locs mc ms := by
    subst hA
    obtain ⟨e1, e2⟩ := hsame
    rw [State.setFrames_setFrames] at e1
    have h2 : (T.setVm s.vm).sameButNew ({ U with vm := s.vm } : State) [] (0 + 1) (0 + 6) := ⟨e1, e2⟩
    have h3 := X.same.trans h2
    rw [List.append_nil] at h3
    exact h3.mono hc hs
  refine ⟨U, ?_, .threw T.heap.size, hrun, hend, Or.inr ⟨T.heap.size, rfl, cls, ce, locs, hx U hWs.alike f1 (fun q hq => f2 q hq (fun z hz => nomatch hz)), hce, hO.vm, hcl, hWs, hall, hf⟩⟩
  refine st1 _ ?_
  show Steps p.tables e below (T1.setTop { method := m, pc := pc + 3, locals := ls, stack := .ref T.heap.size :: rest, locked := none }) _
  jvm_step X₁.here [X₁.here.top, hexec, d3', Value.category]
  exact X₁.ldcStringW hexec (own := own) (text := text) (index := is) (a := sa) hown' hstr'.1 hstr'.2
    (g := { method := m, pc := pc + 4, locals := ls, stack := .ref T.heap.size :: .ref T.heap.size :: rest, locked := none }) rfl d4' _ hsteps
end Ends
section Bodies
variable {l : Launch}
theorem vx_ofW {y : MethodName} {ws ws' : List Cond} {rm : Room} {Pc : Array Value → State → Prop} {Qc : Array Value → State → Outcome → State → Prop} {XC : String → State → State → Prop} {mc ms : Nat} {free : Addr → Prop} {cc : ByteArray} {maxL : Nat} {ret : Option FieldType}
    (hy : plainName y.cls = true) (hw : ws = Cond.code y cc maxL ret :: ws')
    (body : ∀ p e s m args below meth c s₁, BodyLoose p l y (headSpec ws rm) cc maxL ret e s m args below meth c s₁ → c.maxLocals = maxL → (∀ x ∈ c.exceptionTable.toList, False) → Pc args s →
      W p l e (headSpec ws rm).room s m args below meth c s.heap [] 0 0 (vx_MQ below Qc XC args s mc ms free) (entryFrame m args maxL)) : vx_Met l y ws rm Pc Qc XC mc ms free := by
  refine MetFree.of_bodyS (code := cc) (maxLocals := maxL) (ret := ret) hy ?_ ?_
  · intro args s m h hn
    obtain ⟨meth, c, h1, h2, h3, h4, h5, h6, -, -⟩ := Cond.code_spec hn (atoms_spec (ws := ws) h _ (by rw [hw]; exact List.mem_cons_self))
    exact ⟨meth, c, h1, h2, h3, h4, h5, h6⟩
  · intro p e s m args below meth c s₁ B hml hP _
    have hh0 : s₁.heap = s.heap := by rw [B.state]; rfl
    have ht : ∀ x ∈ c.exceptionTable.toList, False := by
      obtain ⟨meth9, c9, h1, h2, -, -, -, -, h7, -⟩ := Cond.code_spec B.named (atoms_spec (ws := ws) B.pre _ (by rw [hw]; exact List.mem_cons_self))
      cases Option.some.inj (h1.symm.trans B.method)
      cases Option.some.inj (h2.symm.trans (Stand.of_body B).code)
      intro x hx
      rw [Array.isEmpty_iff.mp h7] at hx
      cases hx
    obtain ⟨t, a1, o, b1, b2, b3⟩ := body p e s m args below meth c s₁ B hml ht hP s₁ hh0 (Stand.of_body B)
    exact ⟨t, o, a1, b1, b2, b3⟩
/-- the table of a body with handlers -/
theorem vx_table {p : Program} {x y : MethodName} {S : Spec} {cc bytes : ByteArray} {maxL maxL' : Nat} {ret ret' : Option FieldType} {e : Env} {s s₁ : State} {m : MethodId} {args : Array Value} {below : List Frame} {meth : Method} {c : Code} {hh : List (Nat × Nat × Nat × Nat)}
    (B : BodyLoose p l y S cc maxL ret e s m args below meth c s₁) (h : (Cond.codeWith y bytes maxL' ret' hh).before args s = true) : c.exceptionTable.toList = tableOf hh := by
  obtain ⟨m9, meth9, c9, hn9, h1, h2, -, -, h6, -⟩ := Cond.codeWith_spec h
  cases Option.some.inj (hn9.symm.trans B.named)
  cases Option.some.inj (h1.symm.trans B.method)
  cases Option.some.inj (h2.symm.trans (Stand.of_body B).code)
  rw [← h6, table_eq]
end Bodies
end VXA
/-! ===== END ===== -/
/-! ===== BEGIN a static call of a method with an exception table ===== -/
section VXS
variable {p : Program} {l : Launch} {e : Env} {R : Room} {s : State} {m : MethodId} {args : Array Value} {below : List Frame} {meth : Method} {c : Code} {T : State} {H : Heap} {locs : List Loc} {cells slots : Nat}
abbrev vx_CSW (R : Room) (s : State) (args : Array Value) (own : String) (index : Nat) (y : MethodName) (bytes : ByteArray) (maxL : Nat) (ret : Option FieldType) (hh : List (Nat × Nat × Nat × Nat)) (ws : List Cond) (rm : Room) (mc ms n : Nat) : Prop :=
  (rm.cells = mc ∧ rm.slots = ms ∧ rm.frames + 1 ≤ R.frames ∧ 8 + (maxL + 11) + rm.locals ≤ R.locals ∧ (∀ w ∈ ws, ∀ (a' : Array Value) (U : State), s.WarmedH U.vm → w.before a' U = true) ∧ Cond.codeWith y bytes maxL ret hh ∈ ws) ∧
  (Cond.codeWith y bytes maxL ret hh).before args s = true ∧ (Cond.initialized y.cls).before args s = true ∧ (y.cls ≠ "java/lang/invoke/MethodHandle" ∧ y.cls ≠ "java/lang/invoke/VarHandle") ∧
  (∀ sig, parseMethodDescriptor y.desc = some sig → n = sig.parameters.length) ∧ (Cond.methodLink own index y).before args s = true ∧ (Cond.static y).before args s = true
theorem vx_cwSW {own : String} {index maxL mc ms : Nat} {y : MethodName} {bytes : ByteArray} {ret : Option FieldType} {hh : List (Nat × Nat × Nat × Nat)} {Ts ws ws' : List Cond} {rm : Room} (n : Nat) (ht : ∀ w ∈ Ts, w.before args s = true) (hT : GoodIn Ts (va_wsS own index y ws)) (hw : ws = Cond.codeWith y bytes maxL ret hh :: ws') (hrc : rm.cells = mc) (hrs : rm.slots = ms)
    (hd : y.cls ≠ "java/lang/invoke/MethodHandle" ∧ y.cls ≠ "java/lang/invoke/VarHandle" ∧ (parseMethodDescriptor y.desc).map (fun d => d.parameters.length) = some n) (hR : rm.frames + 1 ≤ R.frames ∧ 8 + (maxL + 11) + rm.locals ≤ R.locals) :
    vx_CSW R s args own index y bytes maxL ret hh ws rm mc ms n := by
  have ok : ∀ w ∈ va_wsS own index y ws, w.before args s = true := fun w h => ht w (hT w h).1
  have hG : GoodIn Ts ws := fun w h => hT w (by unfold va_wsS; exact List.mem_append_right _ h)
  have hc : Cond.codeWith y bytes maxL ret hh ∈ ws := by rw [hw]; exact List.mem_cons_self
  refine ⟨⟨hrc, hrs, hR.1, hR.2, pay_in ht hG, hc⟩, ht _ (hG _ hc).1, ok _ (by simp [va_wsS]), ⟨hd.1, hd.2.1⟩, fun sig h => ?_, ok _ (by simp [va_wsS]), ok _ (by simp [va_wsS])⟩
  have h2 := hd.2.2
  rw [h] at h2
  exact (Option.some.inj h2).symm
theorem vx_callSW (X : Stand p l e R s m args below meth c T locs cells slots) (hexec : p.tables.exec = Jvm.exec) {own : String} {index : Nat} {y : MethodName} {bytes : ByteArray} {maxL : Nat} {ret : Option FieldType} {hh : List (Nat × Nat × Nat × Nat)}
    (hown : s.vm.findClass own = some m.cls) (hlink : (Cond.methodLink own index y).before args s = true) (hstat : (Cond.static y).before args s = true) (hinit : (Cond.initialized y.cls).before args s = true)
    (hcode : (Cond.codeWith y bytes maxL ret hh).before args s = true) (hy : y.cls ≠ "java/lang/invoke/MethodHandle" ∧ y.cls ≠ "java/lang/invoke/VarHandle")
    {W9 : Nat} {Pre : Pt → Array Value → Prop} {Post : Pt → Array Value → Option Value → Pt → Prop} (hK : Back l R p e below s args y 3 W9 Pre Post)
    {g : JFrame} (hg : g.method = m) (hsize : g.locals.size = c.maxLocals) {argsL rest : List Value} (hlen : ∀ sig, parseMethodDescriptor y.desc = some sig → argsL.length = sig.parameters.length)
    (hstack : g.stack = argsL.reverse ++ rest) (hW : 2 * g.monitorRoom + (rest.map fun v => v.category).sum ≤ W9) (hdg : decode c.code g.pc = .ok (.invokestatic index, 3))
    (hpre : ∀ vm₁, s.WarmedH vm₁ → Pre ⟨T.setVm vm₁, locs, cells, slots⟩ argsL.toArray) :
    ∃ (v : Option Value) (vm₁ : Vm) (B : Pt), s.WarmedH vm₁ ∧ Stand p l e R s m args below meth c B.U B.locs B.cells B.slots ∧ Post ⟨T.setVm vm₁, locs, cells, slots⟩ argsL.toArray v B ∧
      ∀ target, Steps p.tables e below (B.U.setTop { g with pc := g.pc + 3, stack := v.toList ++ rest }) target → Steps p.tables e below (T.setTop g) target := by
  obtain ⟨mk, methM, cM, hnamed, hmethM, -, -, -, -, -, -, hsigM⟩ := Cond.codeWith_spec hcode
  have hstatic : methM.isStatic = true := Cond.static_spec hnamed hmethM hstat
  obtain ⟨kP, hkP, -⟩ := className_of_methodNamed hnamed
  have hinitP : kP.init = .initialized := Cond.initialized_spec (findClass_of_methodNamed hnamed) hkP hinit
  obtain ⟨vm₁, X₁, hstep₁⟩ := X.invokestatic hexec hown hlink hnamed hmethM hstatic hkP hinitP hy (g := g) hg (argsL := argsL) (rest := rest) (hlen _ hsigM) hstack hdg
  obtain ⟨v, B, X', hpost, hsteps⟩ := hK m meth c ⟨T.setVm vm₁, locs, cells, slots⟩ { g with stack := rest } (.invokestatic index) mk argsL.toArray X₁ hg hsize hdg hW (X₁.named hnamed) (hpre vm₁ X₁.warmed)
  exact ⟨v, vm₁, B, X₁.warmed, X', hpost, fun target h => hstep₁ _ fun acts => by rw [doInvoke_state]; exact hsteps.trans h⟩
theorem vx_runSW {y : MethodName} {bytes cc : ByteArray} {maxL nL mc ms n index : Nat} {ret : Option FieldType} {hh : List (Nat × Nat × Nat × Nat)} {ws : List Cond} {rm : Room} {Pc : Array Value → State → Prop} {Qc : Array Value → State → Outcome → State → Prop} {free : Addr → Prop} {Ts : List Cond} {own : String} {As rest : List Value} {g : JFrame}
    (S : CallFix p m c cc nL s args Ts own) (hM : Met l y ws rm Pc Qc mc ms free) (cw : vx_CSW R s args own index y bytes maxL ret hh ws rm mc ms n) (hp : PreS s H Pc As)
    (hg : g.method = m) (hn : As.length = n) (hsize : g.locals.size = nL) (hstack : g.stack = As.reverse ++ rest) (hW : 2 * g.monitorRoom + (rest.map fun v => v.category).sum ≤ 8) (hdg : decode cc g.pc = .ok (.invokestatic index, 3)) (hf : cells + mc ≤ R.cells ∧ slots + ms ≤ R.slots) :
    va_Run p l e R s m args below meth c H locs cells slots mc ms g rest (Qc As.toArray) (free) := by
  obtain ⟨⟨hrc, hrs, hfr, hlo, hws, hcw⟩, hcode, hini, hy, hlen, hl, hstt⟩ := cw
  have hK : Back l R p e below s args y 3 8 (PreOf R mc ms Pc) (PostOf Qc mc ms free) := va_backW (hh := hh) (bytes := bytes) (maxL := maxL) (ret := ret) hM hp.1 hrc hrs hfr hlo hws hcw (fun a' U hW => word_at hW (Or.inl (by first | rfl | simp [Cond.onTables, Cond.keeps, Cond.steady])) hini)
  obtain ⟨hx, hb, hml, ho, -⟩ := S
  intro T hT X
  obtain ⟨v, vm₁, ⟨U', l2, c2, s2⟩, hW₁, X', ⟨g', mk, t, L, e1, e2, hq, h1, hL, h2, h3⟩, st⟩ := vx_callSW X hx (hh := hh) (bytes := bytes) (maxL := maxL) (ret := ret) ho hl hstt hini hcode hy hK hg (hsize.trans hml.symm) (argsL := As) (rest := rest) (fun sig h => hn.trans (hlen sig h)) hstack hW (by rw [hb]; exact hdg)
    (fun vm₁ hW₁ => ⟨hf.1, hf.2, hp.2 (T.setVm vm₁) hT hW₁⟩)
  dsimp only [Pt.U, Pt.locs, Pt.cells, Pt.slots] at X' e1 e2 h1 h2 h3 st
  subst h1; subst h2; subst h3
  exact ⟨v, (T.setVm vm₁).calling g' mk As.toArray, t, U', L, hT, X', hL, e1, e2, hq, st⟩
/-- a thing of a world lies in the heap -/
theorem vx_lt {D : va_G} {cl : List vw_C} {ws : va_W} {H1 : Heap} (h : va_P D cl ws H1) {k : Nat} {q : Nat × va_E} (hk : ws[k]? = some q) : q.1 < H1.size := (h k q hk).lt
end VXS
/-! ===== END ===== -/
/-! ===== BEGIN methods with a table of their own: called by a name, returning or throwing ===== -/
section VXH
/-! vx_backW, vx_callVX, vx_callSX, vx_callVW, vx_runVW, vx_runVX, vx_runSX, vx_ofWH follow the same proofs as their sisters above (Free/Laws.lean, Shelf42/LK1.lean); vx_outP calls Shelf42/NT130.lean (outThrough). -/
section
variable {l : Launch} {R : Room} {p : Program} {e : Env} {below : List Frame} {s : State} {sargs : Array Value} {y : MethodName} {len W9 : Nat}
theorem vx_backW {ws : List Cond} {rm : Room} {Pc : Array Value → State → Prop} {Qc : Array Value → State → Outcome → State → Prop} {XC : String → State → State → Prop} {mc ms : Nat} {free : Addr → Prop} {bytes : ByteArray} {maxL : Nat} {ret : Option FieldType} {hh : List (Nat × Nat × Nat × Nat)}
    (hM : vx_Met l y ws rm Pc Qc XC mc ms free) (hblind : FrameBlind Pc) (hrc : rm.cells = mc) (hrs : rm.slots = ms)
    (hframes : rm.frames + 1 ≤ R.frames) (hlocals : W9 + (maxL + 11) + rm.locals ≤ R.locals)
    (hws : ∀ w ∈ ws, ∀ a' U, s.WarmedH U.vm → w.before a' U = true) (hcode : Cond.codeWith y bytes maxL ret hh ∈ ws) (hinit : ∀ a' U, s.WarmedH U.vm → (Cond.initialized y.cls).before a' U = true) :
    vx_Back l R p e below s sargs y len W9 (PreOf R mc ms Pc) (PostOf Qc mc ms free) (vx_Post XC mc ms free) := by
  intro m meth c A g ig mk a X hg hsize hdg hW hn hp
  have h1 : (headSpec ws rm).pre.before a A.U = true := atoms_intro fun w hw => hws w hw _ _ X.warmed
  have h2 : (Cond.codeWith y bytes maxL ret hh).before a A.U = true := hws _ hcode _ _ X.warmed
  have h3 : (Cond.initialized y.cls).before a A.U = true := hinit _ _ X.warmed
  have h4 : A.cells + (headSpec ws rm).room.cells ≤ R.cells := by rw [show (headSpec ws rm).room.cells = mc from hrc]; exact hp.1
  have h5 : A.slots + (headSpec ws rm).room.slots ≤ R.slots := by rw [show (headSpec ws rm).room.slots = ms from hrs]; exact hp.2.1
  have hPc : Pc a (A.U.calling g mk a) := hblind _ _ _ _ hp.2.2
  obtain ⟨U, Ls, c0, s0⟩ := A
  dsimp only [Pt.U, Pt.locs, Pt.cells, Pt.slots] at h1 h2 h3 h4 h5 X hn hPc ⊢
  obtain ⟨m9, methY, cY, hn9, hmY, hcY, -, hlY, -⟩ := Cond.codeWith_spec h2
  cases Option.some.inj (hn9.symm.trans hn)
  obtain ⟨kY, hkY, -⟩ := className_of_methodNamed hn
  have hinitY : kY.init = .initialized := Cond.initialized_spec (findClass_of_methodNamed hn) hkY h3
  have h : At U g.method c below := by rw [hg]; exact X.here
  have hlocals9 : W9 + (maxL + 11) + (headSpec ws rm).room.locals ≤ R.locals := hlocals
  have happ : (headSpec ws rm).appliesLoose y e.platform (U.calling g mk a) = true :=
    Spec.appliesLoose_calling (g := g) h hdg hn hkY hinitY
      (X.room_calling (g := g) (R' := (headSpec ws rm).room) hsize hmY hcY hframes (by rw [hlY]; omega) h4 h5) h1
  obtain ⟨mid, hmid⟩ := h.above
  have hfr : (U.setTop g).frames = (.java g :: mid) ++ below := by rw [State.frames_setTop' g h.top, hmid]; rfl
  obtain ⟨o, s₂, hsteps, -, hend, hq⟩ := Steps.callFree hM p X.admits X.cas X.clock (acts := []) hfr happ hPc trivial
  have hq' : vx_Q Qc XC mc ms free a (U.calling g mk a) o s₂ := hq
  rw [State.frames_setTop' g h.top] at hend
  obtain ⟨g₀, hg0⟩ := Option.isSome_iff_exists.mp h.top
  obtain ⟨r, hr⟩ := State.topJava?_eq_some.mp hg0
  have hr' : (({ U with heap := s₂.heap, slotsUsed := s₂.slotsUsed } : State).setVm s₂.vm).frames = .java g₀ :: r := hr
  rcases hq' with ⟨hqc, L, hfe, hL⟩ | ⟨q, rfl, E, ce, L, hx, hce, hcv, hcl, hW₂, hsm, hL⟩
  · obtain ⟨⟨v, rfl⟩, hW₂, e2, q2, q3, q4, q5, q6⟩ := id hfe
    have e3 : s₂ = ({ (U.calling g mk a).setFrames s₂.frames with heap := s₂.heap, slotsUsed := s₂.slotsUsed } : State).setVm s₂.vm := by
      have : s₂ = ({ s₂ with vm := (U.calling g mk a).vm } : State).setVm s₂.vm := rfl
      rw [e2] at this
      exact this
    obtain ⟨c₂, i₂, len₂, hc₂, hd₂, hf₂⟩ := hend
    have hW' : U.WarmedH s₂.vm := hW₂
    have hcc : c₂ = c := by
      have h1 : s₂.code? g.method = U.code? g.method := by
        rw [State.code?_eq, State.code?_eq, hW'.alike.method?]
      exact Option.some.inj (hc₂.symm.trans (h1.trans h.code))
    subst hcc
    have hlen : len₂ = len := by rw [hdg] at hd₂; cases hd₂; rfl
    subst hlen
    have hs₂ : s₂ = (({ U with heap := s₂.heap, slotsUsed := s₂.slotsUsed } : State).setVm s₂.vm).setTop { g with pc := g.pc + len₂, stack := v.toList ++ g.stack } := by
      refine e3.trans ?_
      rw [hf₂, State.calling_eq h.top, State.setFrames_setFrames, State.setTop_of_frames _ hr', hr]
      rfl
    have hsame : U.sameButNew ({ U with heap := s₂.heap, slotsUsed := s₂.slotsUsed } : State) L mc ms := by
      refine ⟨?_, q2, q3, q4, q5, q6⟩
      obtain ⟨t, ht, -⟩ := State.frames_cons hr
      show ({ U with heap := s₂.heap, slotsUsed := s₂.slotsUsed } : State) = { U.setFrames U.frames with heap := s₂.heap, slotsUsed := s₂.slotsUsed }
      rw [State.setFrames_self ht]
    subst hg
    refine Or.inl ⟨v, ⟨(({ U with heap := s₂.heap, slotsUsed := s₂.slotsUsed } : State).setVm s₂.vm), Ls ++ L, c0 + mc, s0 + ms⟩,
      ⟨X.admits, X.cas, X.clock, X.frames, X.room, X.hears, X.method, X.code, (X.here.setHeapUsed s₂.heap s₂.slotsUsed).setVm hW'.alike, X.tail, State.WarmedH.trans X.warmed hW', X.limits, X.bytes, X.same.trans (hsame.setVm s.vm)⟩,
      ⟨g, mk, s₂, L, rfl, rfl, hqc, rfl, hL, rfl, rfl⟩, ?_⟩
    show Steps p.tables e below _ ((({ U with heap := s₂.heap, slotsUsed := s₂.slotsUsed } : State).setVm s₂.vm).setTop { g with pc := g.pc + len₂, stack := v.toList ++ g.stack })
    rw [← hs₂]
    exact hsteps
  · obtain ⟨e2, q2, q3, q4, q5, q6⟩ := id hsm
    have e3 : s₂ = ({ (U.calling g mk a).setFrames s₂.frames with heap := s₂.heap, slotsUsed := s₂.slotsUsed } : State).setVm s₂.vm := by
      have : s₂ = ({ s₂ with vm := (U.calling g mk a).vm } : State).setVm s₂.vm := rfl
      rw [e2] at this
      exact this
    have hf₂ : s₂.frames = .throwing q :: .java g :: U.frames.tail := hend
    have hW' : U.WarmedH s₂.vm := hW₂
    have hs₂ : s₂ = ((({ U with heap := s₂.heap, slotsUsed := s₂.slotsUsed } : State).setVm s₂.vm).setTop g).pushFrame (.throwing q) := by
      refine e3.trans ?_
      rw [hf₂, State.calling_eq h.top, State.setFrames_setFrames, State.pushFrame, State.frames_setTop _ hr', State.setTop_of_frames _ hr', State.setFrames_setFrames, hr]
      rfl
    have hsame : U.sameButNew ({ U with heap := s₂.heap, slotsUsed := s₂.slotsUsed } : State) L mc ms := by
      refine ⟨?_, q2, q3, q4, q5, q6⟩
      obtain ⟨t, ht, -⟩ := State.frames_cons hr
      show ({ U with heap := s₂.heap, slotsUsed := s₂.slotsUsed } : State) = { U.setFrames U.frames with heap := s₂.heap, slotsUsed := s₂.slotsUsed }
      rw [State.setFrames_self ht]
    subst hg
    refine Or.inr ⟨q, ⟨(({ U with heap := s₂.heap, slotsUsed := s₂.slotsUsed } : State).setVm s₂.vm), Ls ++ L, c0 + mc, s0 + ms⟩,
      ⟨X.admits, X.cas, X.clock, X.frames, X.room, X.hears, X.method, X.code, (X.here.setHeapUsed s₂.heap s₂.slotsUsed).setVm hW'.alike, X.tail, State.WarmedH.trans X.warmed hW', X.limits, X.bytes, X.same.trans (hsame.setVm s.vm)⟩,
      ⟨g, mk, s₂, L, E, ce, rfl, rfl, hx, hce, hcv, hcl, rfl, hL, rfl, rfl⟩, ?_⟩
    show Steps p.tables e below _ (((({ U with heap := s₂.heap, slotsUsed := s₂.slotsUsed } : State).setVm s₂.vm).setTop g).pushFrame (.throwing q))
    rw [← hs₂]
    exact hsteps
end
variable {p : Program} {l : Launch} {e : Env} {R : Room} {s : State} {m : MethodId} {args : Array Value} {below : List Frame} {meth : Method} {c : Code} {T : State} {H : Heap} {locs : List Loc} {cells slots : Nat}
theorem vx_callVX (X : Stand p l e R s m args below meth c T locs cells slots) (hexec : p.tables.exec = Jvm.exec) {own C : String} {index : Nat} {y : MethodName} {bytes : ByteArray} {maxL : Nat} {ret : Option FieldType} {hh : List (Nat × Nat × Nat × Nat)}
    (hown : s.vm.findClass own = some m.cls) (hlink : (Cond.methodLink own index y).before args s = true) (hinst : (Cond.instanceMethod y).before args s = true) (hsel : (Cond.selects C y y).before args s = true)
    (hcode : (Cond.codeWith y bytes maxL ret hh).before args s = true) (hy : y.cls ≠ "java/lang/invoke/MethodHandle" ∧ y.cls ≠ "java/lang/invoke/VarHandle")
    {W9 : Nat} {Pre : Pt → Array Value → Prop} {Post : Pt → Array Value → Option Value → Pt → Prop} {PostX : Pt → Array Value → Addr → Pt → Prop} (hK : vx_Back l R p e below s args y 3 W9 Pre Post PostX)
    {b : Addr} {cellB : Cell} (hcell : T.heap[b]? = some cellB) (hobj : cellB.vm.isStatics = false) (hcls : s.vm.findClass C = some cellB.cls)
    {g : JFrame} (hg : g.method = m) (hsize : g.locals.size = c.maxLocals) {argsL rest : List Value} (hlen : ∀ sig, parseMethodDescriptor y.desc = some sig → argsL.length = sig.parameters.length)
    (hstack : g.stack = argsL.reverse ++ .ref b :: rest) (hW : 2 * g.monitorRoom + (rest.map fun v => v.category).sum ≤ W9) (hdg : decode c.code g.pc = .ok (.invokevirtual index, 3))
    (hpre : ∀ vm₁, s.WarmedH vm₁ → Pre ⟨T.setVm vm₁, locs, cells, slots⟩ (Value.ref b :: argsL).toArray) :
    (∃ (v : Option Value) (vm₁ : Vm) (B : Pt), s.WarmedH vm₁ ∧ Stand p l e R s m args below meth c B.U B.locs B.cells B.slots ∧ Post ⟨T.setVm vm₁, locs, cells, slots⟩ (Value.ref b :: argsL).toArray v B ∧
      ∀ target, Steps p.tables e below (B.U.setTop { g with pc := g.pc + 3, stack := v.toList ++ rest }) target → Steps p.tables e below (T.setTop g) target) ∨
    (∃ (q : Addr) (vm₁ : Vm) (B : Pt), s.WarmedH vm₁ ∧ Stand p l e R s m args below meth c B.U B.locs B.cells B.slots ∧ PostX ⟨T.setVm vm₁, locs, cells, slots⟩ (Value.ref b :: argsL).toArray q B ∧
      Steps p.tables e below (T.setTop g) ((B.U.setTop { g with stack := rest }).pushFrame (.throwing q))) := by
  obtain ⟨mk, methM, hnamed, hmethM, hstM, habM⟩ := Cond.instanceMethod_spec hinst
  obtain ⟨m8, methM', cM, hn8, hmethM', -, -, -, -, -, -, hsigM⟩ := Cond.codeWith_spec hcode
  cases Option.some.inj (hn8.symm.trans hnamed)
  cases hmethM.symm.trans hmethM'
  obtain ⟨c2, r2, m2, q1, q2, q3, q4, kP, hkP, hkPi⟩ := Cond.selects_spec hsel
  cases hcls.symm.trans q1
  cases (State.methodFound?_of_named hnamed hy).symm.trans q2
  cases hnamed.symm.trans q3
  have hselP : selectMethod e.platform s.vm cellB.cls mk = .method mk := by rw [Launch.admits_selectMethod X.admits]; exact q4
  obtain ⟨vm₁, X₁, hstep₁⟩ := X.invokevirtual hexec hown hlink hnamed hmethM hstM hkP hkPi hy (a := b) (cell := cellB) hcell
    (fun z h => by rw [h] at hobj; cases hobj) hselP hmethM habM hkP hkPi (g := g) hg (argsL := argsL) (rest := rest) (hlen _ hsigM) hstack hdg
  rcases hK m meth c ⟨T.setVm vm₁, locs, cells, slots⟩ { g with stack := rest } (.invokevirtual index) mk (Value.ref b :: argsL).toArray X₁ hg hsize hdg hW (X₁.named hnamed) (hpre vm₁ X₁.warmed) with ⟨v, B, X', hpost, hsteps⟩ | ⟨q, B, X', hpost, hsteps⟩
  · exact Or.inl ⟨v, vm₁, B, X₁.warmed, X', hpost, fun target h => hstep₁ _ fun acts => by rw [doInvoke_state]; exact hsteps.trans h⟩
  · exact Or.inr ⟨q, vm₁, B, X₁.warmed, X', hpost, hstep₁ _ fun acts => by rw [doInvoke_state]; exact hsteps⟩
theorem vx_callSX (X : Stand p l e R s m args below meth c T locs cells slots) (hexec : p.tables.exec = Jvm.exec) {own : String} {index : Nat} {y : MethodName} {bytes : ByteArray} {maxL : Nat} {ret : Option FieldType} {hh : List (Nat × Nat × Nat × Nat)}
    (hown : s.vm.findClass own = some m.cls) (hlink : (Cond.methodLink own index y).before args s = true) (hstat : (Cond.static y).before args s = true) (hinit : (Cond.initialized y.cls).before args s = true)
    (hcode : (Cond.codeWith y bytes maxL ret hh).before args s = true) (hy : y.cls ≠ "java/lang/invoke/MethodHandle" ∧ y.cls ≠ "java/lang/invoke/VarHandle")
    {W9 : Nat} {Pre : Pt → Array Value → Prop} {Post : Pt → Array Value → Option Value → Pt → Prop} {PostX : Pt → Array Value → Addr → Pt → Prop} (hK : vx_Back l R p e below s args y 3 W9 Pre Post PostX)
    {g : JFrame} (hg : g.method = m) (hsize : g.locals.size = c.maxLocals) {argsL rest : List Value} (hlen : ∀ sig, parseMethodDescriptor y.desc = some sig → argsL.length = sig.parameters.length)
    (hstack : g.stack = argsL.reverse ++ rest) (hW : 2 * g.monitorRoom + (rest.map fun v => v.category).sum ≤ W9) (hdg : decode c.code g.pc = .ok (.invokestatic index, 3))
    (hpre : ∀ vm₁, s.WarmedH vm₁ → Pre ⟨T.setVm vm₁, locs, cells, slots⟩ argsL.toArray) :
    (∃ (v : Option Value) (vm₁ : Vm) (B : Pt), s.WarmedH vm₁ ∧ Stand p l e R s m args below meth c B.U B.locs B.cells B.slots ∧ Post ⟨T.setVm vm₁, locs, cells, slots⟩ argsL.toArray v B ∧
      ∀ target, Steps p.tables e below (B.U.setTop { g with pc := g.pc + 3, stack := v.toList ++ rest }) target → Steps p.tables e below (T.setTop g) target) ∨
    (∃ (q : Addr) (vm₁ : Vm) (B : Pt), s.WarmedH vm₁ ∧ Stand p l e R s m args below meth c B.U B.locs B.cells B.slots ∧ PostX ⟨T.setVm vm₁, locs, cells, slots⟩ argsL.toArray q B ∧
      Steps p.tables e below (T.setTop g) ((B.U.setTop { g with stack := rest }).pushFrame (.throwing q))) := by
  obtain ⟨mk, methM, cM, hnamed, hmethM, -, -, -, -, -, -, hsigM⟩ := Cond.codeWith_spec hcode
  have hstatic : methM.isStatic = true := Cond.static_spec hnamed hmethM hstat
  obtain ⟨kP, hkP, -⟩ := className_of_methodNamed hnamed
  have hinitP : kP.init = .initialized := Cond.initialized_spec (findClass_of_methodNamed hnamed) hkP hinit
  obtain ⟨vm₁, X₁, hstep₁⟩ := X.invokestatic hexec hown hlink hnamed hmethM hstatic hkP hinitP hy (g := g) hg (argsL := argsL) (rest := rest) (hlen _ hsigM) hstack hdg
  rcases hK m meth c ⟨T.setVm vm₁, locs, cells, slots⟩ { g with stack := rest } (.invokestatic index) mk argsL.toArray X₁ hg hsize hdg hW (X₁.named hnamed) (hpre vm₁ X₁.warmed) with ⟨v, B, X', hpost, hsteps⟩ | ⟨q, B, X', hpost, hsteps⟩
  · exact Or.inl ⟨v, vm₁, B, X₁.warmed, X', hpost, fun target h => hstep₁ _ fun acts => by rw [doInvoke_state]; exact hsteps.trans h⟩
  · exact Or.inr ⟨q, vm₁, B, X₁.warmed, X', hpost, hstep₁ _ fun acts => by rw [doInvoke_state]; exact hsteps⟩
theorem vx_callVW (X : Stand p l e R s m args below meth c T locs cells slots) (hexec : p.tables.exec = Jvm.exec) {own C : String} {index : Nat} {y : MethodName} {bytes : ByteArray} {maxL : Nat} {ret : Option FieldType} {hh : List (Nat × Nat × Nat × Nat)}
    (hown : s.vm.findClass own = some m.cls) (hlink : (Cond.methodLink own index y).before args s = true) (hinst : (Cond.instanceMethod y).before args s = true) (hsel : (Cond.selects C y y).before args s = true)
    (hcode : (Cond.codeWith y bytes maxL ret hh).before args s = true) (hy : y.cls ≠ "java/lang/invoke/MethodHandle" ∧ y.cls ≠ "java/lang/invoke/VarHandle")
    {W9 : Nat} {Pre : Pt → Array Value → Prop} {Post : Pt → Array Value → Option Value → Pt → Prop} (hK : Back l R p e below s args y 3 W9 Pre Post)
    {b : Addr} {cellB : Cell} (hcell : T.heap[b]? = some cellB) (hobj : cellB.vm.isStatics = false) (hcls : s.vm.findClass C = some cellB.cls)
    {g : JFrame} (hg : g.method = m) (hsize : g.locals.size = c.maxLocals) {argsL rest : List Value} (hlen : ∀ sig, parseMethodDescriptor y.desc = some sig → argsL.length = sig.parameters.length)
    (hstack : g.stack = argsL.reverse ++ .ref b :: rest) (hW : 2 * g.monitorRoom + (rest.map fun v => v.category).sum ≤ W9) (hdg : decode c.code g.pc = .ok (.invokevirtual index, 3))
    (hpre : ∀ vm₁, s.WarmedH vm₁ → Pre ⟨T.setVm vm₁, locs, cells, slots⟩ (Value.ref b :: argsL).toArray) :
    ∃ (v : Option Value) (vm₁ : Vm) (B : Pt), s.WarmedH vm₁ ∧ Stand p l e R s m args below meth c B.U B.locs B.cells B.slots ∧ Post ⟨T.setVm vm₁, locs, cells, slots⟩ (Value.ref b :: argsL).toArray v B ∧
      ∀ target, Steps p.tables e below (B.U.setTop { g with pc := g.pc + 3, stack := v.toList ++ rest }) target → Steps p.tables e below (T.setTop g) target := by
  obtain ⟨mk, methM, hnamed, hmethM, hstM, habM⟩ := Cond.instanceMethod_spec hinst
  obtain ⟨m8, methM', cM, hn8, hmethM', -, -, -, -, -, -, hsigM⟩ := Cond.codeWith_spec hcode
  cases Option.some.inj (hn8.symm.trans hnamed)
  cases hmethM.symm.trans hmethM'
  obtain ⟨c2, r2, m2, q1, q2, q3, q4, kP, hkP, hkPi⟩ := Cond.selects_spec hsel
  cases hcls.symm.trans q1
  cases (State.methodFound?_of_named hnamed hy).symm.trans q2
  cases hnamed.symm.trans q3
  have hselP : selectMethod e.platform s.vm cellB.cls mk = .method mk := by rw [Launch.admits_selectMethod X.admits]; exact q4
  obtain ⟨vm₁, X₁, hstep₁⟩ := X.invokevirtual hexec hown hlink hnamed hmethM hstM hkP hkPi hy (a := b) (cell := cellB) hcell
    (fun z h => by rw [h] at hobj; cases hobj) hselP hmethM habM hkP hkPi (g := g) hg (argsL := argsL) (rest := rest) (hlen _ hsigM) hstack hdg
  obtain ⟨v, B, X', hpost, hsteps⟩ := hK m meth c ⟨T.setVm vm₁, locs, cells, slots⟩ { g with stack := rest } (.invokevirtual index) mk (Value.ref b :: argsL).toArray X₁ hg hsize hdg hW (X₁.named hnamed) (hpre vm₁ X₁.warmed)
  exact ⟨v, vm₁, B, X₁.warmed, X', hpost, fun target h => hstep₁ _ fun acts => by rw [doInvoke_state]; exact hsteps.trans h⟩
abbrev vx_CVW (R : Room) (s : State) (args : Array Value) (own C : String) (index : Nat) (y : MethodName) (bytes : ByteArray) (maxL : Nat) (ret : Option FieldType) (hh : List (Nat × Nat × Nat × Nat)) (ws : List Cond) (rm : Room) (mc ms n : Nat) : Prop :=
  (rm.cells = mc ∧ rm.slots = ms ∧ rm.frames + 1 ≤ R.frames ∧ 8 + (maxL + 11) + rm.locals ≤ R.locals ∧ (∀ w ∈ ws, ∀ (a' : Array Value) (U : State), s.WarmedH U.vm → w.before a' U = true) ∧ Cond.codeWith y bytes maxL ret hh ∈ ws) ∧
  (Cond.codeWith y bytes maxL ret hh).before args s = true ∧ (Cond.initialized y.cls).before args s = true ∧ (y.cls ≠ "java/lang/invoke/MethodHandle" ∧ y.cls ≠ "java/lang/invoke/VarHandle") ∧
  (∀ sig, parseMethodDescriptor y.desc = some sig → n = sig.parameters.length) ∧ (Cond.methodLink own index y).before args s = true ∧ (Cond.instanceMethod y).before args s = true ∧ (Cond.selects C y y).before args s = true
theorem vx_cwVW {own C : String} {index maxL mc ms : Nat} {y : MethodName} {bytes : ByteArray} {ret : Option FieldType} {hh : List (Nat × Nat × Nat × Nat)} {Ts ws ws' : List Cond} {rm : Room} (n : Nat) (ht : ∀ w ∈ Ts, w.before args s = true) (hT : GoodIn Ts (wsV own index C y ws)) (hw : ws = Cond.codeWith y bytes maxL ret hh :: ws') (hrc : rm.cells = mc) (hrs : rm.slots = ms)
    (hd : y.cls = C ∧ y.cls ≠ "java/lang/invoke/MethodHandle" ∧ y.cls ≠ "java/lang/invoke/VarHandle" ∧ (parseMethodDescriptor y.desc).map (fun d => d.parameters.length) = some n) (hR : rm.frames + 1 ≤ R.frames ∧ 8 + (maxL + 11) + rm.locals ≤ R.locals) :
    vx_CVW R s args own C index y bytes maxL ret hh ws rm mc ms n := by
  obtain ⟨hC, hd⟩ := hd
  subst hC
  have ok : ∀ w ∈ wsV own index y.cls y ws, w.before args s = true := fun w h => ht w (hT w h).1
  have hG : GoodIn Ts ws := fun w h => hT w (by unfold wsV; exact List.mem_append_right _ h)
  have hc : Cond.codeWith y bytes maxL ret hh ∈ ws := by rw [hw]; exact List.mem_cons_self
  refine ⟨⟨hrc, hrs, hR.1, hR.2, pay_in ht hG, hc⟩, ht _ (hG _ hc).1, ok _ (by simp [wsV]), ⟨hd.1, hd.2.1⟩, fun sig h => ?_, ok _ (by simp [wsV]), ok _ (by simp [wsV]), ok _ (by simp [wsV])⟩
  have h2 := hd.2.2
  rw [h] at h2
  exact (Option.some.inj h2).symm
theorem vx_runVW {y : MethodName} {bytes cc : ByteArray} {maxL nL mc ms n index : Nat} {ret : Option FieldType} {hh : List (Nat × Nat × Nat × Nat)} {ws : List Cond} {rm : Room} {Pc : Array Value → State → Prop} {Qc : Array Value → State → Outcome → State → Prop} {free : Addr → Prop} {Ts : List Cond} {own C : String} {b : Addr} {As rest : List Value} {g : JFrame}
    (S : CallFix p m c cc nL s args Ts own) (hM : Met l y ws rm Pc Qc mc ms free) (cw : vx_CVW R s args own C index y bytes maxL ret hh ws rm mc ms n) (hp : PreV s H C b Pc As)
    (hg : g.method = m) (hn : As.length = n) (hsize : g.locals.size = nL) (hstack : g.stack = As.reverse ++ .ref b :: rest) (hW : 2 * g.monitorRoom + (rest.map fun v => v.category).sum ≤ 8) (hdg : decode cc g.pc = .ok (.invokevirtual index, 3)) (hf : cells + mc ≤ R.cells ∧ slots + ms ≤ R.slots) :
    va_Run p l e R s m args below meth c H locs cells slots mc ms g rest (Qc (Value.ref b :: As).toArray) free := by
  obtain ⟨⟨hrc, hrs, hfr, hlo, hws, hcw⟩, hcode, hini, hy, hlen, hl, hin, hse⟩ := cw
  have hK : Back l R p e below s args y 3 8 (PreOf R mc ms Pc) (PostOf Qc mc ms free) := va_backW (hh := hh) (bytes := bytes) (maxL := maxL) (ret := ret) hM hp.1 hrc hrs hfr hlo hws hcw (fun a' U hW => word_at hW (Or.inl (by first | rfl | simp [Cond.onTables, Cond.keeps, Cond.steady])) hini)
  obtain ⟨hx, hb, hml, ho, -⟩ := S
  obtain ⟨-, ⟨cellB, hcB, hoB, hclB⟩, hPc⟩ := hp
  intro T hT X
  obtain ⟨v, vm₁, ⟨U', l2, c2, s2⟩, hW₁, X', ⟨g', mk, t, L, e1, e2, hq, h1, hL, h2, h3⟩, st⟩ := vx_callVW X hx (C := C) (hh := hh) (bytes := bytes) (maxL := maxL) (ret := ret) ho hl hin hse hcode hy hK (by rw [hT]; exact hcB) hoB hclB hg (hsize.trans hml.symm) (argsL := As) (rest := rest) (fun sig h => hn.trans (hlen sig h)) hstack hW (by rw [hb]; exact hdg)
    (fun vm₁ hW₁ => ⟨hf.1, hf.2, hPc (T.setVm vm₁) hT hW₁⟩)
  dsimp only [Pt.U, Pt.locs, Pt.cells, Pt.slots] at X' e1 e2 h1 h2 h3 st
  subst h1; subst h2; subst h3
  exact ⟨v, (T.setVm vm₁).calling g' mk (Value.ref b :: As).toArray, t, U', L, hT, X', hL, e1, e2, hq, st⟩
section
variable {y : MethodName} {bytes cc : ByteArray} {maxL nL mc ms n index : Nat} {ret : Option FieldType} {ws : List Cond} {rm : Room} {Pc : Array Value → State → Prop} {Qc : Array Value → State → Outcome → State → Prop} {XC : String → State → State → Prop} {free : Addr → Prop} {Ts : List Cond} {own C : String} {b : Addr} {As rest : List Value} {g : JFrame}
theorem vx_runVX {hh : List (Nat × Nat × Nat × Nat)} (S : CallFix p m c cc nL s args Ts own) (hM : vx_Met l y ws rm Pc Qc XC mc ms free) (cw : vx_CVW R s args own C index y bytes maxL ret hh ws rm mc ms n) (hp : PreV s H C b Pc As)
    (hg : g.method = m) (hn : As.length = n) (hsize : g.locals.size = nL) (hstack : g.stack = As.reverse ++ .ref b :: rest) (hW : 2 * g.monitorRoom + (rest.map fun v => v.category).sum ≤ 8) (hdg : decode cc g.pc = .ok (.invokevirtual index, 3)) (hf : cells + mc ≤ R.cells ∧ slots + ms ≤ R.slots) :
    vx_Run p l e R s m args below meth c H locs cells slots mc ms g rest (Qc (Value.ref b :: As).toArray) XC free := by
  obtain ⟨⟨hrc, hrs, hfr, hlo, hws, hcw⟩, hcode, hini, hy, hlen, hl, hin, hse⟩ := cw
  have hK : vx_Back l R p e below s args y 3 8 (PreOf R mc ms Pc) (PostOf Qc mc ms free) (vx_Post XC mc ms free) := vx_backW (hh := hh) (bytes := bytes) (maxL := maxL) (ret := ret) hM hp.1 hrc hrs hfr hlo hws hcw (fun a' U hW => word_at hW (Or.inl (by first | rfl | simp [Cond.onTables, Cond.keeps, Cond.steady])) hini)
  obtain ⟨hx, hb, hml, ho, -⟩ := S
  obtain ⟨-, ⟨cellB, hcB, hoB, hclB⟩, hPc⟩ := hp
  intro T hT X
  rcases vx_callVX X hx (C := C) (hh := hh) (bytes := bytes) (maxL := maxL) (ret := ret) ho hl hin hse hcode hy hK (by rw [hT]; exact hcB) hoB hclB hg (hsize.trans hml.symm) (argsL := As) (rest := rest) (fun sig h => hn.trans (hlen sig h)) hstack hW (by rw [hb]; exact hdg)
    (fun vm₁ hW₁ => ⟨hf.1, hf.2, hPc (T.setVm vm₁) hT hW₁⟩) with ⟨v, vm₁, ⟨U', l2, c2, s2⟩, hW₁, X', ⟨g', mk, t, L, e1, e2, hq, h1, hL, h2, h3⟩, st⟩ | ⟨q, vm₁, ⟨U', l2, c2, s2⟩, hW₁, X', ⟨g', mk, t, L, E, ce, e1, e2, hq, hce, hcv, hcl, h1, hL, h2, h3⟩, st⟩
  · dsimp only [Pt.U, Pt.locs, Pt.cells, Pt.slots] at X' e1 e2 h1 h2 h3 st
    subst h1; subst h2; subst h3
    exact Or.inl ⟨v, (T.setVm vm₁).calling g' mk (Value.ref b :: As).toArray, t, U', L, hT, X', hL, e1, e2, hq, st⟩
  · dsimp only [Pt.U, Pt.locs, Pt.cells, Pt.slots] at X' e1 e2 h1 h2 h3 st hcl
    subst h1; subst h2; subst h3
    exact Or.inr ⟨q, (T.setVm vm₁).calling g' mk (Value.ref b :: As).toArray, t, U', L, E, ce, hT, X', hL, e1, e2, hq, hce, hcv, vx_cls hW₁ hcl, st⟩
theorem vx_runSX {hh : List (Nat × Nat × Nat × Nat)} (S : CallFix p m c cc nL s args Ts own) (hM : vx_Met l y ws rm Pc Qc XC mc ms free) (cw : vx_CSW R s args own index y bytes maxL ret hh ws rm mc ms n) (hp : PreS s H Pc As)
    (hg : g.method = m) (hn : As.length = n) (hsize : g.locals.size = nL) (hstack : g.stack = As.reverse ++ rest) (hW : 2 * g.monitorRoom + (rest.map fun v => v.category).sum ≤ 8) (hdg : decode cc g.pc = .ok (.invokestatic index, 3)) (hf : cells + mc ≤ R.cells ∧ slots + ms ≤ R.slots) :
    vx_Run p l e R s m args below meth c H locs cells slots mc ms g rest (Qc As.toArray) XC free := by
  obtain ⟨⟨hrc, hrs, hfr, hlo, hws, hcw⟩, hcode, hini, hy, hlen, hl, hstt⟩ := cw
  have hK : vx_Back l R p e below s args y 3 8 (PreOf R mc ms Pc) (PostOf Qc mc ms free) (vx_Post XC mc ms free) := vx_backW (hh := hh) (bytes := bytes) (maxL := maxL) (ret := ret) hM hp.1 hrc hrs hfr hlo hws hcw (fun a' U hW => word_at hW (Or.inl (by first | rfl | simp [Cond.onTables, Cond.keeps, Cond.steady])) hini)
  obtain ⟨hx, hb, hml, ho, -⟩ := S
  intro T hT X
  rcases vx_callSX X hx (hh := hh) (bytes := bytes) (maxL := maxL) (ret := ret) ho hl hstt hini hcode hy hK hg (hsize.trans hml.symm) (argsL := As) (rest := rest) (fun sig h => hn.trans (hlen sig h)) hstack hW (by rw [hb]; exact hdg)
    (fun vm₁ hW₁ => ⟨hf.1, hf.2, hp.2 (T.setVm vm₁) hT hW₁⟩) with ⟨v, vm₁, ⟨U', l2, c2, s2⟩, hW₁, X', ⟨g', mk, t, L, e1, e2, hq, h1, hL, h2, h3⟩, st⟩ | ⟨q, vm₁, ⟨U', l2, c2, s2⟩, hW₁, X', ⟨g', mk, t, L, E, ce, e1, e2, hq, hce, hcv, hcl, h1, hL, h2, h3⟩, st⟩
  · dsimp only [Pt.U, Pt.locs, Pt.cells, Pt.slots] at X' e1 e2 h1 h2 h3 st
    subst h1; subst h2; subst h3
    exact Or.inl ⟨v, (T.setVm vm₁).calling g' mk As.toArray, t, U', L, hT, X', hL, e1, e2, hq, st⟩
  · dsimp only [Pt.U, Pt.locs, Pt.cells, Pt.slots] at X' e1 e2 h1 h2 h3 st hcl
    subst h1; subst h2; subst h3
    exact Or.inr ⟨q, (T.setVm vm₁).calling g' mk As.toArray, t, U', L, E, ce, hT, X', hL, e1, e2, hq, hce, hcv, vx_cls hW₁ hcl, st⟩
end
end VXH
theorem vx_ofWH {l : Launch} {y : MethodName} {ws ws' : List Cond} {rm : Room} {Pc : Array Value → State → Prop} {Qc : Array Value → State → Outcome → State → Prop} {XC : String → State → State → Prop} {mc ms : Nat} {free : Addr → Prop} {cc : ByteArray} {maxL : Nat} {ret : Option FieldType} {hh : List (Nat × Nat × Nat × Nat)}
    (hy : plainName y.cls = true) (hw : ws = Cond.codeWith y cc maxL ret hh :: ws')
    (body : ∀ p e s m args below meth c s₁, BodyLoose p l y (headSpec ws rm) cc maxL ret e s m args below meth c s₁ → c.maxLocals = maxL → Pc args s →
      W p l e (headSpec ws rm).room s m args below meth c s.heap [] 0 0 (vx_MQ below Qc XC args s mc ms free) (entryFrame m args maxL)) : vx_Met l y ws rm Pc Qc XC mc ms free := by
  refine MetFree.of_bodyS (code := cc) (maxLocals := maxL) (ret := ret) hy ?_ ?_
  · intro args s m h hn
    obtain ⟨m9, meth, c, hn9, h1, h2, h3, h4, -, h5, h6, -⟩ := Cond.codeWith_spec (atoms_spec (ws := ws) h _ (by rw [hw]; exact List.mem_cons_self))
    cases hn.symm.trans hn9
    exact ⟨meth, c, h1, h2, h3, h4, h5, h6⟩
  · intro p e s m args below meth c s₁ B hml hP _
    have hh0 : s₁.heap = s.heap := by rw [B.state]; rfl
    obtain ⟨t, a1, o, b1, b2, b3⟩ := body p e s m args below meth c s₁ B hml hP s₁ hh0 (Stand.of_body B)
    exact ⟨t, o, a1, b1, b2, b3⟩
/-! ===== END ===== -/
end
section
/-! ===== BEGIN printed: names, fields, word lists, decode rows ===== -/
def RX0 : String := "PartitionKernel$Channel"
def TX0 : u_T := fun k => match k with
  | 0 => ("PartitionKernel$Channel", "words", "[I", true)
  | 1 => ("PartitionKernel$Channel", "isTold", "Z", false)
  | 2 => ("PartitionKernel$Channel", "from", "I", false)
  | 3 => ("PartitionKernel$Channel", "to", "I", false)
  | 4 => ("PartitionKernel$Channel", "room", "I", false)
  | 5 => ("PartitionKernel$Channel", "first", "I", false)
  | 6 => ("PartitionKernel$Channel", "count", "I", false)
  | 7 => ("PartitionKernel$Channel", "cameAt", "I", false)
  | 8 => ("PartitionKernel$Channel", "came", "I", false)
  | _ => ("PartitionKernel$Channel", "refused", "I", false)
def tyX0 : Nat → FieldType := fun k => match k with
  | 0 => .array .int
  | 1 => .boolean
  | 2 => .int
  | 3 => .int
  | 4 => .int
  | 5 => .int
  | 6 => .int
  | 7 => .int
  | 8 => .int
  | _ => .int
abbrev wsX00 : List Cond := u_ws RX0 TX0 10
theorem nmX0 : ∀ a, a < 10 → ∀ b, b < 10 → a ≠ b → (TX0 a).2.1 ≠ (TX0 b).2.1 := by decide +kernel
theorem tyX0_ok : ∀ k, k < 10 → parseFieldDescriptor (TX0 k).2.2.1 = some (tyX0 k) := by decide +kernel
abbrev cX0_init : ByteArray := prog_2_method_1_code
def yX0_init : MethodName := ⟨RX0, "<init>", "()V"⟩
abbrev cX0_tell : ByteArray := prog_2_method_2_code
def yX0_tell : MethodName := ⟨RX0, "tell", "(III)V"⟩
abbrev cX0_isSlot : ByteArray := prog_2_method_3_code
def yX0_isSlot : MethodName := ⟨RX0, "isSlot", "()Z"⟩
abbrev cX0_put : ByteArray := prog_2_method_4_code
def yX0_put : MethodName := ⟨RX0, "put", "(II)Z"⟩
abbrev cX0_dropTaken : ByteArray := prog_2_method_5_code
def yX0_dropTaken : MethodName := ⟨RX0, "dropTaken", "()V"⟩
abbrev cX0_wordAt : ByteArray := prog_2_method_6_code
def yX0_wordAt : MethodName := ⟨RX0, "wordAt", "(I)I"⟩
abbrev cX0_spotOf : ByteArray := prog_2_method_7_code
def yX0_spotOf : MethodName := ⟨RX0, "spotOf", "(I)I"⟩
abbrev cX0_age : ByteArray := prog_2_method_8_code
def yX0_age : MethodName := ⟨RX0, "age", "(I)I"⟩
abbrev cX0_report : ByteArray := prog_2_method_9_code
def yX0_report : MethodName := ⟨RX0, "report", "(II)I"⟩
def RX1 : String := "PartitionKernel$Partition"
def TX1 : u_T := fun k => match k with
  | 0 => ("PartitionKernel$Partition", "registers", "[I", true)
  | 1 => ("PartitionKernel$Partition", "state", "I", false)
  | 2 => ("PartitionKernel$Partition", "base", "I", false)
  | 3 => ("PartitionKernel$Partition", "length", "I", false)
  | 4 => ("PartitionKernel$Partition", "entry", "I", false)
  | 5 => ("PartitionKernel$Partition", "place", "I", false)
  | 6 => ("PartitionKernel$Partition", "done", "I", false)
  | 7 => ("PartitionKernel$Partition", "restartsLeft", "I", false)
  | 8 => ("PartitionKernel$Partition", "lastFault", "I", false)
  | _ => ("PartitionKernel$Partition", "faults", "I", false)
def tyX1 : Nat → FieldType := fun k => match k with
  | 0 => .array .int
  | 1 => .int
  | 2 => .int
  | 3 => .int
  | 4 => .int
  | 5 => .int
  | 6 => .int
  | 7 => .int
  | 8 => .int
  | _ => .int
abbrev wsX10 : List Cond := u_ws RX1 TX1 10
theorem nmX1 : ∀ a, a < 10 → ∀ b, b < 10 → a ≠ b → (TX1 a).2.1 ≠ (TX1 b).2.1 := by decide +kernel
theorem tyX1_ok : ∀ k, k < 10 → parseFieldDescriptor (TX1 k).2.2.1 = some (tyX1 k) := by decide +kernel
abbrev cX1_init : ByteArray := prog_3_method_1_code
def yX1_init : MethodName := ⟨RX1, "<init>", "()V"⟩
abbrev cX1_tell : ByteArray := prog_3_method_2_code
def yX1_tell : MethodName := ⟨RX1, "tell", "(IIII)V"⟩
abbrev cX1_isTold : ByteArray := prog_3_method_3_code
def yX1_isTold : MethodName := ⟨RX1, "isTold", "()Z"⟩
abbrev cX1_holds : ByteArray := prog_3_method_4_code
def yX1_holds : MethodName := ⟨RX1, "holds", "(I)Z"⟩
abbrev cX1_meets : ByteArray := prog_3_method_5_code
def yX1_meets : MethodName := ⟨RX1, "meets", "(II)Z"⟩
abbrev cX1_jumpIf : ByteArray := prog_3_method_6_code
def yX1_jumpIf : MethodName := ⟨RX1, "jumpIf", "(ZI)V"⟩
abbrev cX1_restartAfter : ByteArray := prog_3_method_7_code
def yX1_restartAfter : MethodName := ⟨RX1, "restartAfter", "(I)Z"⟩
abbrev cX1_report : ByteArray := prog_3_method_8_code
def yX1_report : MethodName := ⟨RX1, "report", "(I)I"⟩
def RX2 : String := "PartitionKernel"
def TX2 : u_T := fun k => match k with
  | 0 => ("PartitionKernel", "memory", "[I", true)
  | 1 => ("PartitionKernel", "partitions", "[LPartitionKernel$Partition;", true)
  | 2 => ("PartitionKernel", "channels", "[LPartitionKernel$Channel;", true)
  | 3 => ("PartitionKernel", "windowOwners", "[I", true)
  | 4 => ("PartitionKernel", "windowLengths", "[I", true)
  | 5 => ("PartitionKernel", "windowCount", "I", false)
  | 6 => ("PartitionKernel", "frameTicks", "I", false)
  | 7 => ("PartitionKernel", "sealed", "Z", false)
  | 8 => ("PartitionKernel", "windowAtHand", "I", false)
  | 9 => ("PartitionKernel", "ticksIntoWindow", "I", false)
  | 10 => ("PartitionKernel", "yielded", "Z", false)
  | _ => ("PartitionKernel", "ticksDone", "I", false)
def tyX2 : Nat → FieldType := fun k => match k with
  | 0 => .array .int
  | 1 => .array (.object "PartitionKernel$Partition")
  | 2 => .array (.object "PartitionKernel$Channel")
  | 3 => .array .int
  | 4 => .array .int
  | 5 => .int
  | 6 => .int
  | 7 => .boolean
  | 8 => .int
  | 9 => .int
  | 10 => .boolean
  | _ => .int
abbrev wsX20 : List Cond := u_ws RX2 TX2 12
theorem nmX2 : ∀ a, a < 12 → ∀ b, b < 12 → a ≠ b → (TX2 a).2.1 ≠ (TX2 b).2.1 := by decide +kernel
theorem tyX2_ok : ∀ k, k < 12 → parseFieldDescriptor (TX2 k).2.2.1 = some (tyX2 k) := by decide +kernel
abbrev cX2_init : ByteArray := prog_1_method_1_code
def yX2_init : MethodName := ⟨RX2, "<init>", "()V"⟩
abbrev cX2_partition : ByteArray := prog_1_method_2_code
def yX2_partition : MethodName := ⟨RX2, "partition", "(IIIII)V"⟩
abbrev cX2_window : ByteArray := prog_1_method_3_code
def yX2_window : MethodName := ⟨RX2, "window", "(II)I"⟩
abbrev cX2_channel : ByteArray := prog_1_method_4_code
def yX2_channel : MethodName := ⟨RX2, "channel", "(IIII)V"⟩
abbrev cX2_poke : ByteArray := prog_1_method_5_code
def yX2_poke : MethodName := ⟨RX2, "poke", "(III)I"⟩
abbrev cX2_peek : ByteArray := prog_1_method_6_code
def yX2_peek : MethodName := ⟨RX2, "peek", "(II)I"⟩
abbrev cX2_seal : ByteArray := prog_1_method_7_code
def yX2_seal : MethodName := ⟨RX2, "seal", "()I"⟩
abbrev cX2_step : ByteArray := prog_1_method_8_code
def yX2_step : MethodName := ⟨RX2, "step", "(I)I"⟩
abbrev cX2_told : ByteArray := prog_1_method_9_code
def yX2_told : MethodName := ⟨RX2, "told", "(II)I"⟩
abbrev cX2_has : ByteArray := prog_1_method_10_code
def yX2_has : MethodName := ⟨RX2, "has", "(II)I"⟩
abbrev cX2_queued : ByteArray := prog_1_method_11_code
def yX2_queued : MethodName := ⟨RX2, "queued", "(II)I"⟩
abbrev cX2_current : ByteArray := prog_1_method_12_code
def yX2_current : MethodName := ⟨RX2, "current", "()I"⟩
abbrev cX2_ticks : ByteArray := prog_1_method_13_code
def yX2_ticks : MethodName := ⟨RX2, "ticks", "()I"⟩
abbrev cX2_refuseIfSealed : ByteArray := prog_1_method_14_code
def yX2_refuseIfSealed : MethodName := ⟨RX2, "refuseIfSealed", "()V"⟩
abbrev cX2_refuseUnlessTold : ByteArray := prog_1_method_15_code
def yX2_refuseUnlessTold : MethodName := ⟨RX2, "refuseUnlessTold", "(I)V"⟩
abbrev cX2_isChannel : ByteArray := prog_1_method_16_code
def yX2_isChannel : MethodName := ⟨RX2, "isChannel", "(I)Z"⟩
abbrev cX2_isInMemory : ByteArray := prog_1_method_17_code
def yX2_isInMemory : MethodName := ⟨RX2, "isInMemory", "(II)Z"⟩
abbrev cX2_sharesWord : ByteArray := prog_1_method_18_code
def yX2_sharesWord : MethodName := ⟨RX2, "sharesWord", "(II)Z"⟩
abbrev cX2_addressOf : ByteArray := prog_1_method_19_code
def yX2_addressOf : MethodName := ⟨RX2, "addressOf", "(II)I"⟩
abbrev cX2_goOneTick : ByteArray := prog_1_method_20_code
def yX2_goOneTick : MethodName := ⟨RX2, "goOneTick", "()Z"⟩
abbrev cX2_moveWindowOn : ByteArray := prog_1_method_21_code
def yX2_moveWindowOn : MethodName := ⟨RX2, "moveWindowOn", "()V"⟩
abbrev cX2_runInstruction : ByteArray := prog_1_method_22_code
def yX2_runInstruction : MethodName := ⟨RX2, "runInstruction", "(I)V"⟩
abbrev cX2_perform : ByteArray := prog_1_method_23_code
def yX2_perform : MethodName := ⟨RX2, "perform", "(II)I"⟩
abbrev cX2_computed : ByteArray := prog_1_method_24_code
def yX2_computed : MethodName := ⟨RX2, "computed", "(IIII)I"⟩
abbrev cX2_load : ByteArray := prog_1_method_25_code
def yX2_load : MethodName := ⟨RX2, "load", "(LPartitionKernel$Partition;II)I"⟩
abbrev cX2_store : ByteArray := prog_1_method_26_code
def yX2_store : MethodName := ⟨RX2, "store", "(LPartitionKernel$Partition;II)I"⟩
abbrev cX2_send : ByteArray := prog_1_method_27_code
def yX2_send : MethodName := ⟨RX2, "send", "(IIII)I"⟩
abbrev cX2_take : ByteArray := prog_1_method_28_code
def yX2_take : MethodName := ⟨RX2, "take", "(IIII)I"⟩
def RX3 : String := "PartitionKernelModel"
def TX3 : u_T := fun k => match k with
  | 0 => ("PartitionKernelModel", "thrown", "I", false)
  | 1 => ("PartitionKernelModel", "memory", "[I", true)
  | 2 => ("PartitionKernelModel", "base", "[I", true)
  | 3 => ("PartitionKernelModel", "length", "[I", true)
  | 4 => ("PartitionKernelModel", "entry", "[I", true)
  | 5 => ("PartitionKernelModel", "state", "[I", true)
  | 6 => ("PartitionKernelModel", "place", "[I", true)
  | 7 => ("PartitionKernelModel", "registers", "[I", true)
  | 8 => ("PartitionKernelModel", "done", "[I", true)
  | 9 => ("PartitionKernelModel", "restarts", "[I", true)
  | 10 => ("PartitionKernelModel", "lastFault", "[I", true)
  | 11 => ("PartitionKernelModel", "faults", "[I", true)
  | 12 => ("PartitionKernelModel", "windows", "I", false)
  | 13 => ("PartitionKernelModel", "who", "[I", true)
  | 14 => ("PartitionKernelModel", "longs", "[I", true)
  | 15 => ("PartitionKernelModel", "isChannel", "[Z", true)
  | 16 => ("PartitionKernelModel", "source", "[I", true)
  | 17 => ("PartitionKernelModel", "target", "[I", true)
  | 18 => ("PartitionKernelModel", "room", "[I", true)
  | 19 => ("PartitionKernelModel", "words", "[I", true)
  | 20 => ("PartitionKernelModel", "many", "[I", true)
  | 21 => ("PartitionKernelModel", "age", "[I", true)
  | 22 => ("PartitionKernelModel", "came", "[I", true)
  | 23 => ("PartitionKernelModel", "refused", "[I", true)
  | 24 => ("PartitionKernelModel", "sealed", "Z", false)
  | 25 => ("PartitionKernelModel", "at", "I", false)
  | 26 => ("PartitionKernelModel", "left", "I", false)
  | 27 => ("PartitionKernelModel", "yielded", "Z", false)
  | 28 => ("PartitionKernelModel", "ticks", "I", false)
  | _ => ("PartitionKernelModel", "fault", "I", false)
def tyX3 : Nat → FieldType := fun k => match k with
  | 0 => .int
  | 1 => .array .int
  | 2 => .array .int
  | 3 => .array .int
  | 4 => .array .int
  | 5 => .array .int
  | 6 => .array .int
  | 7 => .array .int
  | 8 => .array .int
  | 9 => .array .int
  | 10 => .array .int
  | 11 => .array .int
  | 12 => .int
  | 13 => .array .int
  | 14 => .array .int
  | 15 => .array .boolean
  | 16 => .array .int
  | 17 => .array .int
  | 18 => .array .int
  | 19 => .array .int
  | 20 => .array .int
  | 21 => .array .int
  | 22 => .array .int
  | 23 => .array .int
  | 24 => .boolean
  | 25 => .int
  | 26 => .int
  | 27 => .boolean
  | 28 => .int
  | _ => .int
abbrev wsX30 : List Cond := u_ws RX3 TX3 30
theorem nmX3 : ∀ a, a < 30 → ∀ b, b < 30 → a ≠ b → (TX3 a).2.1 ≠ (TX3 b).2.1 := by decide +kernel
theorem tyX3_ok : ∀ k, k < 30 → parseFieldDescriptor (TX3 k).2.2.1 = some (tyX3 k) := by decide +kernel
abbrev cX3_init : ByteArray := prog_5_method_1_code
def yX3_init : MethodName := ⟨RX3, "<init>", "()V"⟩
abbrev cX3_thrown : ByteArray := prog_5_method_2_code
def yX3_thrown : MethodName := ⟨RX3, "thrown", "()I"⟩
abbrev cX3_isTold : ByteArray := prog_5_method_3_code
def yX3_isTold : MethodName := ⟨RX3, "isTold", "(I)Z"⟩
abbrev cX3_shares : ByteArray := prog_5_method_4_code
def yX3_shares : MethodName := ⟨RX3, "shares", "(II)Z"⟩
abbrev cX3_partition : ByteArray := prog_5_method_5_code
def yX3_partition : MethodName := ⟨RX3, "partition", "(IIIII)V"⟩
abbrev cX3_window : ByteArray := prog_5_method_6_code
def yX3_window : MethodName := ⟨RX3, "window", "(II)I"⟩
abbrev cX3_channel : ByteArray := prog_5_method_7_code
def yX3_channel : MethodName := ⟨RX3, "channel", "(IIII)V"⟩
abbrev cX3_noWord : ByteArray := prog_5_method_8_code
def yX3_noWord : MethodName := ⟨RX3, "noWord", "(II)Z"⟩
abbrev cX3_poke : ByteArray := prog_5_method_9_code
def yX3_poke : MethodName := ⟨RX3, "poke", "(III)I"⟩
abbrev cX3_peek : ByteArray := prog_5_method_10_code
def yX3_peek : MethodName := ⟨RX3, "peek", "(II)I"⟩
abbrev cX3_seal : ByteArray := prog_5_method_11_code
def yX3_seal : MethodName := ⟨RX3, "seal", "()I"⟩
abbrev cX3_send : ByteArray := prog_5_method_12_code
def yX3_send : MethodName := ⟨RX3, "send", "(IIII)V"⟩
abbrev cX3_take : ByteArray := prog_5_method_13_code
def yX3_take : MethodName := ⟨RX3, "take", "(IIII)V"⟩
abbrev cX3_act : ByteArray := prog_5_method_14_code
def yX3_act : MethodName := ⟨RX3, "act", "(II)V"⟩
abbrev cX3_instruction : ByteArray := prog_5_method_15_code
def yX3_instruction : MethodName := ⟨RX3, "instruction", "(I)V"⟩
abbrev cX3_step : ByteArray := prog_5_method_16_code
def yX3_step : MethodName := ⟨RX3, "step", "(I)I"⟩
abbrev cX3_told : ByteArray := prog_5_method_17_code
def yX3_told : MethodName := ⟨RX3, "told", "(II)I"⟩
abbrev cX3_noChannel : ByteArray := prog_5_method_18_code
def yX3_noChannel : MethodName := ⟨RX3, "noChannel", "(I)Z"⟩
abbrev cX3_has : ByteArray := prog_5_method_19_code
def yX3_has : MethodName := ⟨RX3, "has", "(II)I"⟩
abbrev cX3_queued : ByteArray := prog_5_method_20_code
def yX3_queued : MethodName := ⟨RX3, "queued", "(II)I"⟩
abbrev cX3_current : ByteArray := prog_5_method_21_code
def yX3_current : MethodName := ⟨RX3, "current", "()I"⟩
abbrev cX3_ticks : ByteArray := prog_5_method_22_code
def yX3_ticks : MethodName := ⟨RX3, "ticks", "()I"⟩
def RJ9 : String := "java/lang/Math"
def TJ9 : u_T := fun k => match k with
  | _ => ("", "", "", false)
def tyJ9 : Nat → FieldType := fun k => match k with
  | _ => .int
abbrev wsJ90 : List Cond := u_ws RJ9 TJ9 0
theorem nmJ9 : ∀ a, a < 0 → ∀ b, b < 0 → a ≠ b → (TJ9 a).2.1 ≠ (TJ9 b).2.1 := by decide +kernel
theorem tyJ9_ok : ∀ k, k < 0 → parseFieldDescriptor (TJ9 k).2.2.1 = some (tyJ9 k) := by decide +kernel
abbrev cJ9_min_7cf53 : ByteArray := prog_10_method_69_code
def yJ9_min_7cf53 : MethodName := ⟨RJ9, "min", "(II)I"⟩
def RJ0 : String := "java/lang/String"
def TJ0 : u_T := fun k => match k with
  | _ => ("", "", "", false)
def tyJ0 : Nat → FieldType := fun k => match k with
  | _ => .int
abbrev wsJ00 : List Cond := u_ws RJ0 TJ0 0
theorem nmJ0 : ∀ a, a < 0 → ∀ b, b < 0 → a ≠ b → (TJ0 a).2.1 ≠ (TJ0 b).2.1 := by decide +kernel
theorem tyJ0_ok : ∀ k, k < 0 → parseFieldDescriptor (TJ0 k).2.2.1 = some (tyJ0 k) := by decide +kernel
def RJ7 : String := "java/util/Arrays"
def TJ7 : u_T := fun k => match k with
  | _ => ("", "", "", false)
def tyJ7 : Nat → FieldType := fun k => match k with
  | _ => .int
abbrev wsJ70 : List Cond := u_ws RJ7 TJ7 0
theorem nmJ7 : ∀ a, a < 0 → ∀ b, b < 0 → a ≠ b → (TJ7 a).2.1 ≠ (TJ7 b).2.1 := by decide +kernel
theorem tyJ7_ok : ∀ k, k < 0 → parseFieldDescriptor (TJ7 k).2.2.1 = some (tyJ7 k) := by decide +kernel
abbrev cJ7_fill_53178 : ByteArray := prog_14_method_103_code
def yJ7_fill_53178 : MethodName := ⟨RJ7, "fill", "([II)V"⟩
def RL : String := "PartitionKernelLaw"
abbrev cL_partition : ByteArray := method_3_code
def yL_partition : MethodName := ⟨RL, "partition", "(LPartitionKernel;IIIII)I"⟩
abbrev cL_window : ByteArray := method_4_code
def yL_window : MethodName := ⟨RL, "window", "(LPartitionKernel;II[J)I"⟩
abbrev cL_channel : ByteArray := method_5_code
def yL_channel : MethodName := ⟨RL, "channel", "(LPartitionKernel;IIII)I"⟩
abbrev cL_poke : ByteArray := method_6_code
def yL_poke : MethodName := ⟨RL, "poke", "(LPartitionKernel;III[J)I"⟩
abbrev cL_peek : ByteArray := method_7_code
def yL_peek : MethodName := ⟨RL, "peek", "(LPartitionKernel;II[J)I"⟩
abbrev cL_seal : ByteArray := method_8_code
def yL_seal : MethodName := ⟨RL, "seal", "(LPartitionKernel;[J)I"⟩
abbrev cL_step : ByteArray := method_9_code
def yL_step : MethodName := ⟨RL, "step", "(LPartitionKernel;I[J)I"⟩
abbrev cL_told : ByteArray := method_10_code
def yL_told : MethodName := ⟨RL, "told", "(LPartitionKernel;II[J)I"⟩
abbrev cL_has : ByteArray := method_11_code
def yL_has : MethodName := ⟨RL, "has", "(LPartitionKernel;II[J)I"⟩
abbrev cL_queued : ByteArray := method_12_code
def yL_queued : MethodName := ⟨RL, "queued", "(LPartitionKernel;II[J)I"⟩
abbrev cL_law : ByteArray := code
def yL_law : MethodName := ⟨RL, "law", "([I)Z"⟩
def wsX0_init : List Cond := .code yX0_init cX0_init 1 none :: ([.methodLink RX0 3 objectInit, .instanceMethod objectInit, .code objectInit ⟨#[0xb1]⟩ 1 none, .arrayClass .int, .fieldLink RX0 9 "PartitionKernel$Channel" "words" "[I"] ++ wsX00)
def wsX0_tell : List Cond := .code yX0_tell cX0_tell 4 none :: ([.fieldLink RX0 15 "PartitionKernel$Channel" "isTold" "Z", .fieldLink RX0 19 "PartitionKernel$Channel" "from" "I", .fieldLink RX0 23 "PartitionKernel$Channel" "to" "I", .fieldLink RX0 26 "PartitionKernel$Channel" "room" "I"] ++ wsX00)
def wsX0_isSlot : List Cond := .code yX0_isSlot cX0_isSlot 1 (some .boolean) :: ([.fieldLink RX0 26 "PartitionKernel$Channel" "room" "I"] ++ wsX00)
def wsX0_spotOf : List Cond := .code yX0_spotOf cX0_spotOf 2 (some .int) :: ([.fieldLink RX0 49 "PartitionKernel$Channel" "first" "I"] ++ wsX00)
def wsX0_put : List Cond := .code yX0_put cX0_put 3 (some .boolean) :: ([.fieldLink RX0 9 "PartitionKernel$Channel" "words" "[I", .fieldLink RX0 33 "PartitionKernel$Channel" "count" "I", .fieldLink RX0 36 "PartitionKernel$Channel" "cameAt" "I", .fieldLink RX0 26 "PartitionKernel$Channel" "room" "I", .fieldLink RX0 43 "PartitionKernel$Channel" "refused" "I", .fieldLink RX0 46 "PartitionKernel$Channel" "came" "I", .methodLink RX0 29 yX0_isSlot, .instanceMethod yX0_isSlot, .selects RX0 yX0_isSlot yX0_isSlot, .initialized RX0, .code yX0_isSlot cX0_isSlot 1 (some .boolean), .methodLink RX0 39 yX0_spotOf, .instanceMethod yX0_spotOf, .selects RX0 yX0_spotOf yX0_spotOf, .code yX0_spotOf cX0_spotOf 2 (some .int), .fieldLink RX0 49 "PartitionKernel$Channel" "first" "I"] ++ wsX00)
def wsX0_dropTaken : List Cond := .code yX0_dropTaken cX0_dropTaken 1 none :: ([.fieldLink RX0 33 "PartitionKernel$Channel" "count" "I", .fieldLink RX0 49 "PartitionKernel$Channel" "first" "I", .methodLink RX0 29 yX0_isSlot, .instanceMethod yX0_isSlot, .selects RX0 yX0_isSlot yX0_isSlot, .initialized RX0, .code yX0_isSlot cX0_isSlot 1 (some .boolean), .fieldLink RX0 26 "PartitionKernel$Channel" "room" "I", .methodLink RX0 39 yX0_spotOf, .instanceMethod yX0_spotOf, .selects RX0 yX0_spotOf yX0_spotOf, .code yX0_spotOf cX0_spotOf 2 (some .int)] ++ wsX00)
def wsX0_wordAt : List Cond := .code yX0_wordAt cX0_wordAt 2 (some .int) :: ([.fieldLink RX0 33 "PartitionKernel$Channel" "count" "I", .fieldLink RX0 9 "PartitionKernel$Channel" "words" "[I", .methodLink RX0 39 yX0_spotOf, .instanceMethod yX0_spotOf, .selects RX0 yX0_spotOf yX0_spotOf, .initialized RX0, .code yX0_spotOf cX0_spotOf 2 (some .int), .fieldLink RX0 49 "PartitionKernel$Channel" "first" "I"] ++ wsX00)
def wsX0_age : List Cond := .code yX0_age cX0_age 2 (some .int) :: ([.fieldLink RX0 33 "PartitionKernel$Channel" "count" "I", .fieldLink RX0 36 "PartitionKernel$Channel" "cameAt" "I", .constant RX0 52 (1000000), .methodLink RX0 53 Lib.Math.min.name, .static Lib.Math.min.name, .initialized "java/lang/Math", .code Lib.Math.min.name Lib.Math.min.code 2 (some .int), .methodLink RX0 29 yX0_isSlot, .instanceMethod yX0_isSlot, .selects RX0 yX0_isSlot yX0_isSlot, .initialized RX0, .code yX0_isSlot cX0_isSlot 1 (some .boolean), .fieldLink RX0 26 "PartitionKernel$Channel" "room" "I"] ++ wsX00)
def wsX0_report_r1 : List Cond := [Cond.fieldLink RX0 33 "PartitionKernel$Channel" "count" "I", Cond.fieldLink RX0 46 "PartitionKernel$Channel" "came" "I", Cond.fieldLink RX0 43 "PartitionKernel$Channel" "refused" "I", Cond.methodLink RX0 59 yX0_wordAt, Cond.instanceMethod yX0_wordAt, Cond.selects RX0 yX0_wordAt yX0_wordAt, Cond.initialized RX0, Cond.code yX0_wordAt cX0_wordAt 2 (some .int), Cond.fieldLink RX0 9 "PartitionKernel$Channel" "words" "[I", Cond.methodLink RX0 39 yX0_spotOf, Cond.instanceMethod yX0_spotOf, Cond.selects RX0 yX0_spotOf yX0_spotOf, Cond.code yX0_spotOf cX0_spotOf 2 (some .int), Cond.fieldLink RX0 49 "PartitionKernel$Channel" "first" "I", Cond.methodLink RX0 62 yX0_age, Cond.instanceMethod yX0_age, Cond.selects RX0 yX0_age yX0_age, Cond.code yX0_age cX0_age 2 (some .int), Cond.fieldLink RX0 36 "PartitionKernel$Channel" "cameAt" "I", Cond.constant RX0 52 (1000000), Cond.methodLink RX0 53 Lib.Math.min.name, Cond.static Lib.Math.min.name, Cond.initialized "java/lang/Math", Cond.code Lib.Math.min.name Lib.Math.min.code 2 (some .int)]
def wsX0_report_r2 : List Cond := [Cond.methodLink RX0 29 yX0_isSlot, Cond.instanceMethod yX0_isSlot, Cond.selects RX0 yX0_isSlot yX0_isSlot, Cond.code yX0_isSlot cX0_isSlot 1 (some .boolean), Cond.fieldLink RX0 26 "PartitionKernel$Channel" "room" "I"]
def wsX0_report : List Cond := .code yX0_report cX0_report 3 (some .int) :: ((wsX0_report_r1 ++ wsX0_report_r2) ++ wsX00)
def wsX1_init : List Cond := .code yX1_init cX1_init 1 none :: ([.methodLink RX1 3 objectInit, .instanceMethod objectInit, .code objectInit ⟨#[0xb1]⟩ 1 none, .arrayClass .int, .fieldLink RX1 9 "PartitionKernel$Partition" "registers" "[I"] ++ wsX10)
def wsX1_tell : List Cond := .code yX1_tell cX1_tell 5 none :: ([.fieldLink RX1 15 "PartitionKernel$Partition" "state" "I", .fieldLink RX1 19 "PartitionKernel$Partition" "base" "I", .fieldLink RX1 22 "PartitionKernel$Partition" "length" "I", .fieldLink RX1 25 "PartitionKernel$Partition" "entry" "I", .fieldLink RX1 28 "PartitionKernel$Partition" "place" "I", .fieldLink RX1 31 "PartitionKernel$Partition" "restartsLeft" "I"] ++ wsX10)
def wsX1_isTold : List Cond := .code yX1_isTold cX1_isTold 1 (some .boolean) :: ([.fieldLink RX1 15 "PartitionKernel$Partition" "state" "I"] ++ wsX10)
def wsX1_holds : List Cond := .code yX1_holds cX1_holds 2 (some .boolean) :: ([.fieldLink RX1 22 "PartitionKernel$Partition" "length" "I"] ++ wsX10)
def wsX1_meets : List Cond := .code yX1_meets cX1_meets 3 (some .boolean) :: ([.fieldLink RX1 19 "PartitionKernel$Partition" "base" "I", .fieldLink RX1 22 "PartitionKernel$Partition" "length" "I", .methodLink RX1 34 yX1_isTold, .instanceMethod yX1_isTold, .selects RX1 yX1_isTold yX1_isTold, .initialized RX1, .code yX1_isTold cX1_isTold 1 (some .boolean), .fieldLink RX1 15 "PartitionKernel$Partition" "state" "I"] ++ wsX10)
def wsX1_jumpIf : List Cond := .code yX1_jumpIf cX1_jumpIf 3 none :: ([.fieldLink RX1 28 "PartitionKernel$Partition" "place" "I"] ++ wsX10)
def wsJ7_fill_53178 : List Cond := .code yJ7_fill_53178 cJ7_fill_53178 4 none :: ([])
def wsX1_restartAfter : List Cond := .code yX1_restartAfter cX1_restartAfter 2 (some .boolean) :: ([.fieldLink RX1 38 "PartitionKernel$Partition" "lastFault" "I", .fieldLink RX1 41 "PartitionKernel$Partition" "faults" "I", .fieldLink RX1 31 "PartitionKernel$Partition" "restartsLeft" "I", .fieldLink RX1 15 "PartitionKernel$Partition" "state" "I", .fieldLink RX1 9 "PartitionKernel$Partition" "registers" "[I", .fieldLink RX1 25 "PartitionKernel$Partition" "entry" "I", .fieldLink RX1 28 "PartitionKernel$Partition" "place" "I", .methodLink RX1 44 yJ7_fill_53178, .static yJ7_fill_53178, .initialized RJ7, .code yJ7_fill_53178 cJ7_fill_53178 4 none] ++ wsX10)
def wsX1_report : List Cond := .code yX1_report cX1_report 2 (some .int) :: ([.fieldLink RX1 15 "PartitionKernel$Partition" "state" "I", .fieldLink RX1 28 "PartitionKernel$Partition" "place" "I", .fieldLink RX1 50 "PartitionKernel$Partition" "done" "I", .fieldLink RX1 31 "PartitionKernel$Partition" "restartsLeft" "I", .fieldLink RX1 38 "PartitionKernel$Partition" "lastFault" "I", .fieldLink RX1 41 "PartitionKernel$Partition" "faults" "I", .fieldLink RX1 9 "PartitionKernel$Partition" "registers" "[I"] ++ wsX10)
def wsX2_init : List Cond := .code yX2_init cX2_init 2 none :: ([.methodLink RX2 1 objectInit, .instanceMethod objectInit, .code objectInit ⟨#[0xb1]⟩ 1 none, .arrayClass .int, .fieldLink RX2 9 "PartitionKernel" "memory" "[I", .classLink RX2 13 RX1, .fieldLink RX2 15 "PartitionKernel" "partitions" "[LPartitionKernel$Partition;", .instantiable RX1 10, .initialized RX1, .classLink RX2 20 RX0, .fieldLink RX2 22 "PartitionKernel" "channels" "[LPartitionKernel$Channel;", .instantiable RX0 10, .initialized RX0, .fieldLink RX2 27 "PartitionKernel" "windowOwners" "[I", .fieldLink RX2 30 "PartitionKernel" "windowLengths" "[I", .instanceMethod yX1_init, .code yX1_init cX1_init 1 none, .methodLink RX1 3 objectInit, .fieldLink RX1 9 "PartitionKernel$Partition" "registers" "[I", .instanceMethod yX0_init, .code yX0_init cX0_init 1 none, .methodLink RX0 3 objectInit, .fieldLink RX0 9 "PartitionKernel$Channel" "words" "[I"] ++ wsX20 ++ wsX10 ++ wsX00)
def wsX2_refuseIfSealed : List Cond := .code yX2_refuseIfSealed cX2_refuseIfSealed 1 none :: ([.classLink RX2 89 "java/lang/IllegalStateException", .initialized "java/lang/IllegalStateException", .fieldLink RX2 94 "PartitionKernel" "sealed" "Z"] ++ wsX20 ++ (vx_atS RX2 93 "java/lang/IllegalStateException" ["java/lang/RuntimeException", "java/lang/Exception"]).filter goodWord)
def wsX2_isInMemory : List Cond := .code yX2_isInMemory cX2_isInMemory 2 (some .boolean) :: ([])
def wsX2_sharesWord : List Cond := .code yX2_sharesWord cX2_sharesWord 4 (some .boolean) :: ([.fieldLink RX2 15 "PartitionKernel" "partitions" "[LPartitionKernel$Partition;", .instanceMethod yX1_meets, .initialized RX1, .selects RX1 yX1_meets yX1_meets, .code yX1_meets cX1_meets 3 (some .boolean), .fieldLink RX1 19 "PartitionKernel$Partition" "base" "I", .fieldLink RX1 22 "PartitionKernel$Partition" "length" "I", .methodLink RX1 34 yX1_isTold, .instanceMethod yX1_isTold, .selects RX1 yX1_isTold yX1_isTold, .code yX1_isTold cX1_isTold 1 (some .boolean), .fieldLink RX1 15 "PartitionKernel$Partition" "state" "I"] ++ wsX20 ++ wsX10)
def wsX2_partition_r1 : List Cond := [Cond.classLink RX2 40 "java/lang/IllegalArgumentException", Cond.initialized "java/lang/IllegalArgumentException", Cond.fieldLink RX2 15 "PartitionKernel" "partitions" "[LPartitionKernel$Partition;", Cond.methodLink RX2 33 yX2_refuseIfSealed, Cond.instanceMethod yX2_refuseIfSealed, Cond.selects RX2 yX2_refuseIfSealed yX2_refuseIfSealed, Cond.initialized RX2, Cond.code yX2_refuseIfSealed cX2_refuseIfSealed 1 none, Cond.classLink RX2 89 "java/lang/IllegalStateException", Cond.initialized "java/lang/IllegalStateException", Cond.fieldLink RX2 94 "PartitionKernel" "sealed" "Z", Cond.instanceMethod yX1_isTold, Cond.initialized RX1, Cond.selects RX1 yX1_isTold yX1_isTold, Cond.code yX1_isTold cX1_isTold 1 (some .boolean), Cond.fieldLink RX1 15 "PartitionKernel$Partition" "state" "I", Cond.methodLink RX2 47 yX2_isInMemory, Cond.static yX2_isInMemory, Cond.code yX2_isInMemory cX2_isInMemory 2 (some .boolean), Cond.methodLink RX2 51 yX2_sharesWord, Cond.instanceMethod yX2_sharesWord, Cond.selects RX2 yX2_sharesWord yX2_sharesWord, Cond.code yX2_sharesWord cX2_sharesWord 4 (some .boolean), Cond.instanceMethod yX1_meets]
def wsX2_partition_r2 : List Cond := [Cond.selects RX1 yX1_meets yX1_meets, Cond.code yX1_meets cX1_meets 3 (some .boolean), Cond.fieldLink RX1 19 "PartitionKernel$Partition" "base" "I", Cond.fieldLink RX1 22 "PartitionKernel$Partition" "length" "I", Cond.methodLink RX1 34 yX1_isTold, Cond.instanceMethod yX1_tell, Cond.selects RX1 yX1_tell yX1_tell, Cond.code yX1_tell cX1_tell 5 none, Cond.fieldLink RX1 25 "PartitionKernel$Partition" "entry" "I", Cond.fieldLink RX1 28 "PartitionKernel$Partition" "place" "I", Cond.fieldLink RX1 31 "PartitionKernel$Partition" "restartsLeft" "I"]
def wsX2_partition : List Cond := .code yX2_partition cX2_partition 6 none :: ((wsX2_partition_r1 ++ wsX2_partition_r2) ++ wsX20 ++ wsX10 ++ (vx_atS RX2 44 "java/lang/IllegalArgumentException" ["java/lang/RuntimeException", "java/lang/Exception"]).filter goodWord ++ (vx_atS RX2 93 "java/lang/IllegalStateException" ["java/lang/RuntimeException", "java/lang/Exception"]).filter goodWord)
def wsX2_refuseUnlessTold : List Cond := .code yX2_refuseUnlessTold cX2_refuseUnlessTold 2 none :: ([.classLink RX2 40 "java/lang/IllegalArgumentException", .initialized "java/lang/IllegalArgumentException", .fieldLink RX2 15 "PartitionKernel" "partitions" "[LPartitionKernel$Partition;", .instanceMethod yX1_isTold, .initialized RX1, .selects RX1 yX1_isTold yX1_isTold, .code yX1_isTold cX1_isTold 1 (some .boolean), .fieldLink RX1 15 "PartitionKernel$Partition" "state" "I"] ++ wsX20 ++ wsX10 ++ (vx_atS RX2 44 "java/lang/IllegalArgumentException" ["java/lang/RuntimeException", "java/lang/Exception"]).filter goodWord)
def wsX2_window : List Cond := .code yX2_window cX2_window 3 (some .int) :: ([.classLink RX2 40 "java/lang/IllegalArgumentException", .initialized "java/lang/IllegalArgumentException", .fieldLink RX2 66 "PartitionKernel" "windowCount" "I", .fieldLink RX2 27 "PartitionKernel" "windowOwners" "[I", .fieldLink RX2 30 "PartitionKernel" "windowLengths" "[I", .fieldLink RX2 72 "PartitionKernel" "frameTicks" "I", .methodLink RX2 33 yX2_refuseIfSealed, .instanceMethod yX2_refuseIfSealed, .selects RX2 yX2_refuseIfSealed yX2_refuseIfSealed, .initialized RX2, .code yX2_refuseIfSealed cX2_refuseIfSealed 1 none, .classLink RX2 89 "java/lang/IllegalStateException", .initialized "java/lang/IllegalStateException", .fieldLink RX2 94 "PartitionKernel" "sealed" "Z", .methodLink RX2 62 yX2_refuseUnlessTold, .instanceMethod yX2_refuseUnlessTold, .selects RX2 yX2_refuseUnlessTold yX2_refuseUnlessTold, .code yX2_refuseUnlessTold cX2_refuseUnlessTold 2 none, .fieldLink RX2 15 "PartitionKernel" "partitions" "[LPartitionKernel$Partition;", .instanceMethod yX1_isTold, .initialized RX1, .selects RX1 yX1_isTold yX1_isTold, .code yX1_isTold cX1_isTold 1 (some .boolean), .fieldLink RX1 15 "PartitionKernel$Partition" "state" "I"] ++ wsX20 ++ wsX10 ++ (vx_atS RX2 44 "java/lang/IllegalArgumentException" ["java/lang/RuntimeException", "java/lang/Exception"]).filter goodWord ++ (vx_atS RX2 93 "java/lang/IllegalStateException" ["java/lang/RuntimeException", "java/lang/Exception"]).filter goodWord)
def wsX2_channel_r1 : List Cond := [Cond.classLink RX2 40 "java/lang/IllegalArgumentException", Cond.initialized "java/lang/IllegalArgumentException", Cond.fieldLink RX2 22 "PartitionKernel" "channels" "[LPartitionKernel$Channel;", Cond.methodLink RX2 33 yX2_refuseIfSealed, Cond.instanceMethod yX2_refuseIfSealed, Cond.selects RX2 yX2_refuseIfSealed yX2_refuseIfSealed, Cond.initialized RX2, Cond.code yX2_refuseIfSealed cX2_refuseIfSealed 1 none, Cond.classLink RX2 89 "java/lang/IllegalStateException", Cond.initialized "java/lang/IllegalStateException", Cond.fieldLink RX2 94 "PartitionKernel" "sealed" "Z", Cond.methodLink RX2 62 yX2_refuseUnlessTold, Cond.instanceMethod yX2_refuseUnlessTold, Cond.selects RX2 yX2_refuseUnlessTold yX2_refuseUnlessTold, Cond.code yX2_refuseUnlessTold cX2_refuseUnlessTold 2 none, Cond.fieldLink RX2 15 "PartitionKernel" "partitions" "[LPartitionKernel$Partition;", Cond.instanceMethod yX1_isTold, Cond.initialized RX1, Cond.selects RX1 yX1_isTold yX1_isTold, Cond.code yX1_isTold cX1_isTold 1 (some .boolean), Cond.fieldLink RX1 15 "PartitionKernel$Partition" "state" "I", Cond.instanceMethod yX0_tell, Cond.initialized RX0, Cond.selects RX0 yX0_tell yX0_tell]
def wsX2_channel_r2 : List Cond := [Cond.code yX0_tell cX0_tell 4 none, Cond.fieldLink RX0 15 "PartitionKernel$Channel" "isTold" "Z", Cond.fieldLink RX0 19 "PartitionKernel$Channel" "from" "I", Cond.fieldLink RX0 23 "PartitionKernel$Channel" "to" "I", Cond.fieldLink RX0 26 "PartitionKernel$Channel" "room" "I"]
def wsX2_channel : List Cond := .code yX2_channel cX2_channel 5 none :: ((wsX2_channel_r1 ++ wsX2_channel_r2) ++ wsX20 ++ wsX00 ++ wsX10 ++ (vx_atS RX2 44 "java/lang/IllegalArgumentException" ["java/lang/RuntimeException", "java/lang/Exception"]).filter goodWord ++ (vx_atS RX2 93 "java/lang/IllegalStateException" ["java/lang/RuntimeException", "java/lang/Exception"]).filter goodWord)
def wsX2_addressOf : List Cond := .code yX2_addressOf cX2_addressOf 3 (some .int) :: ([.classLink RX2 141 "java/lang/IndexOutOfBoundsException", .initialized "java/lang/IndexOutOfBoundsException", .fieldLink RX2 15 "PartitionKernel" "partitions" "[LPartitionKernel$Partition;", .methodLink RX2 62 yX2_refuseUnlessTold, .instanceMethod yX2_refuseUnlessTold, .selects RX2 yX2_refuseUnlessTold yX2_refuseUnlessTold, .initialized RX2, .code yX2_refuseUnlessTold cX2_refuseUnlessTold 2 none, .classLink RX2 40 "java/lang/IllegalArgumentException", .initialized "java/lang/IllegalArgumentException", .instanceMethod yX1_isTold, .initialized RX1, .selects RX1 yX1_isTold yX1_isTold, .code yX1_isTold cX1_isTold 1 (some .boolean), .fieldLink RX1 15 "PartitionKernel$Partition" "state" "I", .instanceMethod yX1_holds, .selects RX1 yX1_holds yX1_holds, .code yX1_holds cX1_holds 2 (some .boolean), .fieldLink RX1 22 "PartitionKernel$Partition" "length" "I"] ++ wsX20 ++ wsX10 ++ (vx_atS RX2 145 "java/lang/IndexOutOfBoundsException" ["java/lang/RuntimeException", "java/lang/Exception"]).filter goodWord ++ (vx_atS RX2 44 "java/lang/IllegalArgumentException" ["java/lang/RuntimeException", "java/lang/Exception"]).filter goodWord)
def wsX2_poke_r1 : List Cond := [Cond.fieldLink RX2 9 "PartitionKernel" "memory" "[I", Cond.methodLink RX2 33 yX2_refuseIfSealed, Cond.instanceMethod yX2_refuseIfSealed, Cond.selects RX2 yX2_refuseIfSealed yX2_refuseIfSealed, Cond.initialized RX2, Cond.code yX2_refuseIfSealed cX2_refuseIfSealed 1 none, Cond.classLink RX2 89 "java/lang/IllegalStateException", Cond.initialized "java/lang/IllegalStateException", Cond.fieldLink RX2 94 "PartitionKernel" "sealed" "Z", Cond.methodLink RX2 85 yX2_addressOf, Cond.instanceMethod yX2_addressOf, Cond.selects RX2 yX2_addressOf yX2_addressOf, Cond.code yX2_addressOf cX2_addressOf 3 (some .int), Cond.classLink RX2 141 "java/lang/IndexOutOfBoundsException", Cond.initialized "java/lang/IndexOutOfBoundsException", Cond.fieldLink RX2 15 "PartitionKernel" "partitions" "[LPartitionKernel$Partition;", Cond.methodLink RX2 62 yX2_refuseUnlessTold, Cond.instanceMethod yX2_refuseUnlessTold, Cond.selects RX2 yX2_refuseUnlessTold yX2_refuseUnlessTold, Cond.code yX2_refuseUnlessTold cX2_refuseUnlessTold 2 none, Cond.classLink RX2 40 "java/lang/IllegalArgumentException", Cond.initialized "java/lang/IllegalArgumentException", Cond.instanceMethod yX1_isTold, Cond.initialized RX1]
def wsX2_poke_r2 : List Cond := [Cond.selects RX1 yX1_isTold yX1_isTold, Cond.code yX1_isTold cX1_isTold 1 (some .boolean), Cond.fieldLink RX1 15 "PartitionKernel$Partition" "state" "I", Cond.instanceMethod yX1_holds, Cond.selects RX1 yX1_holds yX1_holds, Cond.code yX1_holds cX1_holds 2 (some .boolean), Cond.fieldLink RX1 22 "PartitionKernel$Partition" "length" "I"]
def wsX2_poke : List Cond := .code yX2_poke cX2_poke 6 (some .int) :: ((wsX2_poke_r1 ++ wsX2_poke_r2) ++ wsX20 ++ wsX10 ++ (vx_atS RX2 93 "java/lang/IllegalStateException" ["java/lang/RuntimeException", "java/lang/Exception"]).filter goodWord ++ (vx_atS RX2 145 "java/lang/IndexOutOfBoundsException" ["java/lang/RuntimeException", "java/lang/Exception"]).filter goodWord ++ (vx_atS RX2 44 "java/lang/IllegalArgumentException" ["java/lang/RuntimeException", "java/lang/Exception"]).filter goodWord)
def wsX2_peek : List Cond := .code yX2_peek cX2_peek 3 (some .int) :: ([.fieldLink RX2 9 "PartitionKernel" "memory" "[I", .methodLink RX2 85 yX2_addressOf, .instanceMethod yX2_addressOf, .selects RX2 yX2_addressOf yX2_addressOf, .initialized RX2, .code yX2_addressOf cX2_addressOf 3 (some .int), .classLink RX2 141 "java/lang/IndexOutOfBoundsException", .initialized "java/lang/IndexOutOfBoundsException", .fieldLink RX2 15 "PartitionKernel" "partitions" "[LPartitionKernel$Partition;", .methodLink RX2 62 yX2_refuseUnlessTold, .instanceMethod yX2_refuseUnlessTold, .selects RX2 yX2_refuseUnlessTold yX2_refuseUnlessTold, .code yX2_refuseUnlessTold cX2_refuseUnlessTold 2 none, .classLink RX2 40 "java/lang/IllegalArgumentException", .initialized "java/lang/IllegalArgumentException", .instanceMethod yX1_isTold, .initialized RX1, .selects RX1 yX1_isTold yX1_isTold, .code yX1_isTold cX1_isTold 1 (some .boolean), .fieldLink RX1 15 "PartitionKernel$Partition" "state" "I", .instanceMethod yX1_holds, .selects RX1 yX1_holds yX1_holds, .code yX1_holds cX1_holds 2 (some .boolean), .fieldLink RX1 22 "PartitionKernel$Partition" "length" "I"] ++ wsX20 ++ wsX10 ++ (vx_atS RX2 145 "java/lang/IndexOutOfBoundsException" ["java/lang/RuntimeException", "java/lang/Exception"]).filter goodWord ++ (vx_atS RX2 44 "java/lang/IllegalArgumentException" ["java/lang/RuntimeException", "java/lang/Exception"]).filter goodWord)
def wsX2_seal : List Cond := .code yX2_seal cX2_seal 1 (some .int) :: ([.classLink RX2 89 "java/lang/IllegalStateException", .initialized "java/lang/IllegalStateException", .fieldLink RX2 66 "PartitionKernel" "windowCount" "I", .fieldLink RX2 94 "PartitionKernel" "sealed" "Z", .fieldLink RX2 72 "PartitionKernel" "frameTicks" "I", .methodLink RX2 33 yX2_refuseIfSealed, .instanceMethod yX2_refuseIfSealed, .selects RX2 yX2_refuseIfSealed yX2_refuseIfSealed, .initialized RX2, .code yX2_refuseIfSealed cX2_refuseIfSealed 1 none] ++ wsX20 ++ (vx_atS RX2 93 "java/lang/IllegalStateException" ["java/lang/RuntimeException", "java/lang/Exception"]).filter goodWord)
def wsX2_load : List Cond := .code yX2_load cX2_load 4 (some .int) :: ([.fieldLink RX2 9 "PartitionKernel" "memory" "[I", .instanceMethod yX1_holds, .initialized RX1, .selects RX1 yX1_holds yX1_holds, .code yX1_holds cX1_holds 2 (some .boolean), .fieldLink RX1 22 "PartitionKernel$Partition" "length" "I"] ++ wsX10 ++ wsX20)
def wsX2_store : List Cond := .code yX2_store cX2_store 4 (some .int) :: ([.fieldLink RX2 9 "PartitionKernel" "memory" "[I", .instanceMethod yX1_holds, .initialized RX1, .selects RX1 yX1_holds yX1_holds, .code yX1_holds cX1_holds 2 (some .boolean), .fieldLink RX1 22 "PartitionKernel$Partition" "length" "I"] ++ wsX20 ++ wsX10)
def wsX2_isChannel : List Cond := .code yX2_isChannel cX2_isChannel 2 (some .boolean) :: ([.fieldLink RX2 22 "PartitionKernel" "channels" "[LPartitionKernel$Channel;"] ++ wsX20 ++ wsX00)
def wsX2_send_r1 : List Cond := [Cond.fieldLink RX2 22 "PartitionKernel" "channels" "[LPartitionKernel$Channel;", Cond.fieldLink RX2 15 "PartitionKernel" "partitions" "[LPartitionKernel$Partition;", Cond.fieldLink RX2 116 "PartitionKernel" "ticksDone" "I", Cond.methodLink RX2 110 yX2_isChannel, Cond.instanceMethod yX2_isChannel, Cond.selects RX2 yX2_isChannel yX2_isChannel, Cond.initialized RX2, Cond.code yX2_isChannel cX2_isChannel 2 (some .boolean), Cond.instanceMethod yX0_put, Cond.initialized RX0, Cond.selects RX0 yX0_put yX0_put, Cond.code yX0_put cX0_put 3 (some .boolean), Cond.fieldLink RX0 9 "PartitionKernel$Channel" "words" "[I", Cond.fieldLink RX0 33 "PartitionKernel$Channel" "count" "I", Cond.fieldLink RX0 36 "PartitionKernel$Channel" "cameAt" "I", Cond.fieldLink RX0 26 "PartitionKernel$Channel" "room" "I", Cond.fieldLink RX0 43 "PartitionKernel$Channel" "refused" "I", Cond.fieldLink RX0 46 "PartitionKernel$Channel" "came" "I", Cond.methodLink RX0 29 yX0_isSlot, Cond.instanceMethod yX0_isSlot, Cond.selects RX0 yX0_isSlot yX0_isSlot, Cond.code yX0_isSlot cX0_isSlot 1 (some .boolean), Cond.methodLink RX0 39 yX0_spotOf, Cond.instanceMethod yX0_spotOf]
def wsX2_send_r2 : List Cond := [Cond.selects RX0 yX0_spotOf yX0_spotOf, Cond.code yX0_spotOf cX0_spotOf 2 (some .int), Cond.fieldLink RX0 49 "PartitionKernel$Channel" "first" "I"]
def wsX2_send : List Cond := .code yX2_send cX2_send 6 (some .int) :: ((wsX2_send_r1 ++ wsX2_send_r2) ++ wsX20 ++ wsX00 ++ wsX10)
def wsX2_take_r1 : List Cond := [Cond.fieldLink RX2 22 "PartitionKernel" "channels" "[LPartitionKernel$Channel;", Cond.fieldLink RX2 15 "PartitionKernel" "partitions" "[LPartitionKernel$Partition;", Cond.fieldLink RX2 116 "PartitionKernel" "ticksDone" "I", Cond.methodLink RX2 110 yX2_isChannel, Cond.instanceMethod yX2_isChannel, Cond.selects RX2 yX2_isChannel yX2_isChannel, Cond.initialized RX2, Cond.code yX2_isChannel cX2_isChannel 2 (some .boolean), Cond.instanceMethod yX0_wordAt, Cond.initialized RX0, Cond.selects RX0 yX0_wordAt yX0_wordAt, Cond.code yX0_wordAt cX0_wordAt 2 (some .int), Cond.fieldLink RX0 33 "PartitionKernel$Channel" "count" "I", Cond.fieldLink RX0 9 "PartitionKernel$Channel" "words" "[I", Cond.methodLink RX0 39 yX0_spotOf, Cond.instanceMethod yX0_spotOf, Cond.selects RX0 yX0_spotOf yX0_spotOf, Cond.code yX0_spotOf cX0_spotOf 2 (some .int), Cond.fieldLink RX0 49 "PartitionKernel$Channel" "first" "I", Cond.instanceMethod yX0_isSlot, Cond.selects RX0 yX0_isSlot yX0_isSlot, Cond.code yX0_isSlot cX0_isSlot 1 (some .boolean), Cond.fieldLink RX0 26 "PartitionKernel$Channel" "room" "I", Cond.instanceMethod yX0_age]
def wsX2_take_r2 : List Cond := [Cond.selects RX0 yX0_age yX0_age, Cond.code yX0_age cX0_age 2 (some .int), Cond.fieldLink RX0 36 "PartitionKernel$Channel" "cameAt" "I", Cond.constant RX0 52 (1000000), Cond.methodLink RX0 53 Lib.Math.min.name, Cond.static Lib.Math.min.name, Cond.initialized "java/lang/Math", Cond.code Lib.Math.min.name Lib.Math.min.code 2 (some .int), Cond.methodLink RX0 29 yX0_isSlot, Cond.instanceMethod yX0_dropTaken, Cond.selects RX0 yX0_dropTaken yX0_dropTaken, Cond.code yX0_dropTaken cX0_dropTaken 1 none]
def wsX2_take : List Cond := .code yX2_take cX2_take 7 (some .int) :: ((wsX2_take_r1 ++ wsX2_take_r2) ++ wsX20 ++ wsX00 ++ wsX10)
def wsX2_computed : List Cond := .code yX2_computed cX2_computed 4 (some .int) :: ([])
def wsX2_perform_r1 : List Cond := [Cond.fieldLink RX2 15 "PartitionKernel" "partitions" "[LPartitionKernel$Partition;", Cond.fieldLink RX2 149 "PartitionKernel" "yielded" "Z", Cond.methodLink RX2 179 yX2_load, Cond.instanceMethod yX2_load, Cond.selects RX2 yX2_load yX2_load, Cond.initialized RX2, Cond.code yX2_load cX2_load 4 (some .int), Cond.fieldLink RX2 9 "PartitionKernel" "memory" "[I", Cond.instanceMethod yX1_holds, Cond.initialized RX1, Cond.selects RX1 yX1_holds yX1_holds, Cond.code yX1_holds cX1_holds 2 (some .boolean), Cond.fieldLink RX1 22 "PartitionKernel$Partition" "length" "I", Cond.methodLink RX2 183 yX2_store, Cond.instanceMethod yX2_store, Cond.selects RX2 yX2_store yX2_store, Cond.code yX2_store cX2_store 4 (some .int), Cond.instanceMethod yX1_jumpIf, Cond.selects RX1 yX1_jumpIf yX1_jumpIf, Cond.code yX1_jumpIf cX1_jumpIf 3 none, Cond.fieldLink RX1 28 "PartitionKernel$Partition" "place" "I", Cond.methodLink RX2 190 yX2_send, Cond.instanceMethod yX2_send, Cond.selects RX2 yX2_send yX2_send]
def wsX2_perform_r2 : List Cond := [Cond.code yX2_send cX2_send 6 (some .int), Cond.fieldLink RX2 22 "PartitionKernel" "channels" "[LPartitionKernel$Channel;", Cond.fieldLink RX2 116 "PartitionKernel" "ticksDone" "I", Cond.methodLink RX2 110 yX2_isChannel, Cond.instanceMethod yX2_isChannel, Cond.selects RX2 yX2_isChannel yX2_isChannel, Cond.code yX2_isChannel cX2_isChannel 2 (some .boolean), Cond.instanceMethod yX0_put, Cond.initialized RX0, Cond.selects RX0 yX0_put yX0_put, Cond.code yX0_put cX0_put 3 (some .boolean), Cond.fieldLink RX0 9 "PartitionKernel$Channel" "words" "[I", Cond.fieldLink RX0 33 "PartitionKernel$Channel" "count" "I", Cond.fieldLink RX0 36 "PartitionKernel$Channel" "cameAt" "I", Cond.fieldLink RX0 26 "PartitionKernel$Channel" "room" "I", Cond.fieldLink RX0 43 "PartitionKernel$Channel" "refused" "I", Cond.fieldLink RX0 46 "PartitionKernel$Channel" "came" "I", Cond.methodLink RX0 29 yX0_isSlot, Cond.instanceMethod yX0_isSlot, Cond.selects RX0 yX0_isSlot yX0_isSlot, Cond.code yX0_isSlot cX0_isSlot 1 (some .boolean), Cond.methodLink RX0 39 yX0_spotOf, Cond.instanceMethod yX0_spotOf, Cond.selects RX0 yX0_spotOf yX0_spotOf]
def wsX2_perform_r3 : List Cond := [Cond.code yX0_spotOf cX0_spotOf 2 (some .int), Cond.fieldLink RX0 49 "PartitionKernel$Channel" "first" "I", Cond.methodLink RX2 194 yX2_take, Cond.instanceMethod yX2_take, Cond.selects RX2 yX2_take yX2_take, Cond.code yX2_take cX2_take 7 (some .int), Cond.instanceMethod yX0_wordAt, Cond.selects RX0 yX0_wordAt yX0_wordAt, Cond.code yX0_wordAt cX0_wordAt 2 (some .int), Cond.instanceMethod yX0_age, Cond.selects RX0 yX0_age yX0_age, Cond.code yX0_age cX0_age 2 (some .int), Cond.constant RX0 52 (1000000), Cond.methodLink RX0 53 Lib.Math.min.name, Cond.static Lib.Math.min.name, Cond.initialized "java/lang/Math", Cond.code Lib.Math.min.name Lib.Math.min.code 2 (some .int), Cond.instanceMethod yX0_dropTaken, Cond.selects RX0 yX0_dropTaken yX0_dropTaken, Cond.code yX0_dropTaken cX0_dropTaken 1 none, Cond.methodLink RX2 197 yX2_computed, Cond.static yX2_computed, Cond.code yX2_computed cX2_computed 4 (some .int)]
def wsX2_perform : List Cond := .code yX2_perform cX2_perform 8 (some .int) :: ((wsX2_perform_r1 ++ (wsX2_perform_r2 ++ wsX2_perform_r3)) ++ wsX20 ++ wsX10 ++ wsX00)
def wsX2_runInstruction_r1 : List Cond := [Cond.fieldLink RX2 15 "PartitionKernel" "partitions" "[LPartitionKernel$Partition;", Cond.fieldLink RX2 9 "PartitionKernel" "memory" "[I", Cond.fieldLink RX2 149 "PartitionKernel" "yielded" "Z", Cond.instanceMethod yX1_holds, Cond.initialized RX1, Cond.selects RX1 yX1_holds yX1_holds, Cond.code yX1_holds cX1_holds 2 (some .boolean), Cond.fieldLink RX1 22 "PartitionKernel$Partition" "length" "I", Cond.methodLink RX2 167 yX2_perform, Cond.instanceMethod yX2_perform, Cond.selects RX2 yX2_perform yX2_perform, Cond.initialized RX2, Cond.code yX2_perform cX2_perform 8 (some .int), Cond.methodLink RX2 179 yX2_load, Cond.instanceMethod yX2_load, Cond.selects RX2 yX2_load yX2_load, Cond.code yX2_load cX2_load 4 (some .int), Cond.methodLink RX2 183 yX2_store, Cond.instanceMethod yX2_store, Cond.selects RX2 yX2_store yX2_store, Cond.code yX2_store cX2_store 4 (some .int), Cond.instanceMethod yX1_jumpIf, Cond.selects RX1 yX1_jumpIf yX1_jumpIf, Cond.code yX1_jumpIf cX1_jumpIf 3 none]
def wsX2_runInstruction_r2 : List Cond := [Cond.fieldLink RX1 28 "PartitionKernel$Partition" "place" "I", Cond.methodLink RX2 190 yX2_send, Cond.instanceMethod yX2_send, Cond.selects RX2 yX2_send yX2_send, Cond.code yX2_send cX2_send 6 (some .int), Cond.fieldLink RX2 22 "PartitionKernel" "channels" "[LPartitionKernel$Channel;", Cond.fieldLink RX2 116 "PartitionKernel" "ticksDone" "I", Cond.methodLink RX2 110 yX2_isChannel, Cond.instanceMethod yX2_isChannel, Cond.selects RX2 yX2_isChannel yX2_isChannel, Cond.code yX2_isChannel cX2_isChannel 2 (some .boolean), Cond.instanceMethod yX0_put, Cond.initialized RX0, Cond.selects RX0 yX0_put yX0_put, Cond.code yX0_put cX0_put 3 (some .boolean), Cond.fieldLink RX0 9 "PartitionKernel$Channel" "words" "[I", Cond.fieldLink RX0 33 "PartitionKernel$Channel" "count" "I", Cond.fieldLink RX0 36 "PartitionKernel$Channel" "cameAt" "I", Cond.fieldLink RX0 26 "PartitionKernel$Channel" "room" "I", Cond.fieldLink RX0 43 "PartitionKernel$Channel" "refused" "I", Cond.fieldLink RX0 46 "PartitionKernel$Channel" "came" "I", Cond.methodLink RX0 29 yX0_isSlot, Cond.instanceMethod yX0_isSlot, Cond.selects RX0 yX0_isSlot yX0_isSlot]
def wsX2_runInstruction_r3 : List Cond := [Cond.code yX0_isSlot cX0_isSlot 1 (some .boolean), Cond.methodLink RX0 39 yX0_spotOf, Cond.instanceMethod yX0_spotOf, Cond.selects RX0 yX0_spotOf yX0_spotOf, Cond.code yX0_spotOf cX0_spotOf 2 (some .int), Cond.fieldLink RX0 49 "PartitionKernel$Channel" "first" "I", Cond.methodLink RX2 194 yX2_take, Cond.instanceMethod yX2_take, Cond.selects RX2 yX2_take yX2_take, Cond.code yX2_take cX2_take 7 (some .int), Cond.instanceMethod yX0_wordAt, Cond.selects RX0 yX0_wordAt yX0_wordAt, Cond.code yX0_wordAt cX0_wordAt 2 (some .int), Cond.instanceMethod yX0_age, Cond.selects RX0 yX0_age yX0_age, Cond.code yX0_age cX0_age 2 (some .int), Cond.constant RX0 52 (1000000), Cond.methodLink RX0 53 Lib.Math.min.name, Cond.static Lib.Math.min.name, Cond.initialized "java/lang/Math", Cond.code Lib.Math.min.name Lib.Math.min.code 2 (some .int), Cond.instanceMethod yX0_dropTaken, Cond.selects RX0 yX0_dropTaken yX0_dropTaken, Cond.code yX0_dropTaken cX0_dropTaken 1 none]
def wsX2_runInstruction_r4 : List Cond := [Cond.methodLink RX2 197 yX2_computed, Cond.static yX2_computed, Cond.code yX2_computed cX2_computed 4 (some .int), Cond.instanceMethod yX1_restartAfter, Cond.selects RX1 yX1_restartAfter yX1_restartAfter, Cond.code yX1_restartAfter cX1_restartAfter 2 (some .boolean), Cond.fieldLink RX1 38 "PartitionKernel$Partition" "lastFault" "I", Cond.fieldLink RX1 41 "PartitionKernel$Partition" "faults" "I", Cond.fieldLink RX1 31 "PartitionKernel$Partition" "restartsLeft" "I", Cond.fieldLink RX1 15 "PartitionKernel$Partition" "state" "I", Cond.fieldLink RX1 9 "PartitionKernel$Partition" "registers" "[I", Cond.fieldLink RX1 25 "PartitionKernel$Partition" "entry" "I", Cond.methodLink RX1 44 yJ7_fill_53178, Cond.static yJ7_fill_53178, Cond.initialized RJ7, Cond.code yJ7_fill_53178 cJ7_fill_53178 4 none]
def wsX2_runInstruction : List Cond := .code yX2_runInstruction cX2_runInstruction 5 none :: ((wsX2_runInstruction_r1 ++ (wsX2_runInstruction_r2 ++ (wsX2_runInstruction_r3 ++ wsX2_runInstruction_r4))) ++ wsX20 ++ wsX10 ++ wsX00)
def wsX2_moveWindowOn : List Cond := .code yX2_moveWindowOn cX2_moveWindowOn 1 none :: ([.fieldLink RX2 161 "PartitionKernel" "ticksIntoWindow" "I", .fieldLink RX2 30 "PartitionKernel" "windowLengths" "[I", .fieldLink RX2 129 "PartitionKernel" "windowAtHand" "I", .fieldLink RX2 149 "PartitionKernel" "yielded" "Z", .fieldLink RX2 66 "PartitionKernel" "windowCount" "I"] ++ wsX20)
def wsX2_goOneTick_r1 : List Cond := [Cond.fieldLink RX2 116 "PartitionKernel" "ticksDone" "I", Cond.fieldLink RX2 27 "PartitionKernel" "windowOwners" "[I", Cond.fieldLink RX2 129 "PartitionKernel" "windowAtHand" "I", Cond.fieldLink RX2 149 "PartitionKernel" "yielded" "Z", Cond.fieldLink RX2 15 "PartitionKernel" "partitions" "[LPartitionKernel$Partition;", Cond.methodLink RX2 155 yX2_runInstruction, Cond.instanceMethod yX2_runInstruction, Cond.selects RX2 yX2_runInstruction yX2_runInstruction, Cond.initialized RX2, Cond.code yX2_runInstruction cX2_runInstruction 5 none, Cond.fieldLink RX2 9 "PartitionKernel" "memory" "[I", Cond.instanceMethod yX1_holds, Cond.initialized RX1, Cond.selects RX1 yX1_holds yX1_holds, Cond.code yX1_holds cX1_holds 2 (some .boolean), Cond.fieldLink RX1 22 "PartitionKernel$Partition" "length" "I", Cond.methodLink RX2 167 yX2_perform, Cond.instanceMethod yX2_perform, Cond.selects RX2 yX2_perform yX2_perform, Cond.code yX2_perform cX2_perform 8 (some .int), Cond.methodLink RX2 179 yX2_load, Cond.instanceMethod yX2_load, Cond.selects RX2 yX2_load yX2_load, Cond.code yX2_load cX2_load 4 (some .int)]
def wsX2_goOneTick_r2 : List Cond := [Cond.methodLink RX2 183 yX2_store, Cond.instanceMethod yX2_store, Cond.selects RX2 yX2_store yX2_store, Cond.code yX2_store cX2_store 4 (some .int), Cond.instanceMethod yX1_jumpIf, Cond.selects RX1 yX1_jumpIf yX1_jumpIf, Cond.code yX1_jumpIf cX1_jumpIf 3 none, Cond.fieldLink RX1 28 "PartitionKernel$Partition" "place" "I", Cond.methodLink RX2 190 yX2_send, Cond.instanceMethod yX2_send, Cond.selects RX2 yX2_send yX2_send, Cond.code yX2_send cX2_send 6 (some .int), Cond.fieldLink RX2 22 "PartitionKernel" "channels" "[LPartitionKernel$Channel;", Cond.methodLink RX2 110 yX2_isChannel, Cond.instanceMethod yX2_isChannel, Cond.selects RX2 yX2_isChannel yX2_isChannel, Cond.code yX2_isChannel cX2_isChannel 2 (some .boolean), Cond.instanceMethod yX0_put, Cond.initialized RX0, Cond.selects RX0 yX0_put yX0_put, Cond.code yX0_put cX0_put 3 (some .boolean), Cond.fieldLink RX0 9 "PartitionKernel$Channel" "words" "[I", Cond.fieldLink RX0 33 "PartitionKernel$Channel" "count" "I", Cond.fieldLink RX0 36 "PartitionKernel$Channel" "cameAt" "I"]
def wsX2_goOneTick_r3 : List Cond := [Cond.fieldLink RX0 26 "PartitionKernel$Channel" "room" "I", Cond.fieldLink RX0 43 "PartitionKernel$Channel" "refused" "I", Cond.fieldLink RX0 46 "PartitionKernel$Channel" "came" "I", Cond.methodLink RX0 29 yX0_isSlot, Cond.instanceMethod yX0_isSlot, Cond.selects RX0 yX0_isSlot yX0_isSlot, Cond.code yX0_isSlot cX0_isSlot 1 (some .boolean), Cond.methodLink RX0 39 yX0_spotOf, Cond.instanceMethod yX0_spotOf, Cond.selects RX0 yX0_spotOf yX0_spotOf, Cond.code yX0_spotOf cX0_spotOf 2 (some .int), Cond.fieldLink RX0 49 "PartitionKernel$Channel" "first" "I", Cond.methodLink RX2 194 yX2_take, Cond.instanceMethod yX2_take, Cond.selects RX2 yX2_take yX2_take, Cond.code yX2_take cX2_take 7 (some .int), Cond.instanceMethod yX0_wordAt, Cond.selects RX0 yX0_wordAt yX0_wordAt, Cond.code yX0_wordAt cX0_wordAt 2 (some .int), Cond.instanceMethod yX0_age, Cond.selects RX0 yX0_age yX0_age, Cond.code yX0_age cX0_age 2 (some .int), Cond.constant RX0 52 (1000000), Cond.methodLink RX0 53 Lib.Math.min.name]
def wsX2_goOneTick_r4 : List Cond := [Cond.static Lib.Math.min.name, Cond.initialized "java/lang/Math", Cond.code Lib.Math.min.name Lib.Math.min.code 2 (some .int), Cond.instanceMethod yX0_dropTaken, Cond.selects RX0 yX0_dropTaken yX0_dropTaken, Cond.code yX0_dropTaken cX0_dropTaken 1 none, Cond.methodLink RX2 197 yX2_computed, Cond.static yX2_computed, Cond.code yX2_computed cX2_computed 4 (some .int), Cond.instanceMethod yX1_restartAfter, Cond.selects RX1 yX1_restartAfter yX1_restartAfter, Cond.code yX1_restartAfter cX1_restartAfter 2 (some .boolean), Cond.fieldLink RX1 38 "PartitionKernel$Partition" "lastFault" "I", Cond.fieldLink RX1 41 "PartitionKernel$Partition" "faults" "I", Cond.fieldLink RX1 31 "PartitionKernel$Partition" "restartsLeft" "I", Cond.fieldLink RX1 15 "PartitionKernel$Partition" "state" "I", Cond.fieldLink RX1 9 "PartitionKernel$Partition" "registers" "[I", Cond.fieldLink RX1 25 "PartitionKernel$Partition" "entry" "I", Cond.methodLink RX1 44 yJ7_fill_53178, Cond.static yJ7_fill_53178, Cond.initialized RJ7, Cond.code yJ7_fill_53178 cJ7_fill_53178 4 none, Cond.methodLink RX2 158 yX2_moveWindowOn, Cond.instanceMethod yX2_moveWindowOn]
def wsX2_goOneTick_r5 : List Cond := [Cond.selects RX2 yX2_moveWindowOn yX2_moveWindowOn, Cond.code yX2_moveWindowOn cX2_moveWindowOn 1 none, Cond.fieldLink RX2 161 "PartitionKernel" "ticksIntoWindow" "I", Cond.fieldLink RX2 30 "PartitionKernel" "windowLengths" "[I", Cond.fieldLink RX2 66 "PartitionKernel" "windowCount" "I"]
def wsX2_goOneTick : List Cond := .code yX2_goOneTick cX2_goOneTick 3 (some .boolean) :: ((wsX2_goOneTick_r1 ++ (wsX2_goOneTick_r2 ++ (wsX2_goOneTick_r3 ++ (wsX2_goOneTick_r4 ++ wsX2_goOneTick_r5)))) ++ wsX20 ++ wsX10 ++ wsX00)
def wsX2_step_r1 : List Cond := [Cond.classLink RX2 89 "java/lang/IllegalStateException", Cond.initialized "java/lang/IllegalStateException", Cond.classLink RX2 40 "java/lang/IllegalArgumentException", Cond.initialized "java/lang/IllegalArgumentException", Cond.fieldLink RX2 94 "PartitionKernel" "sealed" "Z", Cond.methodLink RX2 101 yX2_goOneTick, Cond.instanceMethod yX2_goOneTick, Cond.selects RX2 yX2_goOneTick yX2_goOneTick, Cond.initialized RX2, Cond.code yX2_goOneTick cX2_goOneTick 3 (some .boolean), Cond.fieldLink RX2 116 "PartitionKernel" "ticksDone" "I", Cond.fieldLink RX2 27 "PartitionKernel" "windowOwners" "[I", Cond.fieldLink RX2 129 "PartitionKernel" "windowAtHand" "I", Cond.fieldLink RX2 149 "PartitionKernel" "yielded" "Z", Cond.fieldLink RX2 15 "PartitionKernel" "partitions" "[LPartitionKernel$Partition;", Cond.methodLink RX2 155 yX2_runInstruction, Cond.instanceMethod yX2_runInstruction, Cond.selects RX2 yX2_runInstruction yX2_runInstruction, Cond.code yX2_runInstruction cX2_runInstruction 5 none, Cond.fieldLink RX2 9 "PartitionKernel" "memory" "[I", Cond.instanceMethod yX1_holds, Cond.initialized RX1, Cond.selects RX1 yX1_holds yX1_holds, Cond.code yX1_holds cX1_holds 2 (some .boolean)]
def wsX2_step_r2 : List Cond := [Cond.fieldLink RX1 22 "PartitionKernel$Partition" "length" "I", Cond.methodLink RX2 167 yX2_perform, Cond.instanceMethod yX2_perform, Cond.selects RX2 yX2_perform yX2_perform, Cond.code yX2_perform cX2_perform 8 (some .int), Cond.methodLink RX2 179 yX2_load, Cond.instanceMethod yX2_load, Cond.selects RX2 yX2_load yX2_load, Cond.code yX2_load cX2_load 4 (some .int), Cond.methodLink RX2 183 yX2_store, Cond.instanceMethod yX2_store, Cond.selects RX2 yX2_store yX2_store, Cond.code yX2_store cX2_store 4 (some .int), Cond.instanceMethod yX1_jumpIf, Cond.selects RX1 yX1_jumpIf yX1_jumpIf, Cond.code yX1_jumpIf cX1_jumpIf 3 none, Cond.fieldLink RX1 28 "PartitionKernel$Partition" "place" "I", Cond.methodLink RX2 190 yX2_send, Cond.instanceMethod yX2_send, Cond.selects RX2 yX2_send yX2_send, Cond.code yX2_send cX2_send 6 (some .int), Cond.fieldLink RX2 22 "PartitionKernel" "channels" "[LPartitionKernel$Channel;", Cond.methodLink RX2 110 yX2_isChannel, Cond.instanceMethod yX2_isChannel]
def wsX2_step_r3 : List Cond := [Cond.selects RX2 yX2_isChannel yX2_isChannel, Cond.code yX2_isChannel cX2_isChannel 2 (some .boolean), Cond.instanceMethod yX0_put, Cond.initialized RX0, Cond.selects RX0 yX0_put yX0_put, Cond.code yX0_put cX0_put 3 (some .boolean), Cond.fieldLink RX0 9 "PartitionKernel$Channel" "words" "[I", Cond.fieldLink RX0 33 "PartitionKernel$Channel" "count" "I", Cond.fieldLink RX0 36 "PartitionKernel$Channel" "cameAt" "I", Cond.fieldLink RX0 26 "PartitionKernel$Channel" "room" "I", Cond.fieldLink RX0 43 "PartitionKernel$Channel" "refused" "I", Cond.fieldLink RX0 46 "PartitionKernel$Channel" "came" "I", Cond.methodLink RX0 29 yX0_isSlot, Cond.instanceMethod yX0_isSlot, Cond.selects RX0 yX0_isSlot yX0_isSlot, Cond.code yX0_isSlot cX0_isSlot 1 (some .boolean), Cond.methodLink RX0 39 yX0_spotOf, Cond.instanceMethod yX0_spotOf, Cond.selects RX0 yX0_spotOf yX0_spotOf, Cond.code yX0_spotOf cX0_spotOf 2 (some .int), Cond.fieldLink RX0 49 "PartitionKernel$Channel" "first" "I", Cond.methodLink RX2 194 yX2_take, Cond.instanceMethod yX2_take, Cond.selects RX2 yX2_take yX2_take]
def wsX2_step_r4 : List Cond := [Cond.code yX2_take cX2_take 7 (some .int), Cond.instanceMethod yX0_wordAt, Cond.selects RX0 yX0_wordAt yX0_wordAt, Cond.code yX0_wordAt cX0_wordAt 2 (some .int), Cond.instanceMethod yX0_age, Cond.selects RX0 yX0_age yX0_age, Cond.code yX0_age cX0_age 2 (some .int), Cond.constant RX0 52 (1000000), Cond.methodLink RX0 53 Lib.Math.min.name, Cond.static Lib.Math.min.name, Cond.initialized "java/lang/Math", Cond.code Lib.Math.min.name Lib.Math.min.code 2 (some .int), Cond.instanceMethod yX0_dropTaken, Cond.selects RX0 yX0_dropTaken yX0_dropTaken, Cond.code yX0_dropTaken cX0_dropTaken 1 none, Cond.methodLink RX2 197 yX2_computed, Cond.static yX2_computed, Cond.code yX2_computed cX2_computed 4 (some .int), Cond.instanceMethod yX1_restartAfter, Cond.selects RX1 yX1_restartAfter yX1_restartAfter, Cond.code yX1_restartAfter cX1_restartAfter 2 (some .boolean), Cond.fieldLink RX1 38 "PartitionKernel$Partition" "lastFault" "I", Cond.fieldLink RX1 41 "PartitionKernel$Partition" "faults" "I", Cond.fieldLink RX1 31 "PartitionKernel$Partition" "restartsLeft" "I"]
def wsX2_step_r5 : List Cond := [Cond.fieldLink RX1 15 "PartitionKernel$Partition" "state" "I", Cond.fieldLink RX1 9 "PartitionKernel$Partition" "registers" "[I", Cond.fieldLink RX1 25 "PartitionKernel$Partition" "entry" "I", Cond.methodLink RX1 44 yJ7_fill_53178, Cond.static yJ7_fill_53178, Cond.initialized RJ7, Cond.code yJ7_fill_53178 cJ7_fill_53178 4 none, Cond.methodLink RX2 158 yX2_moveWindowOn, Cond.instanceMethod yX2_moveWindowOn, Cond.selects RX2 yX2_moveWindowOn yX2_moveWindowOn, Cond.code yX2_moveWindowOn cX2_moveWindowOn 1 none, Cond.fieldLink RX2 161 "PartitionKernel" "ticksIntoWindow" "I", Cond.fieldLink RX2 30 "PartitionKernel" "windowLengths" "[I", Cond.fieldLink RX2 66 "PartitionKernel" "windowCount" "I"]
def wsX2_step : List Cond := .code yX2_step cX2_step 4 (some .int) :: ((wsX2_step_r1 ++ (wsX2_step_r2 ++ (wsX2_step_r3 ++ (wsX2_step_r4 ++ wsX2_step_r5)))) ++ wsX20 ++ wsX10 ++ wsX00 ++ (vx_atS RX2 93 "java/lang/IllegalStateException" ["java/lang/RuntimeException", "java/lang/Exception"]).filter goodWord ++ (vx_atS RX2 44 "java/lang/IllegalArgumentException" ["java/lang/RuntimeException", "java/lang/Exception"]).filter goodWord)
def wsX2_told : List Cond := .code yX2_told cX2_told 3 (some .int) :: ([.classLink RX2 40 "java/lang/IllegalArgumentException", .initialized "java/lang/IllegalArgumentException", .fieldLink RX2 15 "PartitionKernel" "partitions" "[LPartitionKernel$Partition;", .instanceMethod yX1_report, .initialized RX1, .selects RX1 yX1_report yX1_report, .code yX1_report cX1_report 2 (some .int), .fieldLink RX1 15 "PartitionKernel$Partition" "state" "I", .fieldLink RX1 28 "PartitionKernel$Partition" "place" "I", .fieldLink RX1 50 "PartitionKernel$Partition" "done" "I", .fieldLink RX1 31 "PartitionKernel$Partition" "restartsLeft" "I", .fieldLink RX1 38 "PartitionKernel$Partition" "lastFault" "I", .fieldLink RX1 41 "PartitionKernel$Partition" "faults" "I", .fieldLink RX1 9 "PartitionKernel$Partition" "registers" "[I"] ++ wsX20 ++ wsX10 ++ (vx_atS RX2 44 "java/lang/IllegalArgumentException" ["java/lang/RuntimeException", "java/lang/Exception"]).filter goodWord)
def wsX2_has_r1 : List Cond := [Cond.classLink RX2 40 "java/lang/IllegalArgumentException", Cond.initialized "java/lang/IllegalArgumentException", Cond.fieldLink RX2 22 "PartitionKernel" "channels" "[LPartitionKernel$Channel;", Cond.fieldLink RX2 116 "PartitionKernel" "ticksDone" "I", Cond.methodLink RX2 110 yX2_isChannel, Cond.instanceMethod yX2_isChannel, Cond.selects RX2 yX2_isChannel yX2_isChannel, Cond.initialized RX2, Cond.code yX2_isChannel cX2_isChannel 2 (some .boolean), Cond.instanceMethod yX0_report, Cond.initialized RX0, Cond.selects RX0 yX0_report yX0_report, Cond.code yX0_report cX0_report 3 (some .int), Cond.fieldLink RX0 33 "PartitionKernel$Channel" "count" "I", Cond.fieldLink RX0 46 "PartitionKernel$Channel" "came" "I", Cond.fieldLink RX0 43 "PartitionKernel$Channel" "refused" "I", Cond.methodLink RX0 59 yX0_wordAt, Cond.instanceMethod yX0_wordAt, Cond.selects RX0 yX0_wordAt yX0_wordAt, Cond.code yX0_wordAt cX0_wordAt 2 (some .int), Cond.fieldLink RX0 9 "PartitionKernel$Channel" "words" "[I", Cond.methodLink RX0 39 yX0_spotOf, Cond.instanceMethod yX0_spotOf, Cond.selects RX0 yX0_spotOf yX0_spotOf]
def wsX2_has_r2 : List Cond := [Cond.code yX0_spotOf cX0_spotOf 2 (some .int), Cond.fieldLink RX0 49 "PartitionKernel$Channel" "first" "I", Cond.methodLink RX0 62 yX0_age, Cond.instanceMethod yX0_age, Cond.selects RX0 yX0_age yX0_age, Cond.code yX0_age cX0_age 2 (some .int), Cond.fieldLink RX0 36 "PartitionKernel$Channel" "cameAt" "I", Cond.constant RX0 52 (1000000), Cond.methodLink RX0 53 Lib.Math.min.name, Cond.static Lib.Math.min.name, Cond.initialized "java/lang/Math", Cond.code Lib.Math.min.name Lib.Math.min.code 2 (some .int), Cond.methodLink RX0 29 yX0_isSlot, Cond.instanceMethod yX0_isSlot, Cond.selects RX0 yX0_isSlot yX0_isSlot, Cond.code yX0_isSlot cX0_isSlot 1 (some .boolean), Cond.fieldLink RX0 26 "PartitionKernel$Channel" "room" "I"]
def wsX2_has : List Cond := .code yX2_has cX2_has 3 (some .int) :: ((wsX2_has_r1 ++ wsX2_has_r2) ++ wsX20 ++ wsX00 ++ (vx_atS RX2 44 "java/lang/IllegalArgumentException" ["java/lang/RuntimeException", "java/lang/Exception"]).filter goodWord)
def wsX2_queued : List Cond := .code yX2_queued cX2_queued 3 (some .int) :: ([.classLink RX2 40 "java/lang/IllegalArgumentException", .initialized "java/lang/IllegalArgumentException", .fieldLink RX2 22 "PartitionKernel" "channels" "[LPartitionKernel$Channel;", .methodLink RX2 110 yX2_isChannel, .instanceMethod yX2_isChannel, .selects RX2 yX2_isChannel yX2_isChannel, .initialized RX2, .code yX2_isChannel cX2_isChannel 2 (some .boolean), .instanceMethod yX0_isSlot, .initialized RX0, .selects RX0 yX0_isSlot yX0_isSlot, .code yX0_isSlot cX0_isSlot 1 (some .boolean), .fieldLink RX0 26 "PartitionKernel$Channel" "room" "I", .instanceMethod yX0_wordAt, .selects RX0 yX0_wordAt yX0_wordAt, .code yX0_wordAt cX0_wordAt 2 (some .int), .fieldLink RX0 33 "PartitionKernel$Channel" "count" "I", .fieldLink RX0 9 "PartitionKernel$Channel" "words" "[I", .methodLink RX0 39 yX0_spotOf, .instanceMethod yX0_spotOf, .selects RX0 yX0_spotOf yX0_spotOf, .code yX0_spotOf cX0_spotOf 2 (some .int), .fieldLink RX0 49 "PartitionKernel$Channel" "first" "I"] ++ wsX20 ++ wsX00 ++ (vx_atS RX2 44 "java/lang/IllegalArgumentException" ["java/lang/RuntimeException", "java/lang/Exception"]).filter goodWord)
def wsX2_current : List Cond := .code yX2_current cX2_current 1 (some .int) :: ([.fieldLink RX2 94 "PartitionKernel" "sealed" "Z", .fieldLink RX2 27 "PartitionKernel" "windowOwners" "[I", .fieldLink RX2 129 "PartitionKernel" "windowAtHand" "I"] ++ wsX20)
def wsX2_ticks : List Cond := .code yX2_ticks cX2_ticks 1 (some .int) :: ([.fieldLink RX2 116 "PartitionKernel" "ticksDone" "I"] ++ wsX20)
def wsX3_init_r1 : List Cond := [Cond.methodLink RX3 1 objectInit, Cond.instanceMethod objectInit, Cond.code objectInit ⟨#[0xb1]⟩ 1 none, Cond.arrayClass .int, Cond.fieldLink RX3 7 "PartitionKernelModel" "memory" "[I", Cond.fieldLink RX3 13 "PartitionKernelModel" "base" "[I", Cond.fieldLink RX3 16 "PartitionKernelModel" "length" "[I", Cond.fieldLink RX3 19 "PartitionKernelModel" "entry" "[I", Cond.fieldLink RX3 22 "PartitionKernelModel" "state" "[I", Cond.fieldLink RX3 25 "PartitionKernelModel" "place" "[I", Cond.fieldLink RX3 28 "PartitionKernelModel" "registers" "[I", Cond.fieldLink RX3 31 "PartitionKernelModel" "done" "[I", Cond.fieldLink RX3 34 "PartitionKernelModel" "restarts" "[I", Cond.fieldLink RX3 37 "PartitionKernelModel" "lastFault" "[I", Cond.fieldLink RX3 40 "PartitionKernelModel" "faults" "[I", Cond.fieldLink RX3 43 "PartitionKernelModel" "who" "[I", Cond.fieldLink RX3 46 "PartitionKernelModel" "longs" "[I", Cond.arrayClass .boolean, Cond.fieldLink RX3 49 "PartitionKernelModel" "isChannel" "[Z", Cond.fieldLink RX3 53 "PartitionKernelModel" "source" "[I", Cond.fieldLink RX3 56 "PartitionKernelModel" "target" "[I", Cond.fieldLink RX3 59 "PartitionKernelModel" "room" "[I", Cond.fieldLink RX3 62 "PartitionKernelModel" "words" "[I", Cond.fieldLink RX3 65 "PartitionKernelModel" "many" "[I"]
def wsX3_init_r2 : List Cond := [Cond.fieldLink RX3 68 "PartitionKernelModel" "age" "[I", Cond.fieldLink RX3 71 "PartitionKernelModel" "came" "[I", Cond.fieldLink RX3 74 "PartitionKernelModel" "refused" "[I"]
def wsX3_init : List Cond := .code yX3_init cX3_init 1 none :: ((wsX3_init_r1 ++ wsX3_init_r2) ++ wsX30)
def wsX3_thrown : List Cond := .code yX3_thrown cX3_thrown 1 (some .int) :: ([.fieldLink RX3 77 "PartitionKernelModel" "thrown" "I"] ++ wsX30)
def wsX3_isTold : List Cond := .code yX3_isTold cX3_isTold 2 (some .boolean) :: ([.fieldLink RX3 22 "PartitionKernelModel" "state" "[I"] ++ wsX30)
def wsX3_shares : List Cond := .code yX3_shares cX3_shares 4 (some .boolean) :: ([.fieldLink RX3 22 "PartitionKernelModel" "state" "[I", .fieldLink RX3 13 "PartitionKernelModel" "base" "[I", .fieldLink RX3 16 "PartitionKernelModel" "length" "[I"] ++ wsX30)
def wsX3_partition : List Cond := .code yX3_partition cX3_partition 7 none :: ([.fieldLink RX3 85 "PartitionKernelModel" "sealed" "Z", .fieldLink RX3 77 "PartitionKernelModel" "thrown" "I", .fieldLink RX3 13 "PartitionKernelModel" "base" "[I", .fieldLink RX3 16 "PartitionKernelModel" "length" "[I", .fieldLink RX3 19 "PartitionKernelModel" "entry" "[I", .fieldLink RX3 25 "PartitionKernelModel" "place" "[I", .fieldLink RX3 34 "PartitionKernelModel" "restarts" "[I", .fieldLink RX3 22 "PartitionKernelModel" "state" "[I", .methodLink RX3 81 yX3_isTold, .instanceMethod yX3_isTold, .selects RX3 yX3_isTold yX3_isTold, .initialized RX3, .code yX3_isTold cX3_isTold 2 (some .boolean), .methodLink RX3 89 yX3_shares, .instanceMethod yX3_shares, .selects RX3 yX3_shares yX3_shares, .code yX3_shares cX3_shares 4 (some .boolean)] ++ wsX30)
def wsX3_window : List Cond := .code yX3_window cX3_window 3 (some .int) :: ([.fieldLink RX3 85 "PartitionKernelModel" "sealed" "Z", .fieldLink RX3 93 "PartitionKernelModel" "windows" "I", .fieldLink RX3 77 "PartitionKernelModel" "thrown" "I", .fieldLink RX3 43 "PartitionKernelModel" "who" "[I", .fieldLink RX3 46 "PartitionKernelModel" "longs" "[I", .methodLink RX3 81 yX3_isTold, .instanceMethod yX3_isTold, .selects RX3 yX3_isTold yX3_isTold, .initialized RX3, .code yX3_isTold cX3_isTold 2 (some .boolean), .fieldLink RX3 22 "PartitionKernelModel" "state" "[I"] ++ wsX30)
def wsX3_channel : List Cond := .code yX3_channel cX3_channel 6 none :: ([.fieldLink RX3 49 "PartitionKernelModel" "isChannel" "[Z", .fieldLink RX3 85 "PartitionKernelModel" "sealed" "Z", .fieldLink RX3 77 "PartitionKernelModel" "thrown" "I", .fieldLink RX3 53 "PartitionKernelModel" "source" "[I", .fieldLink RX3 56 "PartitionKernelModel" "target" "[I", .fieldLink RX3 59 "PartitionKernelModel" "room" "[I", .methodLink RX3 81 yX3_isTold, .instanceMethod yX3_isTold, .selects RX3 yX3_isTold yX3_isTold, .initialized RX3, .code yX3_isTold cX3_isTold 2 (some .boolean), .fieldLink RX3 22 "PartitionKernelModel" "state" "[I"] ++ wsX30)
def wsX3_noWord : List Cond := .code yX3_noWord cX3_noWord 3 (some .boolean) :: ([.fieldLink RX3 16 "PartitionKernelModel" "length" "[I"] ++ wsX30)
def wsX3_poke : List Cond := .code yX3_poke cX3_poke 5 (some .int) :: ([.fieldLink RX3 85 "PartitionKernelModel" "sealed" "Z", .fieldLink RX3 77 "PartitionKernelModel" "thrown" "I", .fieldLink RX3 7 "PartitionKernelModel" "memory" "[I", .fieldLink RX3 13 "PartitionKernelModel" "base" "[I", .methodLink RX3 81 yX3_isTold, .instanceMethod yX3_isTold, .selects RX3 yX3_isTold yX3_isTold, .initialized RX3, .code yX3_isTold cX3_isTold 2 (some .boolean), .fieldLink RX3 22 "PartitionKernelModel" "state" "[I", .methodLink RX3 96 yX3_noWord, .instanceMethod yX3_noWord, .selects RX3 yX3_noWord yX3_noWord, .code yX3_noWord cX3_noWord 3 (some .boolean), .fieldLink RX3 16 "PartitionKernelModel" "length" "[I"] ++ wsX30)
def wsX3_peek : List Cond := .code yX3_peek cX3_peek 3 (some .int) :: ([.fieldLink RX3 77 "PartitionKernelModel" "thrown" "I", .fieldLink RX3 7 "PartitionKernelModel" "memory" "[I", .fieldLink RX3 13 "PartitionKernelModel" "base" "[I", .methodLink RX3 81 yX3_isTold, .instanceMethod yX3_isTold, .selects RX3 yX3_isTold yX3_isTold, .initialized RX3, .code yX3_isTold cX3_isTold 2 (some .boolean), .fieldLink RX3 22 "PartitionKernelModel" "state" "[I", .methodLink RX3 96 yX3_noWord, .instanceMethod yX3_noWord, .selects RX3 yX3_noWord yX3_noWord, .code yX3_noWord cX3_noWord 3 (some .boolean), .fieldLink RX3 16 "PartitionKernelModel" "length" "[I"] ++ wsX30)
def wsX3_seal : List Cond := .code yX3_seal cX3_seal 3 (some .int) :: ([.fieldLink RX3 85 "PartitionKernelModel" "sealed" "Z", .fieldLink RX3 93 "PartitionKernelModel" "windows" "I", .fieldLink RX3 77 "PartitionKernelModel" "thrown" "I", .fieldLink RX3 46 "PartitionKernelModel" "longs" "[I", .fieldLink RX3 99 "PartitionKernelModel" "left" "I"] ++ wsX30)
def wsX3_send : List Cond := .code yX3_send cX3_send 5 none :: ([.fieldLink RX3 49 "PartitionKernelModel" "isChannel" "[Z", .fieldLink RX3 53 "PartitionKernelModel" "source" "[I", .fieldLink RX3 102 "PartitionKernelModel" "fault" "I", .fieldLink RX3 59 "PartitionKernelModel" "room" "[I", .fieldLink RX3 62 "PartitionKernelModel" "words" "[I", .fieldLink RX3 28 "PartitionKernelModel" "registers" "[I", .fieldLink RX3 65 "PartitionKernelModel" "many" "[I", .fieldLink RX3 68 "PartitionKernelModel" "age" "[I", .fieldLink RX3 71 "PartitionKernelModel" "came" "[I", .fieldLink RX3 74 "PartitionKernelModel" "refused" "[I"] ++ wsX30)
def wsX3_take : List Cond := .code yX3_take cX3_take 6 none :: ([.fieldLink RX3 49 "PartitionKernelModel" "isChannel" "[Z", .fieldLink RX3 56 "PartitionKernelModel" "target" "[I", .fieldLink RX3 102 "PartitionKernelModel" "fault" "I", .fieldLink RX3 65 "PartitionKernelModel" "many" "[I", .fieldLink RX3 28 "PartitionKernelModel" "registers" "[I", .fieldLink RX3 62 "PartitionKernelModel" "words" "[I", .fieldLink RX3 59 "PartitionKernelModel" "room" "[I", .fieldLink RX3 68 "PartitionKernelModel" "age" "[I"] ++ wsX30)
def wsX3_act_r1 : List Cond := [Cond.fieldLink RX3 28 "PartitionKernelModel" "registers" "[I", Cond.fieldLink RX3 25 "PartitionKernelModel" "place" "[I", Cond.fieldLink RX3 22 "PartitionKernelModel" "state" "[I", Cond.fieldLink RX3 102 "PartitionKernelModel" "fault" "I", Cond.fieldLink RX3 7 "PartitionKernelModel" "memory" "[I", Cond.fieldLink RX3 13 "PartitionKernelModel" "base" "[I", Cond.fieldLink RX3 112 "PartitionKernelModel" "yielded" "Z", Cond.fieldLink RX3 31 "PartitionKernelModel" "done" "[I", Cond.methodLink RX3 96 yX3_noWord, Cond.instanceMethod yX3_noWord, Cond.selects RX3 yX3_noWord yX3_noWord, Cond.initialized RX3, Cond.code yX3_noWord cX3_noWord 3 (some .boolean), Cond.fieldLink RX3 16 "PartitionKernelModel" "length" "[I", Cond.methodLink RX3 105 yX3_send, Cond.instanceMethod yX3_send, Cond.selects RX3 yX3_send yX3_send, Cond.code yX3_send cX3_send 5 none, Cond.fieldLink RX3 49 "PartitionKernelModel" "isChannel" "[Z", Cond.fieldLink RX3 53 "PartitionKernelModel" "source" "[I", Cond.fieldLink RX3 59 "PartitionKernelModel" "room" "[I", Cond.fieldLink RX3 62 "PartitionKernelModel" "words" "[I", Cond.fieldLink RX3 65 "PartitionKernelModel" "many" "[I", Cond.fieldLink RX3 68 "PartitionKernelModel" "age" "[I"]
def wsX3_act_r2 : List Cond := [Cond.fieldLink RX3 71 "PartitionKernelModel" "came" "[I", Cond.fieldLink RX3 74 "PartitionKernelModel" "refused" "[I", Cond.methodLink RX3 109 yX3_take, Cond.instanceMethod yX3_take, Cond.selects RX3 yX3_take yX3_take, Cond.code yX3_take cX3_take 6 none, Cond.fieldLink RX3 56 "PartitionKernelModel" "target" "[I"]
def wsX3_act : List Cond := .code yX3_act cX3_act 12 none :: ((wsX3_act_r1 ++ wsX3_act_r2) ++ wsX30)
def wsX3_instruction_r1 : List Cond := [Cond.fieldLink RX3 102 "PartitionKernelModel" "fault" "I", Cond.fieldLink RX3 25 "PartitionKernelModel" "place" "[I", Cond.fieldLink RX3 7 "PartitionKernelModel" "memory" "[I", Cond.fieldLink RX3 13 "PartitionKernelModel" "base" "[I", Cond.fieldLink RX3 31 "PartitionKernelModel" "done" "[I", Cond.fieldLink RX3 37 "PartitionKernelModel" "lastFault" "[I", Cond.fieldLink RX3 40 "PartitionKernelModel" "faults" "[I", Cond.fieldLink RX3 34 "PartitionKernelModel" "restarts" "[I", Cond.fieldLink RX3 22 "PartitionKernelModel" "state" "[I", Cond.fieldLink RX3 28 "PartitionKernelModel" "registers" "[I", Cond.fieldLink RX3 19 "PartitionKernelModel" "entry" "[I", Cond.fieldLink RX3 112 "PartitionKernelModel" "yielded" "Z", Cond.methodLink RX3 96 yX3_noWord, Cond.instanceMethod yX3_noWord, Cond.selects RX3 yX3_noWord yX3_noWord, Cond.initialized RX3, Cond.code yX3_noWord cX3_noWord 3 (some .boolean), Cond.fieldLink RX3 16 "PartitionKernelModel" "length" "[I", Cond.methodLink RX3 115 yX3_act, Cond.instanceMethod yX3_act, Cond.selects RX3 yX3_act yX3_act, Cond.code yX3_act cX3_act 12 none, Cond.methodLink RX3 105 yX3_send, Cond.instanceMethod yX3_send]
def wsX3_instruction_r2 : List Cond := [Cond.selects RX3 yX3_send yX3_send, Cond.code yX3_send cX3_send 5 none, Cond.fieldLink RX3 49 "PartitionKernelModel" "isChannel" "[Z", Cond.fieldLink RX3 53 "PartitionKernelModel" "source" "[I", Cond.fieldLink RX3 59 "PartitionKernelModel" "room" "[I", Cond.fieldLink RX3 62 "PartitionKernelModel" "words" "[I", Cond.fieldLink RX3 65 "PartitionKernelModel" "many" "[I", Cond.fieldLink RX3 68 "PartitionKernelModel" "age" "[I", Cond.fieldLink RX3 71 "PartitionKernelModel" "came" "[I", Cond.fieldLink RX3 74 "PartitionKernelModel" "refused" "[I", Cond.methodLink RX3 109 yX3_take, Cond.instanceMethod yX3_take, Cond.selects RX3 yX3_take yX3_take, Cond.code yX3_take cX3_take 6 none, Cond.fieldLink RX3 56 "PartitionKernelModel" "target" "[I"]
def wsX3_instruction : List Cond := .code yX3_instruction cX3_instruction 3 none :: ((wsX3_instruction_r1 ++ wsX3_instruction_r2) ++ wsX30)
def wsX3_step_r1 : List Cond := [Cond.fieldLink RX3 85 "PartitionKernelModel" "sealed" "Z", Cond.fieldLink RX3 77 "PartitionKernelModel" "thrown" "I", Cond.fieldLink RX3 68 "PartitionKernelModel" "age" "[I", Cond.fieldLink RX3 59 "PartitionKernelModel" "room" "[I", Cond.fieldLink RX3 65 "PartitionKernelModel" "many" "[I", Cond.constant RX3 119 (1000000), Cond.fieldLink RX3 43 "PartitionKernelModel" "who" "[I", Cond.fieldLink RX3 120 "PartitionKernelModel" "at" "I", Cond.fieldLink RX3 22 "PartitionKernelModel" "state" "[I", Cond.fieldLink RX3 112 "PartitionKernelModel" "yielded" "Z", Cond.fieldLink RX3 99 "PartitionKernelModel" "left" "I", Cond.fieldLink RX3 93 "PartitionKernelModel" "windows" "I", Cond.fieldLink RX3 46 "PartitionKernelModel" "longs" "[I", Cond.fieldLink RX3 127 "PartitionKernelModel" "ticks" "I", Cond.methodLink RX3 123 yX3_instruction, Cond.instanceMethod yX3_instruction, Cond.selects RX3 yX3_instruction yX3_instruction, Cond.initialized RX3, Cond.code yX3_instruction cX3_instruction 3 none, Cond.fieldLink RX3 102 "PartitionKernelModel" "fault" "I", Cond.fieldLink RX3 25 "PartitionKernelModel" "place" "[I", Cond.fieldLink RX3 7 "PartitionKernelModel" "memory" "[I", Cond.fieldLink RX3 13 "PartitionKernelModel" "base" "[I", Cond.fieldLink RX3 31 "PartitionKernelModel" "done" "[I"]
def wsX3_step_r2 : List Cond := [Cond.fieldLink RX3 37 "PartitionKernelModel" "lastFault" "[I", Cond.fieldLink RX3 40 "PartitionKernelModel" "faults" "[I", Cond.fieldLink RX3 34 "PartitionKernelModel" "restarts" "[I", Cond.fieldLink RX3 28 "PartitionKernelModel" "registers" "[I", Cond.fieldLink RX3 19 "PartitionKernelModel" "entry" "[I", Cond.methodLink RX3 96 yX3_noWord, Cond.instanceMethod yX3_noWord, Cond.selects RX3 yX3_noWord yX3_noWord, Cond.code yX3_noWord cX3_noWord 3 (some .boolean), Cond.fieldLink RX3 16 "PartitionKernelModel" "length" "[I", Cond.methodLink RX3 115 yX3_act, Cond.instanceMethod yX3_act, Cond.selects RX3 yX3_act yX3_act, Cond.code yX3_act cX3_act 12 none, Cond.methodLink RX3 105 yX3_send, Cond.instanceMethod yX3_send, Cond.selects RX3 yX3_send yX3_send, Cond.code yX3_send cX3_send 5 none, Cond.fieldLink RX3 49 "PartitionKernelModel" "isChannel" "[Z", Cond.fieldLink RX3 53 "PartitionKernelModel" "source" "[I", Cond.fieldLink RX3 62 "PartitionKernelModel" "words" "[I", Cond.fieldLink RX3 71 "PartitionKernelModel" "came" "[I", Cond.fieldLink RX3 74 "PartitionKernelModel" "refused" "[I", Cond.methodLink RX3 109 yX3_take]
def wsX3_step_r3 : List Cond := [Cond.instanceMethod yX3_take, Cond.selects RX3 yX3_take yX3_take, Cond.code yX3_take cX3_take 6 none, Cond.fieldLink RX3 56 "PartitionKernelModel" "target" "[I"]
def wsX3_step : List Cond := .code yX3_step cX3_step 5 (some .int) :: ((wsX3_step_r1 ++ (wsX3_step_r2 ++ wsX3_step_r3)) ++ wsX30)
def wsX3_told : List Cond := .code yX3_told cX3_told 3 (some .int) :: ([.fieldLink RX3 77 "PartitionKernelModel" "thrown" "I", .fieldLink RX3 22 "PartitionKernelModel" "state" "[I", .fieldLink RX3 28 "PartitionKernelModel" "registers" "[I", .fieldLink RX3 25 "PartitionKernelModel" "place" "[I", .fieldLink RX3 31 "PartitionKernelModel" "done" "[I", .fieldLink RX3 34 "PartitionKernelModel" "restarts" "[I", .fieldLink RX3 37 "PartitionKernelModel" "lastFault" "[I", .fieldLink RX3 40 "PartitionKernelModel" "faults" "[I"] ++ wsX30)
def wsX3_noChannel : List Cond := .code yX3_noChannel cX3_noChannel 2 (some .boolean) :: ([.fieldLink RX3 49 "PartitionKernelModel" "isChannel" "[Z"] ++ wsX30)
def wsX3_has : List Cond := .code yX3_has cX3_has 3 (some .int) :: ([.fieldLink RX3 77 "PartitionKernelModel" "thrown" "I", .fieldLink RX3 65 "PartitionKernelModel" "many" "[I", .fieldLink RX3 62 "PartitionKernelModel" "words" "[I", .fieldLink RX3 59 "PartitionKernelModel" "room" "[I", .fieldLink RX3 68 "PartitionKernelModel" "age" "[I", .fieldLink RX3 71 "PartitionKernelModel" "came" "[I", .fieldLink RX3 74 "PartitionKernelModel" "refused" "[I", .methodLink RX3 130 yX3_noChannel, .instanceMethod yX3_noChannel, .selects RX3 yX3_noChannel yX3_noChannel, .initialized RX3, .code yX3_noChannel cX3_noChannel 2 (some .boolean), .fieldLink RX3 49 "PartitionKernelModel" "isChannel" "[Z"] ++ wsX30)
def wsX3_queued : List Cond := .code yX3_queued cX3_queued 3 (some .int) :: ([.fieldLink RX3 77 "PartitionKernelModel" "thrown" "I", .fieldLink RX3 59 "PartitionKernelModel" "room" "[I", .fieldLink RX3 65 "PartitionKernelModel" "many" "[I", .fieldLink RX3 62 "PartitionKernelModel" "words" "[I", .methodLink RX3 130 yX3_noChannel, .instanceMethod yX3_noChannel, .selects RX3 yX3_noChannel yX3_noChannel, .initialized RX3, .code yX3_noChannel cX3_noChannel 2 (some .boolean), .fieldLink RX3 49 "PartitionKernelModel" "isChannel" "[Z"] ++ wsX30)
def wsX3_current : List Cond := .code yX3_current cX3_current 1 (some .int) :: ([.fieldLink RX3 77 "PartitionKernelModel" "thrown" "I", .fieldLink RX3 85 "PartitionKernelModel" "sealed" "Z", .fieldLink RX3 43 "PartitionKernelModel" "who" "[I", .fieldLink RX3 120 "PartitionKernelModel" "at" "I"] ++ wsX30)
def wsX3_ticks : List Cond := .code yX3_ticks cX3_ticks 1 (some .int) :: ([.fieldLink RX3 77 "PartitionKernelModel" "thrown" "I", .fieldLink RX3 127 "PartitionKernelModel" "ticks" "I"] ++ wsX30)
def wsJ9_min_7cf53 : List Cond := .code yJ9_min_7cf53 cJ9_min_7cf53 2 (some .int) :: ([])
def wsL_partition_r1 : List Cond := [Cond.classLink RL 13 "java/lang/IllegalStateException", Cond.classLink RL 15 "java/lang/IllegalArgumentException", Cond.methodLink RL 7 yX2_partition, Cond.instanceMethod yX2_partition, Cond.selects RX2 yX2_partition yX2_partition, Cond.initialized RX2, Cond.code yX2_partition cX2_partition 6 none, Cond.classLink RX2 40 "java/lang/IllegalArgumentException", Cond.initialized "java/lang/IllegalArgumentException", Cond.fieldLink RX2 15 "PartitionKernel" "partitions" "[LPartitionKernel$Partition;", Cond.methodLink RX2 33 yX2_refuseIfSealed, Cond.instanceMethod yX2_refuseIfSealed, Cond.selects RX2 yX2_refuseIfSealed yX2_refuseIfSealed, Cond.code yX2_refuseIfSealed cX2_refuseIfSealed 1 none, Cond.classLink RX2 89 "java/lang/IllegalStateException", Cond.initialized "java/lang/IllegalStateException", Cond.fieldLink RX2 94 "PartitionKernel" "sealed" "Z", Cond.instanceMethod yX1_isTold, Cond.initialized RX1, Cond.selects RX1 yX1_isTold yX1_isTold, Cond.code yX1_isTold cX1_isTold 1 (some .boolean), Cond.fieldLink RX1 15 "PartitionKernel$Partition" "state" "I", Cond.methodLink RX2 47 yX2_isInMemory, Cond.static yX2_isInMemory]
def wsL_partition_r2 : List Cond := [Cond.code yX2_isInMemory cX2_isInMemory 2 (some .boolean), Cond.methodLink RX2 51 yX2_sharesWord, Cond.instanceMethod yX2_sharesWord, Cond.selects RX2 yX2_sharesWord yX2_sharesWord, Cond.code yX2_sharesWord cX2_sharesWord 4 (some .boolean), Cond.instanceMethod yX1_meets, Cond.selects RX1 yX1_meets yX1_meets, Cond.code yX1_meets cX1_meets 3 (some .boolean), Cond.fieldLink RX1 19 "PartitionKernel$Partition" "base" "I", Cond.fieldLink RX1 22 "PartitionKernel$Partition" "length" "I", Cond.methodLink RX1 34 yX1_isTold, Cond.instanceMethod yX1_tell, Cond.selects RX1 yX1_tell yX1_tell, Cond.code yX1_tell cX1_tell 5 none, Cond.fieldLink RX1 25 "PartitionKernel$Partition" "entry" "I", Cond.fieldLink RX1 28 "PartitionKernel$Partition" "place" "I", Cond.fieldLink RX1 31 "PartitionKernel$Partition" "restartsLeft" "I"]
def wsL_partition : List Cond := .codeWith yL_partition cL_partition 7 (some .int) [(0, 11, 14, 13), (0, 11, 18, 15)] :: ((wsL_partition_r1 ++ wsL_partition_r2) ++ wsX20 ++ wsX10 ++ (vx_atS RX2 44 "java/lang/IllegalArgumentException" ["java/lang/RuntimeException", "java/lang/Exception"]).filter goodWord ++ (vx_atS RX2 93 "java/lang/IllegalStateException" ["java/lang/RuntimeException", "java/lang/Exception"]).filter goodWord)
def wsL_window_r1 : List Cond := [Cond.classLink RL 13 "java/lang/IllegalStateException", Cond.classLink RL 15 "java/lang/IllegalArgumentException", Cond.methodLink RL 17 yX2_window, Cond.instanceMethod yX2_window, Cond.selects RX2 yX2_window yX2_window, Cond.initialized RX2, Cond.code yX2_window cX2_window 3 (some .int), Cond.classLink RX2 40 "java/lang/IllegalArgumentException", Cond.initialized "java/lang/IllegalArgumentException", Cond.fieldLink RX2 66 "PartitionKernel" "windowCount" "I", Cond.fieldLink RX2 27 "PartitionKernel" "windowOwners" "[I", Cond.fieldLink RX2 30 "PartitionKernel" "windowLengths" "[I", Cond.fieldLink RX2 72 "PartitionKernel" "frameTicks" "I", Cond.methodLink RX2 33 yX2_refuseIfSealed, Cond.instanceMethod yX2_refuseIfSealed, Cond.selects RX2 yX2_refuseIfSealed yX2_refuseIfSealed, Cond.code yX2_refuseIfSealed cX2_refuseIfSealed 1 none, Cond.classLink RX2 89 "java/lang/IllegalStateException", Cond.initialized "java/lang/IllegalStateException", Cond.fieldLink RX2 94 "PartitionKernel" "sealed" "Z", Cond.methodLink RX2 62 yX2_refuseUnlessTold, Cond.instanceMethod yX2_refuseUnlessTold, Cond.selects RX2 yX2_refuseUnlessTold yX2_refuseUnlessTold, Cond.code yX2_refuseUnlessTold cX2_refuseUnlessTold 2 none]
def wsL_window_r2 : List Cond := [Cond.fieldLink RX2 15 "PartitionKernel" "partitions" "[LPartitionKernel$Partition;", Cond.instanceMethod yX1_isTold, Cond.initialized RX1, Cond.selects RX1 yX1_isTold yX1_isTold, Cond.code yX1_isTold cX1_isTold 1 (some .boolean), Cond.fieldLink RX1 15 "PartitionKernel$Partition" "state" "I"]
def wsL_window : List Cond := .codeWith yL_window cL_window 5 (some .int) [(0, 10, 13, 13), (0, 10, 17, 15)] :: ((wsL_window_r1 ++ wsL_window_r2) ++ wsX20 ++ wsX10 ++ (vx_atS RX2 44 "java/lang/IllegalArgumentException" ["java/lang/RuntimeException", "java/lang/Exception"]).filter goodWord ++ (vx_atS RX2 93 "java/lang/IllegalStateException" ["java/lang/RuntimeException", "java/lang/Exception"]).filter goodWord)
def wsL_channel_r1 : List Cond := [Cond.classLink RL 13 "java/lang/IllegalStateException", Cond.classLink RL 15 "java/lang/IllegalArgumentException", Cond.methodLink RL 21 yX2_channel, Cond.instanceMethod yX2_channel, Cond.selects RX2 yX2_channel yX2_channel, Cond.initialized RX2, Cond.code yX2_channel cX2_channel 5 none, Cond.classLink RX2 40 "java/lang/IllegalArgumentException", Cond.initialized "java/lang/IllegalArgumentException", Cond.fieldLink RX2 22 "PartitionKernel" "channels" "[LPartitionKernel$Channel;", Cond.methodLink RX2 33 yX2_refuseIfSealed, Cond.instanceMethod yX2_refuseIfSealed, Cond.selects RX2 yX2_refuseIfSealed yX2_refuseIfSealed, Cond.code yX2_refuseIfSealed cX2_refuseIfSealed 1 none, Cond.classLink RX2 89 "java/lang/IllegalStateException", Cond.initialized "java/lang/IllegalStateException", Cond.fieldLink RX2 94 "PartitionKernel" "sealed" "Z", Cond.methodLink RX2 62 yX2_refuseUnlessTold, Cond.instanceMethod yX2_refuseUnlessTold, Cond.selects RX2 yX2_refuseUnlessTold yX2_refuseUnlessTold, Cond.code yX2_refuseUnlessTold cX2_refuseUnlessTold 2 none, Cond.fieldLink RX2 15 "PartitionKernel" "partitions" "[LPartitionKernel$Partition;", Cond.instanceMethod yX1_isTold, Cond.initialized RX1]
def wsL_channel_r2 : List Cond := [Cond.selects RX1 yX1_isTold yX1_isTold, Cond.code yX1_isTold cX1_isTold 1 (some .boolean), Cond.fieldLink RX1 15 "PartitionKernel$Partition" "state" "I", Cond.instanceMethod yX0_tell, Cond.initialized RX0, Cond.selects RX0 yX0_tell yX0_tell, Cond.code yX0_tell cX0_tell 4 none, Cond.fieldLink RX0 15 "PartitionKernel$Channel" "isTold" "Z", Cond.fieldLink RX0 19 "PartitionKernel$Channel" "from" "I", Cond.fieldLink RX0 23 "PartitionKernel$Channel" "to" "I", Cond.fieldLink RX0 26 "PartitionKernel$Channel" "room" "I"]
def wsL_channel : List Cond := .codeWith yL_channel cL_channel 6 (some .int) [(0, 9, 12, 13), (0, 9, 16, 15)] :: ((wsL_channel_r1 ++ wsL_channel_r2) ++ wsX20 ++ wsX00 ++ wsX10 ++ (vx_atS RX2 44 "java/lang/IllegalArgumentException" ["java/lang/RuntimeException", "java/lang/Exception"]).filter goodWord ++ (vx_atS RX2 93 "java/lang/IllegalStateException" ["java/lang/RuntimeException", "java/lang/Exception"]).filter goodWord)
def wsL_poke_r1 : List Cond := [Cond.classLink RL 13 "java/lang/IllegalStateException", Cond.classLink RL 15 "java/lang/IllegalArgumentException", Cond.classLink RL 29 "java/lang/IndexOutOfBoundsException", Cond.methodLink RL 25 yX2_poke, Cond.instanceMethod yX2_poke, Cond.selects RX2 yX2_poke yX2_poke, Cond.initialized RX2, Cond.code yX2_poke cX2_poke 6 (some .int), Cond.fieldLink RX2 9 "PartitionKernel" "memory" "[I", Cond.methodLink RX2 33 yX2_refuseIfSealed, Cond.instanceMethod yX2_refuseIfSealed, Cond.selects RX2 yX2_refuseIfSealed yX2_refuseIfSealed, Cond.code yX2_refuseIfSealed cX2_refuseIfSealed 1 none, Cond.classLink RX2 89 "java/lang/IllegalStateException", Cond.initialized "java/lang/IllegalStateException", Cond.fieldLink RX2 94 "PartitionKernel" "sealed" "Z", Cond.methodLink RX2 85 yX2_addressOf, Cond.instanceMethod yX2_addressOf, Cond.selects RX2 yX2_addressOf yX2_addressOf, Cond.code yX2_addressOf cX2_addressOf 3 (some .int), Cond.classLink RX2 141 "java/lang/IndexOutOfBoundsException", Cond.initialized "java/lang/IndexOutOfBoundsException", Cond.fieldLink RX2 15 "PartitionKernel" "partitions" "[LPartitionKernel$Partition;", Cond.methodLink RX2 62 yX2_refuseUnlessTold]
def wsL_poke_r2 : List Cond := [Cond.instanceMethod yX2_refuseUnlessTold, Cond.selects RX2 yX2_refuseUnlessTold yX2_refuseUnlessTold, Cond.code yX2_refuseUnlessTold cX2_refuseUnlessTold 2 none, Cond.classLink RX2 40 "java/lang/IllegalArgumentException", Cond.initialized "java/lang/IllegalArgumentException", Cond.instanceMethod yX1_isTold, Cond.initialized RX1, Cond.selects RX1 yX1_isTold yX1_isTold, Cond.code yX1_isTold cX1_isTold 1 (some .boolean), Cond.fieldLink RX1 15 "PartitionKernel$Partition" "state" "I", Cond.instanceMethod yX1_holds, Cond.selects RX1 yX1_holds yX1_holds, Cond.code yX1_holds cX1_holds 2 (some .boolean), Cond.fieldLink RX1 22 "PartitionKernel$Partition" "length" "I"]
def wsL_poke : List Cond := .codeWith yL_poke cL_poke 6 (some .int) [(0, 12, 15, 13), (0, 12, 19, 15), (0, 12, 23, 29)] :: ((wsL_poke_r1 ++ wsL_poke_r2) ++ wsX20 ++ wsX10 ++ (vx_atS RX2 93 "java/lang/IllegalStateException" ["java/lang/RuntimeException", "java/lang/Exception"]).filter goodWord ++ (vx_atS RX2 145 "java/lang/IndexOutOfBoundsException" ["java/lang/RuntimeException", "java/lang/Exception"]).filter goodWord ++ (vx_atS RX2 44 "java/lang/IllegalArgumentException" ["java/lang/RuntimeException", "java/lang/Exception"]).filter goodWord)
def wsL_peek_r1 : List Cond := [Cond.classLink RL 15 "java/lang/IllegalArgumentException", Cond.classLink RL 29 "java/lang/IndexOutOfBoundsException", Cond.methodLink RL 31 yX2_peek, Cond.instanceMethod yX2_peek, Cond.selects RX2 yX2_peek yX2_peek, Cond.initialized RX2, Cond.code yX2_peek cX2_peek 3 (some .int), Cond.fieldLink RX2 9 "PartitionKernel" "memory" "[I", Cond.methodLink RX2 85 yX2_addressOf, Cond.instanceMethod yX2_addressOf, Cond.selects RX2 yX2_addressOf yX2_addressOf, Cond.code yX2_addressOf cX2_addressOf 3 (some .int), Cond.classLink RX2 141 "java/lang/IndexOutOfBoundsException", Cond.initialized "java/lang/IndexOutOfBoundsException", Cond.fieldLink RX2 15 "PartitionKernel" "partitions" "[LPartitionKernel$Partition;", Cond.methodLink RX2 62 yX2_refuseUnlessTold, Cond.instanceMethod yX2_refuseUnlessTold, Cond.selects RX2 yX2_refuseUnlessTold yX2_refuseUnlessTold, Cond.code yX2_refuseUnlessTold cX2_refuseUnlessTold 2 none, Cond.classLink RX2 40 "java/lang/IllegalArgumentException", Cond.initialized "java/lang/IllegalArgumentException", Cond.instanceMethod yX1_isTold, Cond.initialized RX1, Cond.selects RX1 yX1_isTold yX1_isTold]
def wsL_peek_r2 : List Cond := [Cond.code yX1_isTold cX1_isTold 1 (some .boolean), Cond.fieldLink RX1 15 "PartitionKernel$Partition" "state" "I", Cond.instanceMethod yX1_holds, Cond.selects RX1 yX1_holds yX1_holds, Cond.code yX1_holds cX1_holds 2 (some .boolean), Cond.fieldLink RX1 22 "PartitionKernel$Partition" "length" "I"]
def wsL_peek : List Cond := .codeWith yL_peek cL_peek 5 (some .int) [(0, 10, 13, 15), (0, 10, 17, 29)] :: ((wsL_peek_r1 ++ wsL_peek_r2) ++ wsX20 ++ wsX10 ++ (vx_atS RX2 145 "java/lang/IndexOutOfBoundsException" ["java/lang/RuntimeException", "java/lang/Exception"]).filter goodWord ++ (vx_atS RX2 44 "java/lang/IllegalArgumentException" ["java/lang/RuntimeException", "java/lang/Exception"]).filter goodWord)
def wsL_seal : List Cond := .codeWith yL_seal cL_seal 3 (some .int) [(0, 8, 11, 13)] :: ([.classLink RL 13 "java/lang/IllegalStateException", .methodLink RL 34 yX2_seal, .instanceMethod yX2_seal, .selects RX2 yX2_seal yX2_seal, .initialized RX2, .code yX2_seal cX2_seal 1 (some .int), .classLink RX2 89 "java/lang/IllegalStateException", .initialized "java/lang/IllegalStateException", .fieldLink RX2 66 "PartitionKernel" "windowCount" "I", .fieldLink RX2 94 "PartitionKernel" "sealed" "Z", .fieldLink RX2 72 "PartitionKernel" "frameTicks" "I", .methodLink RX2 33 yX2_refuseIfSealed, .instanceMethod yX2_refuseIfSealed, .selects RX2 yX2_refuseIfSealed yX2_refuseIfSealed, .code yX2_refuseIfSealed cX2_refuseIfSealed 1 none] ++ wsX20 ++ (vx_atS RX2 93 "java/lang/IllegalStateException" ["java/lang/RuntimeException", "java/lang/Exception"]).filter goodWord)
def wsL_step_r1 : List Cond := [Cond.classLink RL 13 "java/lang/IllegalStateException", Cond.classLink RL 15 "java/lang/IllegalArgumentException", Cond.methodLink RL 38 yX2_step, Cond.instanceMethod yX2_step, Cond.selects RX2 yX2_step yX2_step, Cond.initialized RX2, Cond.code yX2_step cX2_step 4 (some .int), Cond.classLink RX2 89 "java/lang/IllegalStateException", Cond.initialized "java/lang/IllegalStateException", Cond.classLink RX2 40 "java/lang/IllegalArgumentException", Cond.initialized "java/lang/IllegalArgumentException", Cond.fieldLink RX2 94 "PartitionKernel" "sealed" "Z", Cond.methodLink RX2 101 yX2_goOneTick, Cond.instanceMethod yX2_goOneTick, Cond.selects RX2 yX2_goOneTick yX2_goOneTick, Cond.code yX2_goOneTick cX2_goOneTick 3 (some .boolean), Cond.fieldLink RX2 116 "PartitionKernel" "ticksDone" "I", Cond.fieldLink RX2 27 "PartitionKernel" "windowOwners" "[I", Cond.fieldLink RX2 129 "PartitionKernel" "windowAtHand" "I", Cond.fieldLink RX2 149 "PartitionKernel" "yielded" "Z", Cond.fieldLink RX2 15 "PartitionKernel" "partitions" "[LPartitionKernel$Partition;", Cond.methodLink RX2 155 yX2_runInstruction, Cond.instanceMethod yX2_runInstruction, Cond.selects RX2 yX2_runInstruction yX2_runInstruction]
def wsL_step_r2 : List Cond := [Cond.code yX2_runInstruction cX2_runInstruction 5 none, Cond.fieldLink RX2 9 "PartitionKernel" "memory" "[I", Cond.instanceMethod yX1_holds, Cond.initialized RX1, Cond.selects RX1 yX1_holds yX1_holds, Cond.code yX1_holds cX1_holds 2 (some .boolean), Cond.fieldLink RX1 22 "PartitionKernel$Partition" "length" "I", Cond.methodLink RX2 167 yX2_perform, Cond.instanceMethod yX2_perform, Cond.selects RX2 yX2_perform yX2_perform, Cond.code yX2_perform cX2_perform 8 (some .int), Cond.methodLink RX2 179 yX2_load, Cond.instanceMethod yX2_load, Cond.selects RX2 yX2_load yX2_load, Cond.code yX2_load cX2_load 4 (some .int), Cond.methodLink RX2 183 yX2_store, Cond.instanceMethod yX2_store, Cond.selects RX2 yX2_store yX2_store, Cond.code yX2_store cX2_store 4 (some .int), Cond.instanceMethod yX1_jumpIf, Cond.selects RX1 yX1_jumpIf yX1_jumpIf, Cond.code yX1_jumpIf cX1_jumpIf 3 none, Cond.fieldLink RX1 28 "PartitionKernel$Partition" "place" "I", Cond.methodLink RX2 190 yX2_send]
def wsL_step_r3 : List Cond := [Cond.instanceMethod yX2_send, Cond.selects RX2 yX2_send yX2_send, Cond.code yX2_send cX2_send 6 (some .int), Cond.fieldLink RX2 22 "PartitionKernel" "channels" "[LPartitionKernel$Channel;", Cond.methodLink RX2 110 yX2_isChannel, Cond.instanceMethod yX2_isChannel, Cond.selects RX2 yX2_isChannel yX2_isChannel, Cond.code yX2_isChannel cX2_isChannel 2 (some .boolean), Cond.instanceMethod yX0_put, Cond.initialized RX0, Cond.selects RX0 yX0_put yX0_put, Cond.code yX0_put cX0_put 3 (some .boolean), Cond.fieldLink RX0 9 "PartitionKernel$Channel" "words" "[I", Cond.fieldLink RX0 33 "PartitionKernel$Channel" "count" "I", Cond.fieldLink RX0 36 "PartitionKernel$Channel" "cameAt" "I", Cond.fieldLink RX0 26 "PartitionKernel$Channel" "room" "I", Cond.fieldLink RX0 43 "PartitionKernel$Channel" "refused" "I", Cond.fieldLink RX0 46 "PartitionKernel$Channel" "came" "I", Cond.methodLink RX0 29 yX0_isSlot, Cond.instanceMethod yX0_isSlot, Cond.selects RX0 yX0_isSlot yX0_isSlot, Cond.code yX0_isSlot cX0_isSlot 1 (some .boolean), Cond.methodLink RX0 39 yX0_spotOf, Cond.instanceMethod yX0_spotOf]
def wsL_step_r4 : List Cond := [Cond.selects RX0 yX0_spotOf yX0_spotOf, Cond.code yX0_spotOf cX0_spotOf 2 (some .int), Cond.fieldLink RX0 49 "PartitionKernel$Channel" "first" "I", Cond.methodLink RX2 194 yX2_take, Cond.instanceMethod yX2_take, Cond.selects RX2 yX2_take yX2_take, Cond.code yX2_take cX2_take 7 (some .int), Cond.instanceMethod yX0_wordAt, Cond.selects RX0 yX0_wordAt yX0_wordAt, Cond.code yX0_wordAt cX0_wordAt 2 (some .int), Cond.instanceMethod yX0_age, Cond.selects RX0 yX0_age yX0_age, Cond.code yX0_age cX0_age 2 (some .int), Cond.constant RX0 52 (1000000), Cond.methodLink RX0 53 Lib.Math.min.name, Cond.static Lib.Math.min.name, Cond.initialized "java/lang/Math", Cond.code Lib.Math.min.name Lib.Math.min.code 2 (some .int), Cond.instanceMethod yX0_dropTaken, Cond.selects RX0 yX0_dropTaken yX0_dropTaken, Cond.code yX0_dropTaken cX0_dropTaken 1 none, Cond.methodLink RX2 197 yX2_computed, Cond.static yX2_computed, Cond.code yX2_computed cX2_computed 4 (some .int)]
def wsL_step_r5 : List Cond := [Cond.instanceMethod yX1_restartAfter, Cond.selects RX1 yX1_restartAfter yX1_restartAfter, Cond.code yX1_restartAfter cX1_restartAfter 2 (some .boolean), Cond.fieldLink RX1 38 "PartitionKernel$Partition" "lastFault" "I", Cond.fieldLink RX1 41 "PartitionKernel$Partition" "faults" "I", Cond.fieldLink RX1 31 "PartitionKernel$Partition" "restartsLeft" "I", Cond.fieldLink RX1 15 "PartitionKernel$Partition" "state" "I", Cond.fieldLink RX1 9 "PartitionKernel$Partition" "registers" "[I", Cond.fieldLink RX1 25 "PartitionKernel$Partition" "entry" "I", Cond.methodLink RX1 44 yJ7_fill_53178, Cond.static yJ7_fill_53178, Cond.initialized RJ7, Cond.code yJ7_fill_53178 cJ7_fill_53178 4 none, Cond.methodLink RX2 158 yX2_moveWindowOn, Cond.instanceMethod yX2_moveWindowOn, Cond.selects RX2 yX2_moveWindowOn yX2_moveWindowOn, Cond.code yX2_moveWindowOn cX2_moveWindowOn 1 none, Cond.fieldLink RX2 161 "PartitionKernel" "ticksIntoWindow" "I", Cond.fieldLink RX2 30 "PartitionKernel" "windowLengths" "[I", Cond.fieldLink RX2 66 "PartitionKernel" "windowCount" "I"]
def wsL_step : List Cond := .codeWith yL_step cL_step 4 (some .int) [(0, 9, 12, 13), (0, 9, 15, 15)] :: ((wsL_step_r1 ++ (wsL_step_r2 ++ (wsL_step_r3 ++ (wsL_step_r4 ++ wsL_step_r5)))) ++ wsX20 ++ wsX10 ++ wsX00 ++ (vx_atS RX2 93 "java/lang/IllegalStateException" ["java/lang/RuntimeException", "java/lang/Exception"]).filter goodWord ++ (vx_atS RX2 44 "java/lang/IllegalArgumentException" ["java/lang/RuntimeException", "java/lang/Exception"]).filter goodWord)
def wsL_told : List Cond := .codeWith yL_told cL_told 5 (some .int) [(0, 10, 13, 15)] :: ([.classLink RL 15 "java/lang/IllegalArgumentException", .methodLink RL 42 yX2_told, .instanceMethod yX2_told, .selects RX2 yX2_told yX2_told, .initialized RX2, .code yX2_told cX2_told 3 (some .int), .classLink RX2 40 "java/lang/IllegalArgumentException", .initialized "java/lang/IllegalArgumentException", .fieldLink RX2 15 "PartitionKernel" "partitions" "[LPartitionKernel$Partition;", .instanceMethod yX1_report, .initialized RX1, .selects RX1 yX1_report yX1_report, .code yX1_report cX1_report 2 (some .int), .fieldLink RX1 15 "PartitionKernel$Partition" "state" "I", .fieldLink RX1 28 "PartitionKernel$Partition" "place" "I", .fieldLink RX1 50 "PartitionKernel$Partition" "done" "I", .fieldLink RX1 31 "PartitionKernel$Partition" "restartsLeft" "I", .fieldLink RX1 38 "PartitionKernel$Partition" "lastFault" "I", .fieldLink RX1 41 "PartitionKernel$Partition" "faults" "I", .fieldLink RX1 9 "PartitionKernel$Partition" "registers" "[I"] ++ wsX20 ++ wsX10 ++ (vx_atS RX2 44 "java/lang/IllegalArgumentException" ["java/lang/RuntimeException", "java/lang/Exception"]).filter goodWord)
def wsL_has_r1 : List Cond := [Cond.classLink RL 15 "java/lang/IllegalArgumentException", Cond.methodLink RL 45 yX2_has, Cond.instanceMethod yX2_has, Cond.selects RX2 yX2_has yX2_has, Cond.initialized RX2, Cond.code yX2_has cX2_has 3 (some .int), Cond.classLink RX2 40 "java/lang/IllegalArgumentException", Cond.initialized "java/lang/IllegalArgumentException", Cond.fieldLink RX2 22 "PartitionKernel" "channels" "[LPartitionKernel$Channel;", Cond.fieldLink RX2 116 "PartitionKernel" "ticksDone" "I", Cond.methodLink RX2 110 yX2_isChannel, Cond.instanceMethod yX2_isChannel, Cond.selects RX2 yX2_isChannel yX2_isChannel, Cond.code yX2_isChannel cX2_isChannel 2 (some .boolean), Cond.instanceMethod yX0_report, Cond.initialized RX0, Cond.selects RX0 yX0_report yX0_report, Cond.code yX0_report cX0_report 3 (some .int), Cond.fieldLink RX0 33 "PartitionKernel$Channel" "count" "I", Cond.fieldLink RX0 46 "PartitionKernel$Channel" "came" "I", Cond.fieldLink RX0 43 "PartitionKernel$Channel" "refused" "I", Cond.methodLink RX0 59 yX0_wordAt, Cond.instanceMethod yX0_wordAt, Cond.selects RX0 yX0_wordAt yX0_wordAt]
def wsL_has_r2 : List Cond := [Cond.code yX0_wordAt cX0_wordAt 2 (some .int), Cond.fieldLink RX0 9 "PartitionKernel$Channel" "words" "[I", Cond.methodLink RX0 39 yX0_spotOf, Cond.instanceMethod yX0_spotOf, Cond.selects RX0 yX0_spotOf yX0_spotOf, Cond.code yX0_spotOf cX0_spotOf 2 (some .int), Cond.fieldLink RX0 49 "PartitionKernel$Channel" "first" "I", Cond.methodLink RX0 62 yX0_age, Cond.instanceMethod yX0_age, Cond.selects RX0 yX0_age yX0_age, Cond.code yX0_age cX0_age 2 (some .int), Cond.fieldLink RX0 36 "PartitionKernel$Channel" "cameAt" "I", Cond.constant RX0 52 (1000000), Cond.methodLink RX0 53 Lib.Math.min.name, Cond.static Lib.Math.min.name, Cond.initialized "java/lang/Math", Cond.code Lib.Math.min.name Lib.Math.min.code 2 (some .int), Cond.methodLink RX0 29 yX0_isSlot, Cond.instanceMethod yX0_isSlot, Cond.selects RX0 yX0_isSlot yX0_isSlot, Cond.code yX0_isSlot cX0_isSlot 1 (some .boolean), Cond.fieldLink RX0 26 "PartitionKernel$Channel" "room" "I"]
def wsL_has : List Cond := .codeWith yL_has cL_has 5 (some .int) [(0, 10, 13, 15)] :: ((wsL_has_r1 ++ wsL_has_r2) ++ wsX20 ++ wsX00 ++ (vx_atS RX2 44 "java/lang/IllegalArgumentException" ["java/lang/RuntimeException", "java/lang/Exception"]).filter goodWord)
def wsL_queued_r1 : List Cond := [Cond.classLink RL 15 "java/lang/IllegalArgumentException", Cond.methodLink RL 48 yX2_queued, Cond.instanceMethod yX2_queued, Cond.selects RX2 yX2_queued yX2_queued, Cond.initialized RX2, Cond.code yX2_queued cX2_queued 3 (some .int), Cond.classLink RX2 40 "java/lang/IllegalArgumentException", Cond.initialized "java/lang/IllegalArgumentException", Cond.fieldLink RX2 22 "PartitionKernel" "channels" "[LPartitionKernel$Channel;", Cond.methodLink RX2 110 yX2_isChannel, Cond.instanceMethod yX2_isChannel, Cond.selects RX2 yX2_isChannel yX2_isChannel, Cond.code yX2_isChannel cX2_isChannel 2 (some .boolean), Cond.instanceMethod yX0_isSlot, Cond.initialized RX0, Cond.selects RX0 yX0_isSlot yX0_isSlot, Cond.code yX0_isSlot cX0_isSlot 1 (some .boolean), Cond.fieldLink RX0 26 "PartitionKernel$Channel" "room" "I", Cond.instanceMethod yX0_wordAt, Cond.selects RX0 yX0_wordAt yX0_wordAt, Cond.code yX0_wordAt cX0_wordAt 2 (some .int), Cond.fieldLink RX0 33 "PartitionKernel$Channel" "count" "I", Cond.fieldLink RX0 9 "PartitionKernel$Channel" "words" "[I", Cond.methodLink RX0 39 yX0_spotOf]
def wsL_queued_r2 : List Cond := [Cond.instanceMethod yX0_spotOf, Cond.selects RX0 yX0_spotOf yX0_spotOf, Cond.code yX0_spotOf cX0_spotOf 2 (some .int), Cond.fieldLink RX0 49 "PartitionKernel$Channel" "first" "I"]
def wsL_queued : List Cond := .codeWith yL_queued cL_queued 5 (some .int) [(0, 10, 13, 15)] :: ((wsL_queued_r1 ++ wsL_queued_r2) ++ wsX20 ++ wsX00 ++ (vx_atS RX2 44 "java/lang/IllegalArgumentException" ["java/lang/RuntimeException", "java/lang/Exception"]).filter goodWord)
def wsL_law0_r1 : List Cond := [Cond.classLink RL 8 RX2, Cond.instantiable RX2 12, Cond.initialized RX2, Cond.classLink RL 52 RX3, Cond.instantiable RX3 30, Cond.initialized RX3, Cond.arrayClass .long, Cond.methodLink RL 51 yX2_init, Cond.instanceMethod yX2_init, Cond.code yX2_init cX2_init 2 none, Cond.methodLink RX2 1 objectInit, Cond.instanceMethod objectInit, Cond.code objectInit ⟨#[0xb1]⟩ 1 none, Cond.arrayClass .int, Cond.fieldLink RX2 9 "PartitionKernel" "memory" "[I", Cond.classLink RX2 13 RX1, Cond.fieldLink RX2 15 "PartitionKernel" "partitions" "[LPartitionKernel$Partition;", Cond.instantiable RX1 10, Cond.initialized RX1, Cond.classLink RX2 20 RX0, Cond.fieldLink RX2 22 "PartitionKernel" "channels" "[LPartitionKernel$Channel;", Cond.instantiable RX0 10, Cond.initialized RX0, Cond.fieldLink RX2 27 "PartitionKernel" "windowOwners" "[I"]
def wsL_law0_r2 : List Cond := [Cond.fieldLink RX2 30 "PartitionKernel" "windowLengths" "[I", Cond.instanceMethod yX1_init, Cond.code yX1_init cX1_init 1 none, Cond.methodLink RX1 3 objectInit, Cond.fieldLink RX1 9 "PartitionKernel$Partition" "registers" "[I", Cond.instanceMethod yX0_init, Cond.code yX0_init cX0_init 1 none, Cond.methodLink RX0 3 objectInit, Cond.fieldLink RX0 9 "PartitionKernel$Channel" "words" "[I", Cond.methodLink RL 54 yX3_init, Cond.instanceMethod yX3_init, Cond.code yX3_init cX3_init 1 none, Cond.methodLink RX3 1 objectInit, Cond.fieldLink RX3 7 "PartitionKernelModel" "memory" "[I", Cond.fieldLink RX3 13 "PartitionKernelModel" "base" "[I", Cond.fieldLink RX3 16 "PartitionKernelModel" "length" "[I", Cond.fieldLink RX3 19 "PartitionKernelModel" "entry" "[I", Cond.fieldLink RX3 22 "PartitionKernelModel" "state" "[I", Cond.fieldLink RX3 25 "PartitionKernelModel" "place" "[I", Cond.fieldLink RX3 28 "PartitionKernelModel" "registers" "[I", Cond.fieldLink RX3 31 "PartitionKernelModel" "done" "[I", Cond.fieldLink RX3 34 "PartitionKernelModel" "restarts" "[I", Cond.fieldLink RX3 37 "PartitionKernelModel" "lastFault" "[I", Cond.fieldLink RX3 40 "PartitionKernelModel" "faults" "[I"]
def wsL_law0_r3 : List Cond := [Cond.fieldLink RX3 43 "PartitionKernelModel" "who" "[I", Cond.fieldLink RX3 46 "PartitionKernelModel" "longs" "[I", Cond.arrayClass .boolean, Cond.fieldLink RX3 49 "PartitionKernelModel" "isChannel" "[Z", Cond.fieldLink RX3 53 "PartitionKernelModel" "source" "[I", Cond.fieldLink RX3 56 "PartitionKernelModel" "target" "[I", Cond.fieldLink RX3 59 "PartitionKernelModel" "room" "[I", Cond.fieldLink RX3 62 "PartitionKernelModel" "words" "[I", Cond.fieldLink RX3 65 "PartitionKernelModel" "many" "[I", Cond.fieldLink RX3 68 "PartitionKernelModel" "age" "[I", Cond.fieldLink RX3 71 "PartitionKernelModel" "came" "[I", Cond.fieldLink RX3 74 "PartitionKernelModel" "refused" "[I", Cond.methodLink RL 55 yL_partition, Cond.static yL_partition, Cond.initialized RL, Cond.codeWith yL_partition cL_partition 7 (some .int) [(0, 11, 14, 13), (0, 11, 18, 15)], Cond.classLink RL 13 "java/lang/IllegalStateException", Cond.classLink RL 15 "java/lang/IllegalArgumentException", Cond.methodLink RL 7 yX2_partition, Cond.instanceMethod yX2_partition, Cond.selects RX2 yX2_partition yX2_partition, Cond.code yX2_partition cX2_partition 6 none, Cond.classLink RX2 40 "java/lang/IllegalArgumentException", Cond.initialized "java/lang/IllegalArgumentException"]
def wsL_law0_r4 : List Cond := [Cond.methodLink RX2 33 yX2_refuseIfSealed, Cond.instanceMethod yX2_refuseIfSealed, Cond.selects RX2 yX2_refuseIfSealed yX2_refuseIfSealed, Cond.code yX2_refuseIfSealed cX2_refuseIfSealed 1 none, Cond.classLink RX2 89 "java/lang/IllegalStateException", Cond.initialized "java/lang/IllegalStateException", Cond.fieldLink RX2 94 "PartitionKernel" "sealed" "Z", Cond.instanceMethod yX1_isTold, Cond.selects RX1 yX1_isTold yX1_isTold, Cond.code yX1_isTold cX1_isTold 1 (some .boolean), Cond.fieldLink RX1 15 "PartitionKernel$Partition" "state" "I", Cond.methodLink RX2 47 yX2_isInMemory, Cond.static yX2_isInMemory, Cond.code yX2_isInMemory cX2_isInMemory 2 (some .boolean), Cond.methodLink RX2 51 yX2_sharesWord, Cond.instanceMethod yX2_sharesWord, Cond.selects RX2 yX2_sharesWord yX2_sharesWord, Cond.code yX2_sharesWord cX2_sharesWord 4 (some .boolean), Cond.instanceMethod yX1_meets, Cond.selects RX1 yX1_meets yX1_meets, Cond.code yX1_meets cX1_meets 3 (some .boolean), Cond.fieldLink RX1 19 "PartitionKernel$Partition" "base" "I", Cond.fieldLink RX1 22 "PartitionKernel$Partition" "length" "I", Cond.methodLink RX1 34 yX1_isTold]
def wsL_law0_r5 : List Cond := [Cond.instanceMethod yX1_tell, Cond.selects RX1 yX1_tell yX1_tell, Cond.code yX1_tell cX1_tell 5 none, Cond.fieldLink RX1 25 "PartitionKernel$Partition" "entry" "I", Cond.fieldLink RX1 28 "PartitionKernel$Partition" "place" "I", Cond.fieldLink RX1 31 "PartitionKernel$Partition" "restartsLeft" "I", Cond.methodLink RL 60 yX3_partition, Cond.instanceMethod yX3_partition, Cond.selects RX3 yX3_partition yX3_partition, Cond.code yX3_partition cX3_partition 7 none, Cond.fieldLink RX3 85 "PartitionKernelModel" "sealed" "Z", Cond.fieldLink RX3 77 "PartitionKernelModel" "thrown" "I", Cond.methodLink RX3 81 yX3_isTold, Cond.instanceMethod yX3_isTold, Cond.selects RX3 yX3_isTold yX3_isTold, Cond.code yX3_isTold cX3_isTold 2 (some .boolean), Cond.methodLink RX3 89 yX3_shares, Cond.instanceMethod yX3_shares, Cond.selects RX3 yX3_shares yX3_shares, Cond.code yX3_shares cX3_shares 4 (some .boolean), Cond.methodLink RL 61 yX3_thrown, Cond.instanceMethod yX3_thrown, Cond.selects RX3 yX3_thrown yX3_thrown, Cond.code yX3_thrown cX3_thrown 1 (some .int)]
def wsL_law0_r6 : List Cond := [Cond.methodLink RL 64 yL_window, Cond.static yL_window, Cond.codeWith yL_window cL_window 5 (some .int) [(0, 10, 13, 13), (0, 10, 17, 15)], Cond.methodLink RL 17 yX2_window, Cond.instanceMethod yX2_window, Cond.selects RX2 yX2_window yX2_window, Cond.code yX2_window cX2_window 3 (some .int), Cond.fieldLink RX2 66 "PartitionKernel" "windowCount" "I", Cond.fieldLink RX2 72 "PartitionKernel" "frameTicks" "I", Cond.methodLink RX2 62 yX2_refuseUnlessTold, Cond.instanceMethod yX2_refuseUnlessTold, Cond.selects RX2 yX2_refuseUnlessTold yX2_refuseUnlessTold, Cond.code yX2_refuseUnlessTold cX2_refuseUnlessTold 2 none, Cond.methodLink RL 67 yX3_window, Cond.instanceMethod yX3_window, Cond.selects RX3 yX3_window yX3_window, Cond.code yX3_window cX3_window 3 (some .int), Cond.fieldLink RX3 93 "PartitionKernelModel" "windows" "I", Cond.methodLink RL 68 yL_channel, Cond.static yL_channel, Cond.codeWith yL_channel cL_channel 6 (some .int) [(0, 9, 12, 13), (0, 9, 16, 15)], Cond.methodLink RL 21 yX2_channel, Cond.instanceMethod yX2_channel, Cond.selects RX2 yX2_channel yX2_channel]
def wsL_law0_r7 : List Cond := [Cond.code yX2_channel cX2_channel 5 none, Cond.instanceMethod yX0_tell, Cond.selects RX0 yX0_tell yX0_tell, Cond.code yX0_tell cX0_tell 4 none, Cond.fieldLink RX0 15 "PartitionKernel$Channel" "isTold" "Z", Cond.fieldLink RX0 19 "PartitionKernel$Channel" "from" "I", Cond.fieldLink RX0 23 "PartitionKernel$Channel" "to" "I", Cond.fieldLink RX0 26 "PartitionKernel$Channel" "room" "I", Cond.methodLink RL 71 yX3_channel, Cond.instanceMethod yX3_channel, Cond.selects RX3 yX3_channel yX3_channel, Cond.code yX3_channel cX3_channel 6 none, Cond.methodLink RL 72 yL_poke, Cond.static yL_poke, Cond.codeWith yL_poke cL_poke 6 (some .int) [(0, 12, 15, 13), (0, 12, 19, 15), (0, 12, 23, 29)], Cond.classLink RL 29 "java/lang/IndexOutOfBoundsException", Cond.methodLink RL 25 yX2_poke, Cond.instanceMethod yX2_poke, Cond.selects RX2 yX2_poke yX2_poke, Cond.code yX2_poke cX2_poke 6 (some .int), Cond.methodLink RX2 85 yX2_addressOf, Cond.instanceMethod yX2_addressOf, Cond.selects RX2 yX2_addressOf yX2_addressOf, Cond.code yX2_addressOf cX2_addressOf 3 (some .int)]
def wsL_law0_r8 : List Cond := [Cond.classLink RX2 141 "java/lang/IndexOutOfBoundsException", Cond.initialized "java/lang/IndexOutOfBoundsException", Cond.instanceMethod yX1_holds, Cond.selects RX1 yX1_holds yX1_holds, Cond.code yX1_holds cX1_holds 2 (some .boolean), Cond.methodLink RL 75 yX3_poke, Cond.instanceMethod yX3_poke, Cond.selects RX3 yX3_poke yX3_poke, Cond.code yX3_poke cX3_poke 5 (some .int), Cond.methodLink RX3 96 yX3_noWord, Cond.instanceMethod yX3_noWord, Cond.selects RX3 yX3_noWord yX3_noWord, Cond.code yX3_noWord cX3_noWord 3 (some .boolean), Cond.methodLink RL 76 yL_peek, Cond.static yL_peek, Cond.codeWith yL_peek cL_peek 5 (some .int) [(0, 10, 13, 15), (0, 10, 17, 29)], Cond.methodLink RL 31 yX2_peek, Cond.instanceMethod yX2_peek, Cond.selects RX2 yX2_peek yX2_peek, Cond.code yX2_peek cX2_peek 3 (some .int), Cond.methodLink RL 78 yX3_peek, Cond.instanceMethod yX3_peek, Cond.selects RX3 yX3_peek yX3_peek, Cond.code yX3_peek cX3_peek 3 (some .int)]
def wsL_law0_r9 : List Cond := [Cond.methodLink RL 79 yL_seal, Cond.static yL_seal, Cond.codeWith yL_seal cL_seal 3 (some .int) [(0, 8, 11, 13)], Cond.methodLink RL 34 yX2_seal, Cond.instanceMethod yX2_seal, Cond.selects RX2 yX2_seal yX2_seal, Cond.code yX2_seal cX2_seal 1 (some .int), Cond.methodLink RL 82 yX3_seal, Cond.instanceMethod yX3_seal, Cond.selects RX3 yX3_seal yX3_seal, Cond.code yX3_seal cX3_seal 3 (some .int), Cond.fieldLink RX3 99 "PartitionKernelModel" "left" "I", Cond.methodLink RL 83 yL_step, Cond.static yL_step, Cond.codeWith yL_step cL_step 4 (some .int) [(0, 9, 12, 13), (0, 9, 15, 15)], Cond.methodLink RL 38 yX2_step, Cond.instanceMethod yX2_step, Cond.selects RX2 yX2_step yX2_step, Cond.code yX2_step cX2_step 4 (some .int), Cond.methodLink RX2 101 yX2_goOneTick, Cond.instanceMethod yX2_goOneTick, Cond.selects RX2 yX2_goOneTick yX2_goOneTick, Cond.code yX2_goOneTick cX2_goOneTick 3 (some .boolean), Cond.fieldLink RX2 116 "PartitionKernel" "ticksDone" "I"]
def wsL_law0_r10 : List Cond := [Cond.fieldLink RX2 129 "PartitionKernel" "windowAtHand" "I", Cond.fieldLink RX2 149 "PartitionKernel" "yielded" "Z", Cond.methodLink RX2 155 yX2_runInstruction, Cond.instanceMethod yX2_runInstruction, Cond.selects RX2 yX2_runInstruction yX2_runInstruction, Cond.code yX2_runInstruction cX2_runInstruction 5 none, Cond.methodLink RX2 167 yX2_perform, Cond.instanceMethod yX2_perform, Cond.selects RX2 yX2_perform yX2_perform, Cond.code yX2_perform cX2_perform 8 (some .int), Cond.methodLink RX2 179 yX2_load, Cond.instanceMethod yX2_load, Cond.selects RX2 yX2_load yX2_load, Cond.code yX2_load cX2_load 4 (some .int), Cond.methodLink RX2 183 yX2_store, Cond.instanceMethod yX2_store, Cond.selects RX2 yX2_store yX2_store, Cond.code yX2_store cX2_store 4 (some .int), Cond.instanceMethod yX1_jumpIf, Cond.selects RX1 yX1_jumpIf yX1_jumpIf, Cond.code yX1_jumpIf cX1_jumpIf 3 none, Cond.methodLink RX2 190 yX2_send, Cond.instanceMethod yX2_send, Cond.selects RX2 yX2_send yX2_send]
def wsL_law0_r11 : List Cond := [Cond.code yX2_send cX2_send 6 (some .int), Cond.methodLink RX2 110 yX2_isChannel, Cond.instanceMethod yX2_isChannel, Cond.selects RX2 yX2_isChannel yX2_isChannel, Cond.code yX2_isChannel cX2_isChannel 2 (some .boolean), Cond.instanceMethod yX0_put, Cond.selects RX0 yX0_put yX0_put, Cond.code yX0_put cX0_put 3 (some .boolean), Cond.fieldLink RX0 33 "PartitionKernel$Channel" "count" "I", Cond.fieldLink RX0 36 "PartitionKernel$Channel" "cameAt" "I", Cond.fieldLink RX0 43 "PartitionKernel$Channel" "refused" "I", Cond.fieldLink RX0 46 "PartitionKernel$Channel" "came" "I", Cond.methodLink RX0 29 yX0_isSlot, Cond.instanceMethod yX0_isSlot, Cond.selects RX0 yX0_isSlot yX0_isSlot, Cond.code yX0_isSlot cX0_isSlot 1 (some .boolean), Cond.methodLink RX0 39 yX0_spotOf, Cond.instanceMethod yX0_spotOf, Cond.selects RX0 yX0_spotOf yX0_spotOf, Cond.code yX0_spotOf cX0_spotOf 2 (some .int), Cond.fieldLink RX0 49 "PartitionKernel$Channel" "first" "I", Cond.methodLink RX2 194 yX2_take, Cond.instanceMethod yX2_take, Cond.selects RX2 yX2_take yX2_take]
def wsL_law0_r12 : List Cond := [Cond.code yX2_take cX2_take 7 (some .int), Cond.instanceMethod yX0_wordAt, Cond.selects RX0 yX0_wordAt yX0_wordAt, Cond.code yX0_wordAt cX0_wordAt 2 (some .int), Cond.instanceMethod yX0_age, Cond.selects RX0 yX0_age yX0_age, Cond.code yX0_age cX0_age 2 (some .int), Cond.constant RX0 52 (1000000), Cond.methodLink RX0 53 Lib.Math.min.name, Cond.static Lib.Math.min.name, Cond.initialized "java/lang/Math", Cond.code Lib.Math.min.name Lib.Math.min.code 2 (some .int), Cond.instanceMethod yX0_dropTaken, Cond.selects RX0 yX0_dropTaken yX0_dropTaken, Cond.code yX0_dropTaken cX0_dropTaken 1 none, Cond.methodLink RX2 197 yX2_computed, Cond.static yX2_computed, Cond.code yX2_computed cX2_computed 4 (some .int), Cond.instanceMethod yX1_restartAfter, Cond.selects RX1 yX1_restartAfter yX1_restartAfter, Cond.code yX1_restartAfter cX1_restartAfter 2 (some .boolean), Cond.fieldLink RX1 38 "PartitionKernel$Partition" "lastFault" "I", Cond.fieldLink RX1 41 "PartitionKernel$Partition" "faults" "I", Cond.methodLink RX1 44 yJ7_fill_53178]
def wsL_law0_r13 : List Cond := [Cond.static yJ7_fill_53178, Cond.initialized RJ7, Cond.code yJ7_fill_53178 cJ7_fill_53178 4 none, Cond.methodLink RX2 158 yX2_moveWindowOn, Cond.instanceMethod yX2_moveWindowOn, Cond.selects RX2 yX2_moveWindowOn yX2_moveWindowOn, Cond.code yX2_moveWindowOn cX2_moveWindowOn 1 none, Cond.fieldLink RX2 161 "PartitionKernel" "ticksIntoWindow" "I", Cond.methodLink RL 86 yX3_step, Cond.instanceMethod yX3_step, Cond.selects RX3 yX3_step yX3_step, Cond.code yX3_step cX3_step 5 (some .int), Cond.constant RX3 119 (1000000), Cond.fieldLink RX3 120 "PartitionKernelModel" "at" "I", Cond.fieldLink RX3 112 "PartitionKernelModel" "yielded" "Z", Cond.fieldLink RX3 127 "PartitionKernelModel" "ticks" "I", Cond.methodLink RX3 123 yX3_instruction, Cond.instanceMethod yX3_instruction, Cond.selects RX3 yX3_instruction yX3_instruction, Cond.code yX3_instruction cX3_instruction 3 none, Cond.fieldLink RX3 102 "PartitionKernelModel" "fault" "I", Cond.methodLink RX3 115 yX3_act, Cond.instanceMethod yX3_act, Cond.selects RX3 yX3_act yX3_act]
def wsL_law0_r14 : List Cond := [Cond.code yX3_act cX3_act 12 none, Cond.methodLink RX3 105 yX3_send, Cond.instanceMethod yX3_send, Cond.selects RX3 yX3_send yX3_send, Cond.code yX3_send cX3_send 5 none, Cond.methodLink RX3 109 yX3_take, Cond.instanceMethod yX3_take, Cond.selects RX3 yX3_take yX3_take, Cond.code yX3_take cX3_take 6 none, Cond.methodLink RL 87 yL_told, Cond.static yL_told, Cond.codeWith yL_told cL_told 5 (some .int) [(0, 10, 13, 15)], Cond.methodLink RL 42 yX2_told, Cond.instanceMethod yX2_told, Cond.selects RX2 yX2_told yX2_told, Cond.code yX2_told cX2_told 3 (some .int), Cond.instanceMethod yX1_report, Cond.selects RX1 yX1_report yX1_report, Cond.code yX1_report cX1_report 2 (some .int), Cond.fieldLink RX1 50 "PartitionKernel$Partition" "done" "I", Cond.methodLink RL 89 yX3_told, Cond.instanceMethod yX3_told, Cond.selects RX3 yX3_told yX3_told, Cond.code yX3_told cX3_told 3 (some .int)]
def wsL_law0_r15 : List Cond := [Cond.methodLink RL 90 yL_has, Cond.static yL_has, Cond.codeWith yL_has cL_has 5 (some .int) [(0, 10, 13, 15)], Cond.methodLink RL 45 yX2_has, Cond.instanceMethod yX2_has, Cond.selects RX2 yX2_has yX2_has, Cond.code yX2_has cX2_has 3 (some .int), Cond.instanceMethod yX0_report, Cond.selects RX0 yX0_report yX0_report, Cond.code yX0_report cX0_report 3 (some .int), Cond.methodLink RX0 59 yX0_wordAt, Cond.methodLink RX0 62 yX0_age, Cond.methodLink RL 92 yX3_has, Cond.instanceMethod yX3_has, Cond.selects RX3 yX3_has yX3_has, Cond.code yX3_has cX3_has 3 (some .int), Cond.methodLink RX3 130 yX3_noChannel, Cond.instanceMethod yX3_noChannel, Cond.selects RX3 yX3_noChannel yX3_noChannel, Cond.code yX3_noChannel cX3_noChannel 2 (some .boolean), Cond.methodLink RL 93 yL_queued, Cond.static yL_queued, Cond.codeWith yL_queued cL_queued 5 (some .int) [(0, 10, 13, 15)], Cond.methodLink RL 48 yX2_queued]
def wsL_law0_r16 : List Cond := [Cond.instanceMethod yX2_queued, Cond.selects RX2 yX2_queued yX2_queued, Cond.code yX2_queued cX2_queued 3 (some .int), Cond.methodLink RL 95 yX3_queued, Cond.instanceMethod yX3_queued, Cond.selects RX3 yX3_queued yX3_queued, Cond.code yX3_queued cX3_queued 3 (some .int), Cond.methodLink RL 96 yX2_current, Cond.instanceMethod yX2_current, Cond.selects RX2 yX2_current yX2_current, Cond.code yX2_current cX2_current 1 (some .int), Cond.methodLink RL 99 yX3_current, Cond.instanceMethod yX3_current, Cond.selects RX3 yX3_current yX3_current, Cond.code yX3_current cX3_current 1 (some .int), Cond.methodLink RL 100 yX2_ticks, Cond.instanceMethod yX2_ticks, Cond.selects RX2 yX2_ticks yX2_ticks, Cond.code yX2_ticks cX2_ticks 1 (some .int), Cond.methodLink RL 103 yX3_ticks, Cond.instanceMethod yX3_ticks, Cond.selects RX3 yX3_ticks yX3_ticks, Cond.code yX3_ticks cX3_ticks 1 (some .int)]
def wsL_law0 : List Cond := (wsL_law0_r1 ++ (wsL_law0_r2 ++ (wsL_law0_r3 ++ (wsL_law0_r4 ++ (wsL_law0_r5 ++ (wsL_law0_r6 ++ (wsL_law0_r7 ++ (wsL_law0_r8 ++ (wsL_law0_r9 ++ (wsL_law0_r10 ++ (wsL_law0_r11 ++ (wsL_law0_r12 ++ (wsL_law0_r13 ++ (wsL_law0_r14 ++ (wsL_law0_r15 ++ wsL_law0_r16))))))))))))))) ++ wsX20 ++ wsX30 ++ wsX10 ++ wsX00 ++ ([] : List Cond)
def wsL_law : List Cond := wsL_law0 ++ (vx_atS RX2 44 "java/lang/IllegalArgumentException" ["java/lang/RuntimeException", "java/lang/Exception"]).filter goodWord ++ (vx_atS RX2 93 "java/lang/IllegalStateException" ["java/lang/RuntimeException", "java/lang/Exception"]).filter goodWord ++ (vx_atS RX2 145 "java/lang/IndexOutOfBoundsException" ["java/lang/RuntimeException", "java/lang/Exception"]).filter goodWord
abbrev vwCl : List vw_C := [(RX0, TX0, 10), (RX1, TX1, 10), (RX2, TX2, 12), (RX3, TX3, 30)]
end
section
theorem dX0_init_0 : decode cX0_init 0 = .ok (.aload_n 0, 1) := by decide +kernel
theorem dX0_init_1 : decode cX0_init 1 = .ok (.invokespecial 3, 3) := by decide +kernel
theorem dX0_init_4 : decode cX0_init 4 = .ok (.aload_n 0, 1) := by decide +kernel
theorem dX0_init_5 : decode cX0_init 5 = .ok (.bipush 8, 2) := by decide +kernel
theorem dX0_init_7 : decode cX0_init 7 = .ok (.newarray .int, 2) := by decide +kernel
theorem dX0_init_9 : decode cX0_init 9 = .ok (.putfield 9, 3) := by decide +kernel
theorem dX0_init_12 : decode cX0_init 12 = .ok (.return_, 1) := by decide +kernel
theorem dX0_tell_0 : decode cX0_tell 0 = .ok (.aload_n 0, 1) := by decide +kernel
theorem dX0_tell_1 : decode cX0_tell 1 = .ok (.iconst 1, 1) := by decide +kernel
theorem dX0_tell_2 : decode cX0_tell 2 = .ok (.putfield 15, 3) := by decide +kernel
theorem dX0_tell_5 : decode cX0_tell 5 = .ok (.aload_n 0, 1) := by decide +kernel
theorem dX0_tell_6 : decode cX0_tell 6 = .ok (.iload_n 1, 1) := by decide +kernel
theorem dX0_tell_7 : decode cX0_tell 7 = .ok (.putfield 19, 3) := by decide +kernel
theorem dX0_tell_10 : decode cX0_tell 10 = .ok (.aload_n 0, 1) := by decide +kernel
theorem dX0_tell_11 : decode cX0_tell 11 = .ok (.iload_n 2, 1) := by decide +kernel
theorem dX0_tell_12 : decode cX0_tell 12 = .ok (.putfield 23, 3) := by decide +kernel
theorem dX0_tell_15 : decode cX0_tell 15 = .ok (.aload_n 0, 1) := by decide +kernel
theorem dX0_tell_16 : decode cX0_tell 16 = .ok (.iload_n 3, 1) := by decide +kernel
theorem dX0_tell_17 : decode cX0_tell 17 = .ok (.putfield 26, 3) := by decide +kernel
theorem dX0_tell_20 : decode cX0_tell 20 = .ok (.return_, 1) := by decide +kernel
theorem dX0_isSlot_0 : decode cX0_isSlot 0 = .ok (.aload_n 0, 1) := by decide +kernel
theorem dX0_isSlot_1 : decode cX0_isSlot 1 = .ok (.getfield 26, 3) := by decide +kernel
theorem dX0_isSlot_4 : decode cX0_isSlot 4 = .ok (.ifCond .ne 7, 3) := by decide +kernel
theorem dX0_isSlot_7 : decode cX0_isSlot 7 = .ok (.iconst 1, 1) := by decide +kernel
theorem dX0_isSlot_8 : decode cX0_isSlot 8 = .ok (.goto 4, 3) := by decide +kernel
theorem dX0_isSlot_11 : decode cX0_isSlot 11 = .ok (.iconst 0, 1) := by decide +kernel
theorem dX0_isSlot_12 : decode cX0_isSlot 12 = .ok (.ireturn, 1) := by decide +kernel
set_option maxRecDepth 20000 in
theorem ggX0_put_X0_isSlot : GoodIn wsX0_put wsX0_isSlot := goodIn_r _ [11, 4, 17, 18, 19, 20, 21, 22, 23, 24, 25, 26] (by decide +kernel) (by decide +kernel)
set_option maxRecDepth 20000 in
theorem gX0_put_X0_isSlot : GoodIn wsX0_put (wsV RX0 29 RX0 yX0_isSlot wsX0_isSlot) := goodIn_app (goodIn_of _ (by decide +kernel)) ggX0_put_X0_isSlot
set_option maxRecDepth 20000 in
theorem ggX0_put_X0_spotOf : GoodIn wsX0_put wsX0_spotOf := goodIn_r _ [15, 16, 17, 18, 19, 20, 21, 22, 23, 24, 25, 26] (by decide +kernel) (by decide +kernel)
set_option maxRecDepth 20000 in
theorem gX0_put_X0_spotOf : GoodIn wsX0_put (wsV RX0 39 RX0 yX0_spotOf wsX0_spotOf) := goodIn_app (goodIn_of _ (by decide +kernel)) ggX0_put_X0_spotOf
theorem dX0_put_0 : decode cX0_put 0 = .ok (.aload_n 0, 1) := by decide +kernel
theorem dX0_put_1 : decode cX0_put 1 = .ok (.invokevirtual 29, 3) := by decide +kernel
theorem dX0_put_4 : decode cX0_put 4 = .ok (.ifCond .eq 23, 3) := by decide +kernel
theorem dX0_put_7 : decode cX0_put 7 = .ok (.aload_n 0, 1) := by decide +kernel
theorem dX0_put_8 : decode cX0_put 8 = .ok (.getfield 9, 3) := by decide +kernel
theorem dX0_put_11 : decode cX0_put 11 = .ok (.iconst 0, 1) := by decide +kernel
theorem dX0_put_12 : decode cX0_put 12 = .ok (.iload_n 1, 1) := by decide +kernel
theorem dX0_put_13 : decode cX0_put 13 = .ok (.iastore, 1) := by decide +kernel
theorem dX0_put_14 : decode cX0_put 14 = .ok (.aload_n 0, 1) := by decide +kernel
theorem dX0_put_15 : decode cX0_put 15 = .ok (.iconst 1, 1) := by decide +kernel
theorem dX0_put_16 : decode cX0_put 16 = .ok (.putfield 33, 3) := by decide +kernel
theorem dX0_put_19 : decode cX0_put 19 = .ok (.aload_n 0, 1) := by decide +kernel
theorem dX0_put_20 : decode cX0_put 20 = .ok (.iload_n 2, 1) := by decide +kernel
theorem dX0_put_21 : decode cX0_put 21 = .ok (.putfield 36, 3) := by decide +kernel
theorem dX0_put_24 : decode cX0_put 24 = .ok (.goto 53, 3) := by decide +kernel
theorem dX0_put_27 : decode cX0_put 27 = .ok (.aload_n 0, 1) := by decide +kernel
theorem dX0_put_28 : decode cX0_put 28 = .ok (.getfield 33, 3) := by decide +kernel
theorem dX0_put_31 : decode cX0_put 31 = .ok (.aload_n 0, 1) := by decide +kernel
theorem dX0_put_32 : decode cX0_put 32 = .ok (.getfield 26, 3) := by decide +kernel
theorem dX0_put_35 : decode cX0_put 35 = .ok (.if_icmp .ge 30, 3) := by decide +kernel
theorem dX0_put_38 : decode cX0_put 38 = .ok (.aload_n 0, 1) := by decide +kernel
theorem dX0_put_39 : decode cX0_put 39 = .ok (.getfield 9, 3) := by decide +kernel
theorem dX0_put_42 : decode cX0_put 42 = .ok (.aload_n 0, 1) := by decide +kernel
theorem dX0_put_43 : decode cX0_put 43 = .ok (.aload_n 0, 1) := by decide +kernel
theorem dX0_put_44 : decode cX0_put 44 = .ok (.getfield 33, 3) := by decide +kernel
theorem dX0_put_47 : decode cX0_put 47 = .ok (.invokevirtual 39, 3) := by decide +kernel
theorem dX0_put_50 : decode cX0_put 50 = .ok (.iload_n 1, 1) := by decide +kernel
theorem dX0_put_51 : decode cX0_put 51 = .ok (.iastore, 1) := by decide +kernel
theorem dX0_put_52 : decode cX0_put 52 = .ok (.aload_n 0, 1) := by decide +kernel
theorem dX0_put_53 : decode cX0_put 53 = .ok (.dup, 1) := by decide +kernel
theorem dX0_put_54 : decode cX0_put 54 = .ok (.getfield 33, 3) := by decide +kernel
theorem dX0_put_57 : decode cX0_put 57 = .ok (.iconst 1, 1) := by decide +kernel
theorem dX0_put_58 : decode cX0_put 58 = .ok (.iadd, 1) := by decide +kernel
theorem dX0_put_59 : decode cX0_put 59 = .ok (.putfield 33, 3) := by decide +kernel
theorem dX0_put_62 : decode cX0_put 62 = .ok (.goto 15, 3) := by decide +kernel
theorem dX0_put_65 : decode cX0_put 65 = .ok (.aload_n 0, 1) := by decide +kernel
theorem dX0_put_66 : decode cX0_put 66 = .ok (.dup, 1) := by decide +kernel
theorem dX0_put_67 : decode cX0_put 67 = .ok (.getfield 43, 3) := by decide +kernel
theorem dX0_put_70 : decode cX0_put 70 = .ok (.iconst 1, 1) := by decide +kernel
theorem dX0_put_71 : decode cX0_put 71 = .ok (.iadd, 1) := by decide +kernel
theorem dX0_put_72 : decode cX0_put 72 = .ok (.putfield 43, 3) := by decide +kernel
theorem dX0_put_75 : decode cX0_put 75 = .ok (.iconst 0, 1) := by decide +kernel
theorem dX0_put_76 : decode cX0_put 76 = .ok (.ireturn, 1) := by decide +kernel
theorem dX0_put_77 : decode cX0_put 77 = .ok (.aload_n 0, 1) := by decide +kernel
theorem dX0_put_78 : decode cX0_put 78 = .ok (.dup, 1) := by decide +kernel
theorem dX0_put_79 : decode cX0_put 79 = .ok (.getfield 46, 3) := by decide +kernel
theorem dX0_put_82 : decode cX0_put 82 = .ok (.iconst 1, 1) := by decide +kernel
theorem dX0_put_83 : decode cX0_put 83 = .ok (.iadd, 1) := by decide +kernel
theorem dX0_put_84 : decode cX0_put 84 = .ok (.putfield 46, 3) := by decide +kernel
theorem dX0_put_87 : decode cX0_put 87 = .ok (.iconst 1, 1) := by decide +kernel
theorem dX0_put_88 : decode cX0_put 88 = .ok (.ireturn, 1) := by decide +kernel
set_option maxRecDepth 20000 in
theorem ggX0_dropTaken_X0_isSlot : GoodIn wsX0_dropTaken wsX0_isSlot := goodIn_r _ [7, 8, 13, 14, 15, 16, 17, 18, 19, 20, 21, 22] (by decide +kernel) (by decide +kernel)
set_option maxRecDepth 20000 in
theorem gX0_dropTaken_X0_isSlot : GoodIn wsX0_dropTaken (wsV RX0 29 RX0 yX0_isSlot wsX0_isSlot) := goodIn_app (goodIn_of _ (by decide +kernel)) ggX0_dropTaken_X0_isSlot
set_option maxRecDepth 20000 in
theorem ggX0_dropTaken_X0_spotOf : GoodIn wsX0_dropTaken wsX0_spotOf := goodIn_r _ [12, 2, 13, 14, 15, 16, 17, 18, 19, 20, 21, 22] (by decide +kernel) (by decide +kernel)
set_option maxRecDepth 20000 in
theorem gX0_dropTaken_X0_spotOf : GoodIn wsX0_dropTaken (wsV RX0 39 RX0 yX0_spotOf wsX0_spotOf) := goodIn_app (goodIn_of _ (by decide +kernel)) ggX0_dropTaken_X0_spotOf
theorem dX0_dropTaken_0 : decode cX0_dropTaken 0 = .ok (.aload_n 0, 1) := by decide +kernel
theorem dX0_dropTaken_1 : decode cX0_dropTaken 1 = .ok (.invokevirtual 29, 3) := by decide +kernel
theorem dX0_dropTaken_4 : decode cX0_dropTaken 4 = .ok (.ifCond .ne 29, 3) := by decide +kernel
theorem dX0_dropTaken_7 : decode cX0_dropTaken 7 = .ok (.aload_n 0, 1) := by decide +kernel
theorem dX0_dropTaken_8 : decode cX0_dropTaken 8 = .ok (.getfield 33, 3) := by decide +kernel
theorem dX0_dropTaken_11 : decode cX0_dropTaken 11 = .ok (.ifCond .le 22, 3) := by decide +kernel
theorem dX0_dropTaken_14 : decode cX0_dropTaken 14 = .ok (.aload_n 0, 1) := by decide +kernel
theorem dX0_dropTaken_15 : decode cX0_dropTaken 15 = .ok (.aload_n 0, 1) := by decide +kernel
theorem dX0_dropTaken_16 : decode cX0_dropTaken 16 = .ok (.iconst 1, 1) := by decide +kernel
theorem dX0_dropTaken_17 : decode cX0_dropTaken 17 = .ok (.invokevirtual 39, 3) := by decide +kernel
theorem dX0_dropTaken_20 : decode cX0_dropTaken 20 = .ok (.putfield 49, 3) := by decide +kernel
theorem dX0_dropTaken_23 : decode cX0_dropTaken 23 = .ok (.aload_n 0, 1) := by decide +kernel
theorem dX0_dropTaken_24 : decode cX0_dropTaken 24 = .ok (.dup, 1) := by decide +kernel
theorem dX0_dropTaken_25 : decode cX0_dropTaken 25 = .ok (.getfield 33, 3) := by decide +kernel
theorem dX0_dropTaken_28 : decode cX0_dropTaken 28 = .ok (.iconst 1, 1) := by decide +kernel
theorem dX0_dropTaken_29 : decode cX0_dropTaken 29 = .ok (.isub, 1) := by decide +kernel
theorem dX0_dropTaken_30 : decode cX0_dropTaken 30 = .ok (.putfield 33, 3) := by decide +kernel
theorem dX0_dropTaken_33 : decode cX0_dropTaken 33 = .ok (.return_, 1) := by decide +kernel
set_option maxRecDepth 20000 in
theorem ggX0_wordAt_X0_spotOf : GoodIn wsX0_wordAt wsX0_spotOf := goodIn_r _ [7, 8, 9, 10, 11, 12, 13, 14, 15, 16, 17, 18] (by decide +kernel) (by decide +kernel)
set_option maxRecDepth 20000 in
theorem gX0_wordAt_X0_spotOf : GoodIn wsX0_wordAt (wsV RX0 39 RX0 yX0_spotOf wsX0_spotOf) := goodIn_app (goodIn_of _ (by decide +kernel)) ggX0_wordAt_X0_spotOf
theorem dX0_wordAt_0 : decode cX0_wordAt 0 = .ok (.iload_n 1, 1) := by decide +kernel
theorem dX0_wordAt_1 : decode cX0_wordAt 1 = .ok (.ifCond .lt 24, 3) := by decide +kernel
theorem dX0_wordAt_4 : decode cX0_wordAt 4 = .ok (.iload_n 1, 1) := by decide +kernel
theorem dX0_wordAt_5 : decode cX0_wordAt 5 = .ok (.aload_n 0, 1) := by decide +kernel
theorem dX0_wordAt_6 : decode cX0_wordAt 6 = .ok (.getfield 33, 3) := by decide +kernel
theorem dX0_wordAt_9 : decode cX0_wordAt 9 = .ok (.if_icmp .ge 16, 3) := by decide +kernel
theorem dX0_wordAt_12 : decode cX0_wordAt 12 = .ok (.aload_n 0, 1) := by decide +kernel
theorem dX0_wordAt_13 : decode cX0_wordAt 13 = .ok (.getfield 9, 3) := by decide +kernel
theorem dX0_wordAt_16 : decode cX0_wordAt 16 = .ok (.aload_n 0, 1) := by decide +kernel
theorem dX0_wordAt_17 : decode cX0_wordAt 17 = .ok (.iload_n 1, 1) := by decide +kernel
theorem dX0_wordAt_18 : decode cX0_wordAt 18 = .ok (.invokevirtual 39, 3) := by decide +kernel
theorem dX0_wordAt_21 : decode cX0_wordAt 21 = .ok (.iaload, 1) := by decide +kernel
theorem dX0_wordAt_22 : decode cX0_wordAt 22 = .ok (.goto 4, 3) := by decide +kernel
theorem dX0_wordAt_25 : decode cX0_wordAt 25 = .ok (.iconst 0, 1) := by decide +kernel
theorem dX0_wordAt_26 : decode cX0_wordAt 26 = .ok (.ireturn, 1) := by decide +kernel
theorem dX0_spotOf_0 : decode cX0_spotOf 0 = .ok (.aload_n 0, 1) := by decide +kernel
theorem dX0_spotOf_1 : decode cX0_spotOf 1 = .ok (.getfield 49, 3) := by decide +kernel
theorem dX0_spotOf_4 : decode cX0_spotOf 4 = .ok (.iload_n 1, 1) := by decide +kernel
theorem dX0_spotOf_5 : decode cX0_spotOf 5 = .ok (.iadd, 1) := by decide +kernel
theorem dX0_spotOf_6 : decode cX0_spotOf 6 = .ok (.bipush 7, 2) := by decide +kernel
theorem dX0_spotOf_8 : decode cX0_spotOf 8 = .ok (.iand, 1) := by decide +kernel
theorem dX0_spotOf_9 : decode cX0_spotOf 9 = .ok (.ireturn, 1) := by decide +kernel
set_option maxRecDepth 20000 in
theorem ggX0_age_X0_isSlot : GoodIn wsX0_age wsX0_isSlot := goodIn_r _ [12, 13, 14, 15, 16, 17, 18, 19, 20, 21, 22, 23] (by decide +kernel) (by decide +kernel)
set_option maxRecDepth 20000 in
theorem gX0_age_X0_isSlot : GoodIn wsX0_age (wsV RX0 29 RX0 yX0_isSlot wsX0_isSlot) := goodIn_app (goodIn_of _ (by decide +kernel)) ggX0_age_X0_isSlot
theorem dX0_age_0 : decode cX0_age 0 = .ok (.aload_n 0, 1) := by decide +kernel
theorem dX0_age_1 : decode cX0_age 1 = .ok (.invokevirtual 29, 3) := by decide +kernel
theorem dX0_age_4 : decode cX0_age 4 = .ok (.ifCond .eq 24, 3) := by decide +kernel
theorem dX0_age_7 : decode cX0_age 7 = .ok (.aload_n 0, 1) := by decide +kernel
theorem dX0_age_8 : decode cX0_age 8 = .ok (.getfield 33, 3) := by decide +kernel
theorem dX0_age_11 : decode cX0_age 11 = .ok (.ifCond .le 17, 3) := by decide +kernel
theorem dX0_age_14 : decode cX0_age 14 = .ok (.iload_n 1, 1) := by decide +kernel
theorem dX0_age_15 : decode cX0_age 15 = .ok (.aload_n 0, 1) := by decide +kernel
theorem dX0_age_16 : decode cX0_age 16 = .ok (.getfield 36, 3) := by decide +kernel
theorem dX0_age_19 : decode cX0_age 19 = .ok (.isub, 1) := by decide +kernel
theorem dX0_age_20 : decode cX0_age 20 = .ok (.ldc 52, 2) := by decide +kernel
theorem dX0_age_22 : decode cX0_age 22 = .ok (.invokestatic 53, 3) := by decide +kernel
theorem dX0_age_25 : decode cX0_age 25 = .ok (.goto 4, 3) := by decide +kernel
theorem dX0_age_28 : decode cX0_age 28 = .ok (.iconst 0, 1) := by decide +kernel
theorem dX0_age_29 : decode cX0_age 29 = .ok (.ireturn, 1) := by decide +kernel
set_option maxRecDepth 20000 in
theorem ggX0_report_X0_wordAt : GoodIn wsX0_report wsX0_wordAt := goodIn_r _ [8, 1, 9, 10, 11, 12, 7, 13, 14, 30, 31, 32, 33, 34, 35, 36, 37, 38, 39] (by decide +kernel) (by decide +kernel)
set_option maxRecDepth 20000 in
theorem gX0_report_X0_wordAt : GoodIn wsX0_report (wsV RX0 59 RX0 yX0_wordAt wsX0_wordAt) := goodIn_app (goodIn_of _ (by decide +kernel)) ggX0_report_X0_wordAt
set_option maxRecDepth 20000 in
theorem ggX0_report_X0_age : GoodIn wsX0_report wsX0_age := goodIn_r _ [18, 1, 19, 20, 21, 22, 23, 24, 25, 26, 27, 7, 28, 29, 30, 31, 32, 33, 34, 35, 36, 37, 38, 39] (by decide +kernel) (by decide +kernel)
set_option maxRecDepth 20000 in
theorem gX0_report_X0_age : GoodIn wsX0_report (wsV RX0 62 RX0 yX0_age wsX0_age) := goodIn_app (goodIn_of _ (by decide +kernel)) ggX0_report_X0_age
theorem dX0_report_0 : decode cX0_report 0 = .ok (.iload_n 1, 1) := by decide +kernel
theorem dX0_report_1 : decode cX0_report 1 = .ok (.tableswitch 53 0 3 #[31, 36, 42, 48], 31) := by decide +kernel
theorem dX0_report_32 : decode cX0_report 32 = .ok (.aload_n 0, 1) := by decide +kernel
theorem dX0_report_33 : decode cX0_report 33 = .ok (.getfield 33, 3) := by decide +kernel
theorem dX0_report_36 : decode cX0_report 36 = .ok (.ireturn, 1) := by decide +kernel
theorem dX0_report_37 : decode cX0_report 37 = .ok (.aload_n 0, 1) := by decide +kernel
theorem dX0_report_38 : decode cX0_report 38 = .ok (.iconst 0, 1) := by decide +kernel
theorem dX0_report_39 : decode cX0_report 39 = .ok (.invokevirtual 59, 3) := by decide +kernel
theorem dX0_report_42 : decode cX0_report 42 = .ok (.ireturn, 1) := by decide +kernel
theorem dX0_report_43 : decode cX0_report 43 = .ok (.aload_n 0, 1) := by decide +kernel
theorem dX0_report_44 : decode cX0_report 44 = .ok (.iload_n 2, 1) := by decide +kernel
theorem dX0_report_45 : decode cX0_report 45 = .ok (.invokevirtual 62, 3) := by decide +kernel
theorem dX0_report_48 : decode cX0_report 48 = .ok (.ireturn, 1) := by decide +kernel
theorem dX0_report_49 : decode cX0_report 49 = .ok (.aload_n 0, 1) := by decide +kernel
theorem dX0_report_50 : decode cX0_report 50 = .ok (.getfield 46, 3) := by decide +kernel
theorem dX0_report_53 : decode cX0_report 53 = .ok (.ireturn, 1) := by decide +kernel
theorem dX0_report_54 : decode cX0_report 54 = .ok (.aload_n 0, 1) := by decide +kernel
theorem dX0_report_55 : decode cX0_report 55 = .ok (.getfield 43, 3) := by decide +kernel
theorem dX0_report_58 : decode cX0_report 58 = .ok (.ireturn, 1) := by decide +kernel
theorem dX1_init_0 : decode cX1_init 0 = .ok (.aload_n 0, 1) := by decide +kernel
theorem dX1_init_1 : decode cX1_init 1 = .ok (.invokespecial 3, 3) := by decide +kernel
theorem dX1_init_4 : decode cX1_init 4 = .ok (.aload_n 0, 1) := by decide +kernel
theorem dX1_init_5 : decode cX1_init 5 = .ok (.iconst 4, 1) := by decide +kernel
theorem dX1_init_6 : decode cX1_init 6 = .ok (.newarray .int, 2) := by decide +kernel
theorem dX1_init_8 : decode cX1_init 8 = .ok (.putfield 9, 3) := by decide +kernel
theorem dX1_init_11 : decode cX1_init 11 = .ok (.return_, 1) := by decide +kernel
theorem dX1_tell_0 : decode cX1_tell 0 = .ok (.aload_n 0, 1) := by decide +kernel
theorem dX1_tell_1 : decode cX1_tell 1 = .ok (.iconst 1, 1) := by decide +kernel
theorem dX1_tell_2 : decode cX1_tell 2 = .ok (.putfield 15, 3) := by decide +kernel
theorem dX1_tell_5 : decode cX1_tell 5 = .ok (.aload_n 0, 1) := by decide +kernel
theorem dX1_tell_6 : decode cX1_tell 6 = .ok (.iload_n 1, 1) := by decide +kernel
theorem dX1_tell_7 : decode cX1_tell 7 = .ok (.putfield 19, 3) := by decide +kernel
theorem dX1_tell_10 : decode cX1_tell 10 = .ok (.aload_n 0, 1) := by decide +kernel
theorem dX1_tell_11 : decode cX1_tell 11 = .ok (.iload_n 2, 1) := by decide +kernel
theorem dX1_tell_12 : decode cX1_tell 12 = .ok (.putfield 22, 3) := by decide +kernel
theorem dX1_tell_15 : decode cX1_tell 15 = .ok (.aload_n 0, 1) := by decide +kernel
theorem dX1_tell_16 : decode cX1_tell 16 = .ok (.iload_n 3, 1) := by decide +kernel
theorem dX1_tell_17 : decode cX1_tell 17 = .ok (.putfield 25, 3) := by decide +kernel
theorem dX1_tell_20 : decode cX1_tell 20 = .ok (.aload_n 0, 1) := by decide +kernel
theorem dX1_tell_21 : decode cX1_tell 21 = .ok (.iload_n 3, 1) := by decide +kernel
theorem dX1_tell_22 : decode cX1_tell 22 = .ok (.putfield 28, 3) := by decide +kernel
theorem dX1_tell_25 : decode cX1_tell 25 = .ok (.aload_n 0, 1) := by decide +kernel
theorem dX1_tell_26 : decode cX1_tell 26 = .ok (.iload 4, 2) := by decide +kernel
theorem dX1_tell_28 : decode cX1_tell 28 = .ok (.putfield 31, 3) := by decide +kernel
theorem dX1_tell_31 : decode cX1_tell 31 = .ok (.return_, 1) := by decide +kernel
theorem dX1_isTold_0 : decode cX1_isTold 0 = .ok (.aload_n 0, 1) := by decide +kernel
theorem dX1_isTold_1 : decode cX1_isTold 1 = .ok (.getfield 15, 3) := by decide +kernel
theorem dX1_isTold_4 : decode cX1_isTold 4 = .ok (.ifCond .eq 7, 3) := by decide +kernel
theorem dX1_isTold_7 : decode cX1_isTold 7 = .ok (.iconst 1, 1) := by decide +kernel
theorem dX1_isTold_8 : decode cX1_isTold 8 = .ok (.goto 4, 3) := by decide +kernel
theorem dX1_isTold_11 : decode cX1_isTold 11 = .ok (.iconst 0, 1) := by decide +kernel
theorem dX1_isTold_12 : decode cX1_isTold 12 = .ok (.ireturn, 1) := by decide +kernel
theorem dX1_holds_0 : decode cX1_holds 0 = .ok (.iload_n 1, 1) := by decide +kernel
theorem dX1_holds_1 : decode cX1_holds 1 = .ok (.ifCond .lt 15, 3) := by decide +kernel
theorem dX1_holds_4 : decode cX1_holds 4 = .ok (.iload_n 1, 1) := by decide +kernel
theorem dX1_holds_5 : decode cX1_holds 5 = .ok (.aload_n 0, 1) := by decide +kernel
theorem dX1_holds_6 : decode cX1_holds 6 = .ok (.getfield 22, 3) := by decide +kernel
theorem dX1_holds_9 : decode cX1_holds 9 = .ok (.if_icmp .ge 7, 3) := by decide +kernel
theorem dX1_holds_12 : decode cX1_holds 12 = .ok (.iconst 1, 1) := by decide +kernel
theorem dX1_holds_13 : decode cX1_holds 13 = .ok (.goto 4, 3) := by decide +kernel
theorem dX1_holds_16 : decode cX1_holds 16 = .ok (.iconst 0, 1) := by decide +kernel
theorem dX1_holds_17 : decode cX1_holds 17 = .ok (.ireturn, 1) := by decide +kernel
set_option maxRecDepth 20000 in
theorem ggX1_meets_X1_isTold : GoodIn wsX1_meets wsX1_isTold := goodIn_r _ [7, 8, 9, 10, 11, 12, 13, 14, 15, 16, 17, 18] (by decide +kernel) (by decide +kernel)
set_option maxRecDepth 20000 in
theorem gX1_meets_X1_isTold : GoodIn wsX1_meets (wsV RX1 34 RX1 yX1_isTold wsX1_isTold) := goodIn_app (goodIn_of _ (by decide +kernel)) ggX1_meets_X1_isTold
theorem dX1_meets_0 : decode cX1_meets 0 = .ok (.aload_n 0, 1) := by decide +kernel
theorem dX1_meets_1 : decode cX1_meets 1 = .ok (.invokevirtual 34, 3) := by decide +kernel
theorem dX1_meets_4 : decode cX1_meets 4 = .ok (.ifCond .eq 30, 3) := by decide +kernel
theorem dX1_meets_7 : decode cX1_meets 7 = .ok (.iload_n 1, 1) := by decide +kernel
theorem dX1_meets_8 : decode cX1_meets 8 = .ok (.aload_n 0, 1) := by decide +kernel
theorem dX1_meets_9 : decode cX1_meets 9 = .ok (.getfield 19, 3) := by decide +kernel
theorem dX1_meets_12 : decode cX1_meets 12 = .ok (.aload_n 0, 1) := by decide +kernel
theorem dX1_meets_13 : decode cX1_meets 13 = .ok (.getfield 22, 3) := by decide +kernel
theorem dX1_meets_16 : decode cX1_meets 16 = .ok (.iadd, 1) := by decide +kernel
theorem dX1_meets_17 : decode cX1_meets 17 = .ok (.if_icmp .ge 17, 3) := by decide +kernel
theorem dX1_meets_20 : decode cX1_meets 20 = .ok (.aload_n 0, 1) := by decide +kernel
theorem dX1_meets_21 : decode cX1_meets 21 = .ok (.getfield 19, 3) := by decide +kernel
theorem dX1_meets_24 : decode cX1_meets 24 = .ok (.iload_n 1, 1) := by decide +kernel
theorem dX1_meets_25 : decode cX1_meets 25 = .ok (.iload_n 2, 1) := by decide +kernel
theorem dX1_meets_26 : decode cX1_meets 26 = .ok (.iadd, 1) := by decide +kernel
theorem dX1_meets_27 : decode cX1_meets 27 = .ok (.if_icmp .ge 7, 3) := by decide +kernel
theorem dX1_meets_30 : decode cX1_meets 30 = .ok (.iconst 1, 1) := by decide +kernel
theorem dX1_meets_31 : decode cX1_meets 31 = .ok (.goto 4, 3) := by decide +kernel
theorem dX1_meets_34 : decode cX1_meets 34 = .ok (.iconst 0, 1) := by decide +kernel
theorem dX1_meets_35 : decode cX1_meets 35 = .ok (.ireturn, 1) := by decide +kernel
theorem dX1_jumpIf_0 : decode cX1_jumpIf 0 = .ok (.iload_n 1, 1) := by decide +kernel
theorem dX1_jumpIf_1 : decode cX1_jumpIf 1 = .ok (.ifCond .eq 13, 3) := by decide +kernel
theorem dX1_jumpIf_4 : decode cX1_jumpIf 4 = .ok (.aload_n 0, 1) := by decide +kernel
theorem dX1_jumpIf_5 : decode cX1_jumpIf 5 = .ok (.dup, 1) := by decide +kernel
theorem dX1_jumpIf_6 : decode cX1_jumpIf 6 = .ok (.getfield 28, 3) := by decide +kernel
theorem dX1_jumpIf_9 : decode cX1_jumpIf 9 = .ok (.iload_n 2, 1) := by decide +kernel
theorem dX1_jumpIf_10 : decode cX1_jumpIf 10 = .ok (.iadd, 1) := by decide +kernel
theorem dX1_jumpIf_11 : decode cX1_jumpIf 11 = .ok (.putfield 28, 3) := by decide +kernel
theorem dX1_jumpIf_14 : decode cX1_jumpIf 14 = .ok (.return_, 1) := by decide +kernel
set_option maxRecDepth 20000 in
theorem ggX1_restartAfter_J7_fill_53178 : GoodIn wsX1_restartAfter wsJ7_fill_53178 := goodIn_r _ [11] (by decide +kernel) (by decide +kernel)
set_option maxRecDepth 20000 in
theorem gX1_restartAfter_J7_fill_53178 : GoodIn wsX1_restartAfter (va_wsS RX1 44 yJ7_fill_53178 wsJ7_fill_53178) := goodIn_app (goodIn_of _ (by decide +kernel)) ggX1_restartAfter_J7_fill_53178
theorem dX1_restartAfter_0 : decode cX1_restartAfter 0 = .ok (.aload_n 0, 1) := by decide +kernel
theorem dX1_restartAfter_1 : decode cX1_restartAfter 1 = .ok (.iload_n 1, 1) := by decide +kernel
theorem dX1_restartAfter_2 : decode cX1_restartAfter 2 = .ok (.putfield 38, 3) := by decide +kernel
theorem dX1_restartAfter_5 : decode cX1_restartAfter 5 = .ok (.aload_n 0, 1) := by decide +kernel
theorem dX1_restartAfter_6 : decode cX1_restartAfter 6 = .ok (.dup, 1) := by decide +kernel
theorem dX1_restartAfter_7 : decode cX1_restartAfter 7 = .ok (.getfield 41, 3) := by decide +kernel
theorem dX1_restartAfter_10 : decode cX1_restartAfter 10 = .ok (.iconst 1, 1) := by decide +kernel
theorem dX1_restartAfter_11 : decode cX1_restartAfter 11 = .ok (.iadd, 1) := by decide +kernel
theorem dX1_restartAfter_12 : decode cX1_restartAfter 12 = .ok (.putfield 41, 3) := by decide +kernel
theorem dX1_restartAfter_15 : decode cX1_restartAfter 15 = .ok (.aload_n 0, 1) := by decide +kernel
theorem dX1_restartAfter_16 : decode cX1_restartAfter 16 = .ok (.getfield 31, 3) := by decide +kernel
theorem dX1_restartAfter_19 : decode cX1_restartAfter 19 = .ok (.ifCond .ne 10, 3) := by decide +kernel
theorem dX1_restartAfter_22 : decode cX1_restartAfter 22 = .ok (.aload_n 0, 1) := by decide +kernel
theorem dX1_restartAfter_23 : decode cX1_restartAfter 23 = .ok (.iconst 3, 1) := by decide +kernel
theorem dX1_restartAfter_24 : decode cX1_restartAfter 24 = .ok (.putfield 15, 3) := by decide +kernel
theorem dX1_restartAfter_27 : decode cX1_restartAfter 27 = .ok (.iconst 0, 1) := by decide +kernel
theorem dX1_restartAfter_28 : decode cX1_restartAfter 28 = .ok (.ireturn, 1) := by decide +kernel
theorem dX1_restartAfter_29 : decode cX1_restartAfter 29 = .ok (.aload_n 0, 1) := by decide +kernel
theorem dX1_restartAfter_30 : decode cX1_restartAfter 30 = .ok (.dup, 1) := by decide +kernel
theorem dX1_restartAfter_31 : decode cX1_restartAfter 31 = .ok (.getfield 31, 3) := by decide +kernel
theorem dX1_restartAfter_34 : decode cX1_restartAfter 34 = .ok (.iconst 1, 1) := by decide +kernel
theorem dX1_restartAfter_35 : decode cX1_restartAfter 35 = .ok (.isub, 1) := by decide +kernel
theorem dX1_restartAfter_36 : decode cX1_restartAfter 36 = .ok (.putfield 31, 3) := by decide +kernel
theorem dX1_restartAfter_39 : decode cX1_restartAfter 39 = .ok (.aload_n 0, 1) := by decide +kernel
theorem dX1_restartAfter_40 : decode cX1_restartAfter 40 = .ok (.getfield 9, 3) := by decide +kernel
theorem dX1_restartAfter_43 : decode cX1_restartAfter 43 = .ok (.iconst 0, 1) := by decide +kernel
theorem dX1_restartAfter_44 : decode cX1_restartAfter 44 = .ok (.invokestatic 44, 3) := by decide +kernel
theorem dX1_restartAfter_47 : decode cX1_restartAfter 47 = .ok (.aload_n 0, 1) := by decide +kernel
theorem dX1_restartAfter_48 : decode cX1_restartAfter 48 = .ok (.aload_n 0, 1) := by decide +kernel
theorem dX1_restartAfter_49 : decode cX1_restartAfter 49 = .ok (.getfield 25, 3) := by decide +kernel
theorem dX1_restartAfter_52 : decode cX1_restartAfter 52 = .ok (.putfield 28, 3) := by decide +kernel
theorem dX1_restartAfter_55 : decode cX1_restartAfter 55 = .ok (.iconst 1, 1) := by decide +kernel
theorem dX1_restartAfter_56 : decode cX1_restartAfter 56 = .ok (.ireturn, 1) := by decide +kernel
theorem dX1_report_0 : decode cX1_report 0 = .ok (.iload_n 1, 1) := by decide +kernel
theorem dX1_report_1 : decode cX1_report 1 = .ok (.tableswitch 85 0 9 #[55, 60, 85, 85, 85, 85, 65, 70, 75, 80], 55) := by decide +kernel
theorem dX1_report_56 : decode cX1_report 56 = .ok (.aload_n 0, 1) := by decide +kernel
theorem dX1_report_57 : decode cX1_report 57 = .ok (.getfield 15, 3) := by decide +kernel
theorem dX1_report_60 : decode cX1_report 60 = .ok (.ireturn, 1) := by decide +kernel
theorem dX1_report_61 : decode cX1_report 61 = .ok (.aload_n 0, 1) := by decide +kernel
theorem dX1_report_62 : decode cX1_report 62 = .ok (.getfield 28, 3) := by decide +kernel
theorem dX1_report_65 : decode cX1_report 65 = .ok (.ireturn, 1) := by decide +kernel
theorem dX1_report_66 : decode cX1_report 66 = .ok (.aload_n 0, 1) := by decide +kernel
theorem dX1_report_67 : decode cX1_report 67 = .ok (.getfield 50, 3) := by decide +kernel
theorem dX1_report_70 : decode cX1_report 70 = .ok (.ireturn, 1) := by decide +kernel
theorem dX1_report_71 : decode cX1_report 71 = .ok (.aload_n 0, 1) := by decide +kernel
theorem dX1_report_72 : decode cX1_report 72 = .ok (.getfield 31, 3) := by decide +kernel
theorem dX1_report_75 : decode cX1_report 75 = .ok (.ireturn, 1) := by decide +kernel
theorem dX1_report_76 : decode cX1_report 76 = .ok (.aload_n 0, 1) := by decide +kernel
theorem dX1_report_77 : decode cX1_report 77 = .ok (.getfield 38, 3) := by decide +kernel
theorem dX1_report_80 : decode cX1_report 80 = .ok (.ireturn, 1) := by decide +kernel
theorem dX1_report_81 : decode cX1_report 81 = .ok (.aload_n 0, 1) := by decide +kernel
theorem dX1_report_82 : decode cX1_report 82 = .ok (.getfield 41, 3) := by decide +kernel
theorem dX1_report_85 : decode cX1_report 85 = .ok (.ireturn, 1) := by decide +kernel
theorem dX1_report_86 : decode cX1_report 86 = .ok (.iload_n 1, 1) := by decide +kernel
theorem dX1_report_87 : decode cX1_report 87 = .ok (.iconst 2, 1) := by decide +kernel
theorem dX1_report_88 : decode cX1_report 88 = .ok (.if_icmp .lt 19, 3) := by decide +kernel
theorem dX1_report_91 : decode cX1_report 91 = .ok (.iload_n 1, 1) := by decide +kernel
theorem dX1_report_92 : decode cX1_report 92 = .ok (.iconst 5, 1) := by decide +kernel
theorem dX1_report_93 : decode cX1_report 93 = .ok (.if_icmp .gt 14, 3) := by decide +kernel
theorem dX1_report_96 : decode cX1_report 96 = .ok (.aload_n 0, 1) := by decide +kernel
theorem dX1_report_97 : decode cX1_report 97 = .ok (.getfield 9, 3) := by decide +kernel
theorem dX1_report_100 : decode cX1_report 100 = .ok (.iload_n 1, 1) := by decide +kernel
theorem dX1_report_101 : decode cX1_report 101 = .ok (.iconst 2, 1) := by decide +kernel
theorem dX1_report_102 : decode cX1_report 102 = .ok (.isub, 1) := by decide +kernel
theorem dX1_report_103 : decode cX1_report 103 = .ok (.iaload, 1) := by decide +kernel
theorem dX1_report_104 : decode cX1_report 104 = .ok (.goto 4, 3) := by decide +kernel
theorem dX1_report_107 : decode cX1_report 107 = .ok (.iconst 0, 1) := by decide +kernel
theorem dX1_report_108 : decode cX1_report 108 = .ok (.ireturn, 1) := by decide +kernel
set_option maxRecDepth 20000 in
theorem ggX2_init_X1_init : GoodIn wsX2_init wsX1_init := goodIn_r _ [17, 18, 2, 3, 4, 19, 36, 37, 38, 39, 40, 41, 42, 43, 44, 45] (by decide +kernel) (by decide +kernel)
set_option maxRecDepth 20000 in
theorem gX2_init_X1_init_n19 : GoodIn wsX2_init (wsX1_init) := ggX2_init_X1_init
set_option maxRecDepth 20000 in
theorem ggX2_init_X0_init : GoodIn wsX2_init wsX0_init := goodIn_r _ [21, 22, 2, 3, 4, 23, 46, 47, 48, 49, 50, 51, 52, 53, 54, 55] (by decide +kernel) (by decide +kernel)
set_option maxRecDepth 20000 in
theorem gX2_init_X0_init_n26 : GoodIn wsX2_init (wsX0_init) := ggX2_init_X0_init
theorem dX2_init_0 : decode cX2_init 0 = .ok (.aload_n 0, 1) := by decide +kernel
theorem dX2_init_1 : decode cX2_init 1 = .ok (.invokespecial 1, 3) := by decide +kernel
theorem dX2_init_4 : decode cX2_init 4 = .ok (.aload_n 0, 1) := by decide +kernel
theorem dX2_init_5 : decode cX2_init 5 = .ok (.sipush 512, 3) := by decide +kernel
theorem dX2_init_8 : decode cX2_init 8 = .ok (.newarray .int, 2) := by decide +kernel
theorem dX2_init_10 : decode cX2_init 10 = .ok (.putfield 9, 3) := by decide +kernel
theorem dX2_init_13 : decode cX2_init 13 = .ok (.aload_n 0, 1) := by decide +kernel
theorem dX2_init_14 : decode cX2_init 14 = .ok (.bipush 6, 2) := by decide +kernel
theorem dX2_init_16 : decode cX2_init 16 = .ok (.anewarray 13, 3) := by decide +kernel
theorem dX2_init_19 : decode cX2_init 19 = .ok (.putfield 15, 3) := by decide +kernel
theorem dX2_init_22 : decode cX2_init 22 = .ok (.iconst 0, 1) := by decide +kernel
theorem dX2_init_23 : decode cX2_init 23 = .ok (.istore_n 1, 1) := by decide +kernel
theorem dX2_init_24 : decode cX2_init 24 = .ok (.iload_n 1, 1) := by decide +kernel
theorem dX2_init_25 : decode cX2_init 25 = .ok (.bipush 6, 2) := by decide +kernel
theorem dX2_init_27 : decode cX2_init 27 = .ok (.if_icmp .ge 22, 3) := by decide +kernel
theorem dX2_init_30 : decode cX2_init 30 = .ok (.aload_n 0, 1) := by decide +kernel
theorem dX2_init_31 : decode cX2_init 31 = .ok (.getfield 15, 3) := by decide +kernel
theorem dX2_init_34 : decode cX2_init 34 = .ok (.iload_n 1, 1) := by decide +kernel
theorem dX2_init_35 : decode cX2_init 35 = .ok (.new 13, 3) := by decide +kernel
theorem dX2_init_38 : decode cX2_init 38 = .ok (.dup, 1) := by decide +kernel
theorem dX2_init_39 : decode cX2_init 39 = .ok (.invokespecial 19, 3) := by decide +kernel
theorem dX2_init_42 : decode cX2_init 42 = .ok (.aastore, 1) := by decide +kernel
theorem dX2_init_43 : decode cX2_init 43 = .ok (.iinc 1 1, 3) := by decide +kernel
theorem dX2_init_46 : decode cX2_init 46 = .ok (.goto (-22), 3) := by decide +kernel
theorem dX2_init_49 : decode cX2_init 49 = .ok (.aload_n 0, 1) := by decide +kernel
theorem dX2_init_50 : decode cX2_init 50 = .ok (.bipush 8, 2) := by decide +kernel
theorem dX2_init_52 : decode cX2_init 52 = .ok (.anewarray 20, 3) := by decide +kernel
theorem dX2_init_55 : decode cX2_init 55 = .ok (.putfield 22, 3) := by decide +kernel
theorem dX2_init_58 : decode cX2_init 58 = .ok (.iconst 0, 1) := by decide +kernel
theorem dX2_init_59 : decode cX2_init 59 = .ok (.istore_n 1, 1) := by decide +kernel
theorem dX2_init_60 : decode cX2_init 60 = .ok (.iload_n 1, 1) := by decide +kernel
theorem dX2_init_61 : decode cX2_init 61 = .ok (.bipush 8, 2) := by decide +kernel
theorem dX2_init_63 : decode cX2_init 63 = .ok (.if_icmp .ge 22, 3) := by decide +kernel
theorem dX2_init_66 : decode cX2_init 66 = .ok (.aload_n 0, 1) := by decide +kernel
theorem dX2_init_67 : decode cX2_init 67 = .ok (.getfield 22, 3) := by decide +kernel
theorem dX2_init_70 : decode cX2_init 70 = .ok (.iload_n 1, 1) := by decide +kernel
theorem dX2_init_71 : decode cX2_init 71 = .ok (.new 20, 3) := by decide +kernel
theorem dX2_init_74 : decode cX2_init 74 = .ok (.dup, 1) := by decide +kernel
theorem dX2_init_75 : decode cX2_init 75 = .ok (.invokespecial 26, 3) := by decide +kernel
theorem dX2_init_78 : decode cX2_init 78 = .ok (.aastore, 1) := by decide +kernel
theorem dX2_init_79 : decode cX2_init 79 = .ok (.iinc 1 1, 3) := by decide +kernel
theorem dX2_init_82 : decode cX2_init 82 = .ok (.goto (-22), 3) := by decide +kernel
theorem dX2_init_85 : decode cX2_init 85 = .ok (.aload_n 0, 1) := by decide +kernel
theorem dX2_init_86 : decode cX2_init 86 = .ok (.bipush 12, 2) := by decide +kernel
theorem dX2_init_88 : decode cX2_init 88 = .ok (.newarray .int, 2) := by decide +kernel
theorem dX2_init_90 : decode cX2_init 90 = .ok (.putfield 27, 3) := by decide +kernel
theorem dX2_init_93 : decode cX2_init 93 = .ok (.aload_n 0, 1) := by decide +kernel
theorem dX2_init_94 : decode cX2_init 94 = .ok (.bipush 12, 2) := by decide +kernel
theorem dX2_init_96 : decode cX2_init 96 = .ok (.newarray .int, 2) := by decide +kernel
theorem dX2_init_98 : decode cX2_init 98 = .ok (.putfield 30, 3) := by decide +kernel
theorem dX2_init_101 : decode cX2_init 101 = .ok (.return_, 1) := by decide +kernel
set_option maxRecDepth 20000 in
theorem ggX2_partition_X2_refuseIfSealed : GoodIn wsX2_partition wsX2_refuseIfSealed := goodIn_ca (goodIn_r _ [8, 9, 10, 11, 36, 37, 38, 39, 40, 41, 42, 43, 44, 45, 46, 47] (by decide +kernel) (by decide +kernel)) (goodIn_sub (fun _ h => List.mem_cons_of_mem _ (List.mem_append_right _ h)) (by decide +kernel))
set_option maxRecDepth 20000 in
theorem gX2_partition_X2_refuseIfSealed : GoodIn wsX2_partition (wsV RX2 33 RX2 yX2_refuseIfSealed wsX2_refuseIfSealed) := goodIn_app (goodIn_of _ (by decide +kernel)) ggX2_partition_X2_refuseIfSealed
set_option maxRecDepth 20000 in
theorem ggX2_partition_X1_isTold : GoodIn wsX2_partition wsX1_isTold := goodIn_r _ [15, 16, 48, 49, 50, 51, 52, 53, 54, 55, 56, 57] (by decide +kernel) (by decide +kernel)
set_option maxRecDepth 20000 in
theorem gX2_partition_X1_isTold_n36 : GoodIn wsX2_partition (wsX1_isTold) := ggX2_partition_X1_isTold
set_option maxRecDepth 20000 in
theorem ggX2_partition_X2_isInMemory : GoodIn wsX2_partition wsX2_isInMemory := goodIn_r _ [19] (by decide +kernel) (by decide +kernel)
set_option maxRecDepth 20000 in
theorem gX2_partition_X2_isInMemory : GoodIn wsX2_partition (va_wsS RX2 47 yX2_isInMemory wsX2_isInMemory) := goodIn_app (goodIn_of _ (by decide +kernel)) ggX2_partition_X2_isInMemory
set_option maxRecDepth 20000 in
theorem ggX2_partition_X2_sharesWord : GoodIn wsX2_partition wsX2_sharesWord := goodIn_r _ [23, 3, 24, 13, 25, 26, 27, 28, 29, 12, 14, 15, 16, 36, 37, 38, 39, 40, 41, 42, 43, 44, 45, 46, 47, 48, 49, 50, 51, 52, 53, 54, 55, 56, 57] (by decide +kernel) (by decide +kernel)
set_option maxRecDepth 20000 in
theorem gX2_partition_X2_sharesWord : GoodIn wsX2_partition (wsV RX2 51 RX2 yX2_sharesWord wsX2_sharesWord) := goodIn_app (goodIn_of _ (by decide +kernel)) ggX2_partition_X2_sharesWord
set_option maxRecDepth 20000 in
theorem ggX2_partition_X1_tell : GoodIn wsX2_partition wsX1_tell := goodIn_r _ [32, 16, 27, 28, 33, 34, 35, 48, 49, 50, 51, 52, 53, 54, 55, 56, 57] (by decide +kernel) (by decide +kernel)
set_option maxRecDepth 20000 in
theorem gX2_partition_X1_tell_n58 : GoodIn wsX2_partition (wsX1_tell) := ggX2_partition_X1_tell
theorem dX2_partition_0 : decode cX2_partition 0 = .ok (.aload_n 0, 1) := by decide +kernel
theorem dX2_partition_1 : decode cX2_partition 1 = .ok (.invokevirtual 33, 3) := by decide +kernel
theorem dX2_partition_4 : decode cX2_partition 4 = .ok (.iload_n 1, 1) := by decide +kernel
theorem dX2_partition_5 : decode cX2_partition 5 = .ok (.ifCond .lt 21, 3) := by decide +kernel
theorem dX2_partition_8 : decode cX2_partition 8 = .ok (.iload_n 1, 1) := by decide +kernel
theorem dX2_partition_9 : decode cX2_partition 9 = .ok (.bipush 6, 2) := by decide +kernel
theorem dX2_partition_11 : decode cX2_partition 11 = .ok (.if_icmp .ge 15, 3) := by decide +kernel
theorem dX2_partition_14 : decode cX2_partition 14 = .ok (.aload_n 0, 1) := by decide +kernel
theorem dX2_partition_15 : decode cX2_partition 15 = .ok (.getfield 15, 3) := by decide +kernel
theorem dX2_partition_18 : decode cX2_partition 18 = .ok (.iload_n 1, 1) := by decide +kernel
theorem dX2_partition_19 : decode cX2_partition 19 = .ok (.aaload, 1) := by decide +kernel
theorem dX2_partition_20 : decode cX2_partition 20 = .ok (.invokevirtual 36, 3) := by decide +kernel
theorem dX2_partition_23 : decode cX2_partition 23 = .ok (.ifCond .eq 13, 3) := by decide +kernel
theorem dX2_partition_26 : decode cX2_partition 26 = .ok (.new 40, 3) := by decide +kernel
theorem dX2_partition_29 : decode cX2_partition 29 = .ok (.dup, 1) := by decide +kernel
theorem dX2_partition_30 : decode cX2_partition 30 = .ok (.ldc 42, 2) := by decide +kernel
theorem dX2_partition_32 : decode cX2_partition 32 = .ok (.invokespecial 44, 3) := by decide +kernel
theorem dX2_partition_35 : decode cX2_partition 35 = .ok (.athrow, 1) := by decide +kernel
theorem dX2_partition_36 : decode cX2_partition 36 = .ok (.iload_n 2, 1) := by decide +kernel
theorem dX2_partition_37 : decode cX2_partition 37 = .ok (.iload_n 3, 1) := by decide +kernel
theorem dX2_partition_38 : decode cX2_partition 38 = .ok (.invokestatic 47, 3) := by decide +kernel
theorem dX2_partition_41 : decode cX2_partition 41 = .ok (.ifCond .eq 12, 3) := by decide +kernel
theorem dX2_partition_44 : decode cX2_partition 44 = .ok (.aload_n 0, 1) := by decide +kernel
theorem dX2_partition_45 : decode cX2_partition 45 = .ok (.iload_n 2, 1) := by decide +kernel
theorem dX2_partition_46 : decode cX2_partition 46 = .ok (.iload_n 3, 1) := by decide +kernel
theorem dX2_partition_47 : decode cX2_partition 47 = .ok (.invokevirtual 51, 3) := by decide +kernel
theorem dX2_partition_50 : decode cX2_partition 50 = .ok (.ifCond .eq 13, 3) := by decide +kernel
theorem dX2_partition_53 : decode cX2_partition 53 = .ok (.new 40, 3) := by decide +kernel
theorem dX2_partition_56 : decode cX2_partition 56 = .ok (.dup, 1) := by decide +kernel
theorem dX2_partition_57 : decode cX2_partition 57 = .ok (.ldc 54, 2) := by decide +kernel
theorem dX2_partition_59 : decode cX2_partition 59 = .ok (.invokespecial 44, 3) := by decide +kernel
theorem dX2_partition_62 : decode cX2_partition 62 = .ok (.athrow, 1) := by decide +kernel
theorem dX2_partition_63 : decode cX2_partition 63 = .ok (.iload 4, 2) := by decide +kernel
theorem dX2_partition_65 : decode cX2_partition 65 = .ok (.ifCond .lt 21, 3) := by decide +kernel
theorem dX2_partition_68 : decode cX2_partition 68 = .ok (.iload 4, 2) := by decide +kernel
theorem dX2_partition_70 : decode cX2_partition 70 = .ok (.iload_n 3, 1) := by decide +kernel
theorem dX2_partition_71 : decode cX2_partition 71 = .ok (.if_icmp .ge 15, 3) := by decide +kernel
theorem dX2_partition_74 : decode cX2_partition 74 = .ok (.iload 5, 2) := by decide +kernel
theorem dX2_partition_76 : decode cX2_partition 76 = .ok (.ifCond .lt 10, 3) := by decide +kernel
theorem dX2_partition_79 : decode cX2_partition 79 = .ok (.iload 5, 2) := by decide +kernel
theorem dX2_partition_81 : decode cX2_partition 81 = .ok (.bipush 100, 2) := by decide +kernel
theorem dX2_partition_83 : decode cX2_partition 83 = .ok (.if_icmp .le 13, 3) := by decide +kernel
theorem dX2_partition_86 : decode cX2_partition 86 = .ok (.new 40, 3) := by decide +kernel
theorem dX2_partition_89 : decode cX2_partition 89 = .ok (.dup, 1) := by decide +kernel
theorem dX2_partition_90 : decode cX2_partition 90 = .ok (.ldc 56, 2) := by decide +kernel
theorem dX2_partition_92 : decode cX2_partition 92 = .ok (.invokespecial 44, 3) := by decide +kernel
theorem dX2_partition_95 : decode cX2_partition 95 = .ok (.athrow, 1) := by decide +kernel
theorem dX2_partition_96 : decode cX2_partition 96 = .ok (.aload_n 0, 1) := by decide +kernel
theorem dX2_partition_97 : decode cX2_partition 97 = .ok (.getfield 15, 3) := by decide +kernel
theorem dX2_partition_100 : decode cX2_partition 100 = .ok (.iload_n 1, 1) := by decide +kernel
theorem dX2_partition_101 : decode cX2_partition 101 = .ok (.aaload, 1) := by decide +kernel
theorem dX2_partition_102 : decode cX2_partition 102 = .ok (.iload_n 2, 1) := by decide +kernel
theorem dX2_partition_103 : decode cX2_partition 103 = .ok (.iload_n 3, 1) := by decide +kernel
theorem dX2_partition_104 : decode cX2_partition 104 = .ok (.iload 4, 2) := by decide +kernel
theorem dX2_partition_106 : decode cX2_partition 106 = .ok (.iload 5, 2) := by decide +kernel
theorem dX2_partition_108 : decode cX2_partition 108 = .ok (.invokevirtual 58, 3) := by decide +kernel
theorem dX2_partition_111 : decode cX2_partition 111 = .ok (.return_, 1) := by decide +kernel
set_option maxRecDepth 20000 in
theorem ggX2_window_X2_refuseIfSealed : GoodIn wsX2_window wsX2_refuseIfSealed := goodIn_ca (goodIn_r _ [11, 12, 13, 14, 25, 26, 27, 28, 29, 30, 31, 32, 33, 34, 35, 36] (by decide +kernel) (by decide +kernel)) (goodIn_sub (fun _ h => List.mem_cons_of_mem _ (List.mem_append_right _ h)) (by decide +kernel))
set_option maxRecDepth 20000 in
theorem gX2_window_X2_refuseIfSealed : GoodIn wsX2_window (wsV RX2 33 RX2 yX2_refuseIfSealed wsX2_refuseIfSealed) := goodIn_app (goodIn_of _ (by decide +kernel)) ggX2_window_X2_refuseIfSealed
set_option maxRecDepth 20000 in
theorem ggX2_window_X2_refuseUnlessTold : GoodIn wsX2_window wsX2_refuseUnlessTold := goodIn_ca (goodIn_r _ [18, 1, 2, 19, 20, 21, 22, 23, 24, 25, 26, 27, 28, 29, 30, 31, 32, 33, 34, 35, 36, 37, 38, 39, 40, 41, 42, 43, 44, 45, 46] (by decide +kernel) (by decide +kernel)) (goodIn_sub (fun _ h => List.mem_cons_of_mem _ (List.mem_append_left _ (List.mem_append_right _ h))) (by decide +kernel))
set_option maxRecDepth 20000 in
theorem gX2_window_X2_refuseUnlessTold : GoodIn wsX2_window (wsV RX2 62 RX2 yX2_refuseUnlessTold wsX2_refuseUnlessTold) := goodIn_app (goodIn_of _ (by decide +kernel)) ggX2_window_X2_refuseUnlessTold
theorem dX2_window_0 : decode cX2_window 0 = .ok (.aload_n 0, 1) := by decide +kernel
theorem dX2_window_1 : decode cX2_window 1 = .ok (.invokevirtual 33, 3) := by decide +kernel
theorem dX2_window_4 : decode cX2_window 4 = .ok (.iload_n 1, 1) := by decide +kernel
theorem dX2_window_5 : decode cX2_window 5 = .ok (.iconst (-1), 1) := by decide +kernel
theorem dX2_window_6 : decode cX2_window 6 = .ok (.if_icmp .eq 8, 3) := by decide +kernel
theorem dX2_window_9 : decode cX2_window 9 = .ok (.aload_n 0, 1) := by decide +kernel
theorem dX2_window_10 : decode cX2_window 10 = .ok (.iload_n 1, 1) := by decide +kernel
theorem dX2_window_11 : decode cX2_window 11 = .ok (.invokevirtual 62, 3) := by decide +kernel
theorem dX2_window_14 : decode cX2_window 14 = .ok (.iload_n 2, 1) := by decide +kernel
theorem dX2_window_15 : decode cX2_window 15 = .ok (.iconst 1, 1) := by decide +kernel
theorem dX2_window_16 : decode cX2_window 16 = .ok (.if_icmp .lt 18, 3) := by decide +kernel
theorem dX2_window_19 : decode cX2_window 19 = .ok (.iload_n 2, 1) := by decide +kernel
theorem dX2_window_20 : decode cX2_window 20 = .ok (.bipush 100, 2) := by decide +kernel
theorem dX2_window_22 : decode cX2_window 22 = .ok (.if_icmp .gt 12, 3) := by decide +kernel
theorem dX2_window_25 : decode cX2_window 25 = .ok (.aload_n 0, 1) := by decide +kernel
theorem dX2_window_26 : decode cX2_window 26 = .ok (.getfield 66, 3) := by decide +kernel
theorem dX2_window_29 : decode cX2_window 29 = .ok (.bipush 12, 2) := by decide +kernel
theorem dX2_window_31 : decode cX2_window 31 = .ok (.if_icmp .lt 13, 3) := by decide +kernel
theorem dX2_window_34 : decode cX2_window 34 = .ok (.new 40, 3) := by decide +kernel
theorem dX2_window_37 : decode cX2_window 37 = .ok (.dup, 1) := by decide +kernel
theorem dX2_window_38 : decode cX2_window 38 = .ok (.ldc 70, 2) := by decide +kernel
theorem dX2_window_40 : decode cX2_window 40 = .ok (.invokespecial 44, 3) := by decide +kernel
theorem dX2_window_43 : decode cX2_window 43 = .ok (.athrow, 1) := by decide +kernel
theorem dX2_window_44 : decode cX2_window 44 = .ok (.aload_n 0, 1) := by decide +kernel
theorem dX2_window_45 : decode cX2_window 45 = .ok (.getfield 27, 3) := by decide +kernel
theorem dX2_window_48 : decode cX2_window 48 = .ok (.aload_n 0, 1) := by decide +kernel
theorem dX2_window_49 : decode cX2_window 49 = .ok (.getfield 66, 3) := by decide +kernel
theorem dX2_window_52 : decode cX2_window 52 = .ok (.iload_n 1, 1) := by decide +kernel
theorem dX2_window_53 : decode cX2_window 53 = .ok (.iastore, 1) := by decide +kernel
theorem dX2_window_54 : decode cX2_window 54 = .ok (.aload_n 0, 1) := by decide +kernel
theorem dX2_window_55 : decode cX2_window 55 = .ok (.getfield 30, 3) := by decide +kernel
theorem dX2_window_58 : decode cX2_window 58 = .ok (.aload_n 0, 1) := by decide +kernel
theorem dX2_window_59 : decode cX2_window 59 = .ok (.getfield 66, 3) := by decide +kernel
theorem dX2_window_62 : decode cX2_window 62 = .ok (.iload_n 2, 1) := by decide +kernel
theorem dX2_window_63 : decode cX2_window 63 = .ok (.iastore, 1) := by decide +kernel
theorem dX2_window_64 : decode cX2_window 64 = .ok (.aload_n 0, 1) := by decide +kernel
theorem dX2_window_65 : decode cX2_window 65 = .ok (.dup, 1) := by decide +kernel
theorem dX2_window_66 : decode cX2_window 66 = .ok (.getfield 66, 3) := by decide +kernel
theorem dX2_window_69 : decode cX2_window 69 = .ok (.iconst 1, 1) := by decide +kernel
theorem dX2_window_70 : decode cX2_window 70 = .ok (.iadd, 1) := by decide +kernel
theorem dX2_window_71 : decode cX2_window 71 = .ok (.putfield 66, 3) := by decide +kernel
theorem dX2_window_74 : decode cX2_window 74 = .ok (.aload_n 0, 1) := by decide +kernel
theorem dX2_window_75 : decode cX2_window 75 = .ok (.dup, 1) := by decide +kernel
theorem dX2_window_76 : decode cX2_window 76 = .ok (.getfield 72, 3) := by decide +kernel
theorem dX2_window_79 : decode cX2_window 79 = .ok (.iload_n 2, 1) := by decide +kernel
theorem dX2_window_80 : decode cX2_window 80 = .ok (.iadd, 1) := by decide +kernel
theorem dX2_window_81 : decode cX2_window 81 = .ok (.putfield 72, 3) := by decide +kernel
theorem dX2_window_84 : decode cX2_window 84 = .ok (.aload_n 0, 1) := by decide +kernel
theorem dX2_window_85 : decode cX2_window 85 = .ok (.getfield 66, 3) := by decide +kernel
theorem dX2_window_88 : decode cX2_window 88 = .ok (.ireturn, 1) := by decide +kernel
set_option maxRecDepth 20000 in
theorem ggX2_channel_X2_refuseIfSealed : GoodIn wsX2_channel wsX2_refuseIfSealed := goodIn_ca (goodIn_r _ [8, 9, 10, 11, 30, 31, 32, 33, 34, 35, 36, 37, 38, 39, 40, 41] (by decide +kernel) (by decide +kernel)) (goodIn_sub (fun _ h => List.mem_cons_of_mem _ (List.mem_append_right _ h)) (by decide +kernel))
set_option maxRecDepth 20000 in
theorem gX2_channel_X2_refuseIfSealed : GoodIn wsX2_channel (wsV RX2 33 RX2 yX2_refuseIfSealed wsX2_refuseIfSealed) := goodIn_app (goodIn_of _ (by decide +kernel)) ggX2_channel_X2_refuseIfSealed
set_option maxRecDepth 20000 in
theorem ggX2_channel_X2_refuseUnlessTold : GoodIn wsX2_channel wsX2_refuseUnlessTold := goodIn_ca (goodIn_r _ [15, 1, 2, 16, 17, 18, 19, 20, 21, 30, 31, 32, 33, 34, 35, 36, 37, 38, 39, 40, 41, 52, 53, 54, 55, 56, 57, 58, 59, 60, 61] (by decide +kernel) (by decide +kernel)) (goodIn_sub (fun _ h => List.mem_cons_of_mem _ (List.mem_append_left _ (List.mem_append_right _ h))) (by decide +kernel))
set_option maxRecDepth 20000 in
theorem gX2_channel_X2_refuseUnlessTold : GoodIn wsX2_channel (wsV RX2 62 RX2 yX2_refuseUnlessTold wsX2_refuseUnlessTold) := goodIn_app (goodIn_of _ (by decide +kernel)) ggX2_channel_X2_refuseUnlessTold
set_option maxRecDepth 20000 in
theorem ggX2_channel_X0_tell : GoodIn wsX2_channel wsX0_tell := goodIn_r _ [25, 26, 27, 28, 29, 42, 43, 44, 45, 46, 47, 48, 49, 50, 51] (by decide +kernel) (by decide +kernel)
set_option maxRecDepth 20000 in
theorem gX2_channel_X0_tell_n82 : GoodIn wsX2_channel (wsX0_tell) := ggX2_channel_X0_tell
theorem dX2_channel_0 : decode cX2_channel 0 = .ok (.aload_n 0, 1) := by decide +kernel
theorem dX2_channel_1 : decode cX2_channel 1 = .ok (.invokevirtual 33, 3) := by decide +kernel
theorem dX2_channel_4 : decode cX2_channel 4 = .ok (.iload_n 1, 1) := by decide +kernel
theorem dX2_channel_5 : decode cX2_channel 5 = .ok (.ifCond .lt 21, 3) := by decide +kernel
theorem dX2_channel_8 : decode cX2_channel 8 = .ok (.iload_n 1, 1) := by decide +kernel
theorem dX2_channel_9 : decode cX2_channel 9 = .ok (.bipush 8, 2) := by decide +kernel
theorem dX2_channel_11 : decode cX2_channel 11 = .ok (.if_icmp .ge 15, 3) := by decide +kernel
theorem dX2_channel_14 : decode cX2_channel 14 = .ok (.aload_n 0, 1) := by decide +kernel
theorem dX2_channel_15 : decode cX2_channel 15 = .ok (.getfield 22, 3) := by decide +kernel
theorem dX2_channel_18 : decode cX2_channel 18 = .ok (.iload_n 1, 1) := by decide +kernel
theorem dX2_channel_19 : decode cX2_channel 19 = .ok (.aaload, 1) := by decide +kernel
theorem dX2_channel_20 : decode cX2_channel 20 = .ok (.getfield 75, 3) := by decide +kernel
theorem dX2_channel_23 : decode cX2_channel 23 = .ok (.ifCond .eq 13, 3) := by decide +kernel
theorem dX2_channel_26 : decode cX2_channel 26 = .ok (.new 40, 3) := by decide +kernel
theorem dX2_channel_29 : decode cX2_channel 29 = .ok (.dup, 1) := by decide +kernel
theorem dX2_channel_30 : decode cX2_channel 30 = .ok (.ldc 78, 2) := by decide +kernel
theorem dX2_channel_32 : decode cX2_channel 32 = .ok (.invokespecial 44, 3) := by decide +kernel
theorem dX2_channel_35 : decode cX2_channel 35 = .ok (.athrow, 1) := by decide +kernel
theorem dX2_channel_36 : decode cX2_channel 36 = .ok (.aload_n 0, 1) := by decide +kernel
theorem dX2_channel_37 : decode cX2_channel 37 = .ok (.iload_n 2, 1) := by decide +kernel
theorem dX2_channel_38 : decode cX2_channel 38 = .ok (.invokevirtual 62, 3) := by decide +kernel
theorem dX2_channel_41 : decode cX2_channel 41 = .ok (.aload_n 0, 1) := by decide +kernel
theorem dX2_channel_42 : decode cX2_channel 42 = .ok (.iload_n 3, 1) := by decide +kernel
theorem dX2_channel_43 : decode cX2_channel 43 = .ok (.invokevirtual 62, 3) := by decide +kernel
theorem dX2_channel_46 : decode cX2_channel 46 = .ok (.iload_n 2, 1) := by decide +kernel
theorem dX2_channel_47 : decode cX2_channel 47 = .ok (.iload_n 3, 1) := by decide +kernel
theorem dX2_channel_48 : decode cX2_channel 48 = .ok (.if_icmp .eq 15, 3) := by decide +kernel
theorem dX2_channel_51 : decode cX2_channel 51 = .ok (.iload 4, 2) := by decide +kernel
theorem dX2_channel_53 : decode cX2_channel 53 = .ok (.ifCond .lt 10, 3) := by decide +kernel
theorem dX2_channel_56 : decode cX2_channel 56 = .ok (.iload 4, 2) := by decide +kernel
theorem dX2_channel_58 : decode cX2_channel 58 = .ok (.bipush 8, 2) := by decide +kernel
theorem dX2_channel_60 : decode cX2_channel 60 = .ok (.if_icmp .le 13, 3) := by decide +kernel
theorem dX2_channel_63 : decode cX2_channel 63 = .ok (.new 40, 3) := by decide +kernel
theorem dX2_channel_66 : decode cX2_channel 66 = .ok (.dup, 1) := by decide +kernel
theorem dX2_channel_67 : decode cX2_channel 67 = .ok (.ldc 80, 2) := by decide +kernel
theorem dX2_channel_69 : decode cX2_channel 69 = .ok (.invokespecial 44, 3) := by decide +kernel
theorem dX2_channel_72 : decode cX2_channel 72 = .ok (.athrow, 1) := by decide +kernel
theorem dX2_channel_73 : decode cX2_channel 73 = .ok (.aload_n 0, 1) := by decide +kernel
theorem dX2_channel_74 : decode cX2_channel 74 = .ok (.getfield 22, 3) := by decide +kernel
theorem dX2_channel_77 : decode cX2_channel 77 = .ok (.iload_n 1, 1) := by decide +kernel
theorem dX2_channel_78 : decode cX2_channel 78 = .ok (.aaload, 1) := by decide +kernel
theorem dX2_channel_79 : decode cX2_channel 79 = .ok (.iload_n 2, 1) := by decide +kernel
theorem dX2_channel_80 : decode cX2_channel 80 = .ok (.iload_n 3, 1) := by decide +kernel
theorem dX2_channel_81 : decode cX2_channel 81 = .ok (.iload 4, 2) := by decide +kernel
theorem dX2_channel_83 : decode cX2_channel 83 = .ok (.invokevirtual 82, 3) := by decide +kernel
theorem dX2_channel_86 : decode cX2_channel 86 = .ok (.return_, 1) := by decide +kernel
set_option maxRecDepth 20000 in
theorem ggX2_poke_X2_refuseIfSealed : GoodIn wsX2_poke wsX2_refuseIfSealed := goodIn_ca (goodIn_r _ [6, 7, 8, 9, 32, 33, 34, 35, 36, 37, 38, 39, 40, 41, 42, 43] (by decide +kernel) (by decide +kernel)) (goodIn_sub (fun _ h => List.mem_cons_of_mem _ (List.mem_append_left _ (List.mem_append_left _ (List.mem_append_right _ h)))) (by decide +kernel))
set_option maxRecDepth 20000 in
theorem gX2_poke_X2_refuseIfSealed : GoodIn wsX2_poke (wsV RX2 33 RX2 yX2_refuseIfSealed wsX2_refuseIfSealed) := goodIn_app (goodIn_of _ (by decide +kernel)) ggX2_poke_X2_refuseIfSealed
set_option maxRecDepth 20000 in
theorem ggX2_poke_X2_addressOf : GoodIn wsX2_poke wsX2_addressOf := goodIn_ca (goodIn_ca (goodIn_r _ [13, 14, 15, 16, 17, 18, 19, 5, 20, 21, 22, 23, 24, 25, 26, 27, 28, 29, 30, 31, 32, 33, 34, 35, 36, 37, 38, 39, 40, 41, 42, 43, 44, 45, 46, 47, 48, 49, 50, 51, 52, 53] (by decide +kernel) (by decide +kernel)) (goodIn_sub (fun _ h => List.mem_cons_of_mem _ (List.mem_append_left _ (List.mem_append_right _ h))) (by decide +kernel))) (goodIn_sub (fun _ h => List.mem_cons_of_mem _ (List.mem_append_right _ h)) (by decide +kernel))
set_option maxRecDepth 20000 in
theorem gX2_poke_X2_addressOf : GoodIn wsX2_poke (wsV RX2 85 RX2 yX2_addressOf wsX2_addressOf) := goodIn_app (goodIn_of _ (by decide +kernel)) ggX2_poke_X2_addressOf
theorem dX2_poke_0 : decode cX2_poke 0 = .ok (.aload_n 0, 1) := by decide +kernel
theorem dX2_poke_1 : decode cX2_poke 1 = .ok (.invokevirtual 33, 3) := by decide +kernel
theorem dX2_poke_4 : decode cX2_poke 4 = .ok (.aload_n 0, 1) := by decide +kernel
theorem dX2_poke_5 : decode cX2_poke 5 = .ok (.iload_n 1, 1) := by decide +kernel
theorem dX2_poke_6 : decode cX2_poke 6 = .ok (.iload_n 2, 1) := by decide +kernel
theorem dX2_poke_7 : decode cX2_poke 7 = .ok (.invokevirtual 85, 3) := by decide +kernel
theorem dX2_poke_10 : decode cX2_poke 10 = .ok (.istore 4, 2) := by decide +kernel
theorem dX2_poke_12 : decode cX2_poke 12 = .ok (.aload_n 0, 1) := by decide +kernel
theorem dX2_poke_13 : decode cX2_poke 13 = .ok (.getfield 9, 3) := by decide +kernel
theorem dX2_poke_16 : decode cX2_poke 16 = .ok (.iload 4, 2) := by decide +kernel
theorem dX2_poke_18 : decode cX2_poke 18 = .ok (.iaload, 1) := by decide +kernel
theorem dX2_poke_19 : decode cX2_poke 19 = .ok (.istore 5, 2) := by decide +kernel
theorem dX2_poke_21 : decode cX2_poke 21 = .ok (.aload_n 0, 1) := by decide +kernel
theorem dX2_poke_22 : decode cX2_poke 22 = .ok (.getfield 9, 3) := by decide +kernel
theorem dX2_poke_25 : decode cX2_poke 25 = .ok (.iload 4, 2) := by decide +kernel
theorem dX2_poke_27 : decode cX2_poke 27 = .ok (.iload_n 3, 1) := by decide +kernel
theorem dX2_poke_28 : decode cX2_poke 28 = .ok (.iastore, 1) := by decide +kernel
theorem dX2_poke_29 : decode cX2_poke 29 = .ok (.iload 5, 2) := by decide +kernel
theorem dX2_poke_31 : decode cX2_poke 31 = .ok (.ireturn, 1) := by decide +kernel
set_option maxRecDepth 20000 in
theorem ggX2_peek_X2_addressOf : GoodIn wsX2_peek wsX2_addressOf := goodIn_ca (goodIn_ca (goodIn_r _ [6, 7, 8, 9, 10, 11, 12, 5, 13, 14, 15, 16, 17, 18, 19, 20, 21, 22, 23, 24, 25, 26, 27, 28, 29, 30, 31, 32, 33, 34, 35, 36, 37, 38, 39, 40, 41, 42, 43, 44, 45, 46] (by decide +kernel) (by decide +kernel)) (goodIn_sub (fun _ h => List.mem_cons_of_mem _ (List.mem_append_left _ (List.mem_append_right _ h))) (by decide +kernel))) (goodIn_sub (fun _ h => List.mem_cons_of_mem _ (List.mem_append_right _ h)) (by decide +kernel))
set_option maxRecDepth 20000 in
theorem gX2_peek_X2_addressOf : GoodIn wsX2_peek (wsV RX2 85 RX2 yX2_addressOf wsX2_addressOf) := goodIn_app (goodIn_of _ (by decide +kernel)) ggX2_peek_X2_addressOf
theorem dX2_peek_0 : decode cX2_peek 0 = .ok (.aload_n 0, 1) := by decide +kernel
theorem dX2_peek_1 : decode cX2_peek 1 = .ok (.getfield 9, 3) := by decide +kernel
theorem dX2_peek_4 : decode cX2_peek 4 = .ok (.aload_n 0, 1) := by decide +kernel
theorem dX2_peek_5 : decode cX2_peek 5 = .ok (.iload_n 1, 1) := by decide +kernel
theorem dX2_peek_6 : decode cX2_peek 6 = .ok (.iload_n 2, 1) := by decide +kernel
theorem dX2_peek_7 : decode cX2_peek 7 = .ok (.invokevirtual 85, 3) := by decide +kernel
theorem dX2_peek_10 : decode cX2_peek 10 = .ok (.iaload, 1) := by decide +kernel
theorem dX2_peek_11 : decode cX2_peek 11 = .ok (.ireturn, 1) := by decide +kernel
set_option maxRecDepth 20000 in
theorem ggX2_seal_X2_refuseIfSealed : GoodIn wsX2_seal wsX2_refuseIfSealed := goodIn_ca (goodIn_r _ [10, 1, 2, 4, 11, 12, 13, 14, 15, 16, 17, 18, 19, 20, 21, 22] (by decide +kernel) (by decide +kernel)) (goodIn_sub (fun _ h => List.mem_cons_of_mem _ (List.mem_append_right _ h)) (by decide +kernel))
set_option maxRecDepth 20000 in
theorem gX2_seal_X2_refuseIfSealed : GoodIn wsX2_seal (wsV RX2 33 RX2 yX2_refuseIfSealed wsX2_refuseIfSealed) := goodIn_app (goodIn_of _ (by decide +kernel)) ggX2_seal_X2_refuseIfSealed
theorem dX2_seal_0 : decode cX2_seal 0 = .ok (.aload_n 0, 1) := by decide +kernel
theorem dX2_seal_1 : decode cX2_seal 1 = .ok (.invokevirtual 33, 3) := by decide +kernel
theorem dX2_seal_4 : decode cX2_seal 4 = .ok (.aload_n 0, 1) := by decide +kernel
theorem dX2_seal_5 : decode cX2_seal 5 = .ok (.getfield 66, 3) := by decide +kernel
theorem dX2_seal_8 : decode cX2_seal 8 = .ok (.ifCond .ne 13, 3) := by decide +kernel
theorem dX2_seal_11 : decode cX2_seal 11 = .ok (.new 89, 3) := by decide +kernel
theorem dX2_seal_14 : decode cX2_seal 14 = .ok (.dup, 1) := by decide +kernel
theorem dX2_seal_15 : decode cX2_seal 15 = .ok (.ldc 91, 2) := by decide +kernel
theorem dX2_seal_17 : decode cX2_seal 17 = .ok (.invokespecial 93, 3) := by decide +kernel
theorem dX2_seal_20 : decode cX2_seal 20 = .ok (.athrow, 1) := by decide +kernel
theorem dX2_seal_21 : decode cX2_seal 21 = .ok (.aload_n 0, 1) := by decide +kernel
theorem dX2_seal_22 : decode cX2_seal 22 = .ok (.iconst 1, 1) := by decide +kernel
theorem dX2_seal_23 : decode cX2_seal 23 = .ok (.putfield 94, 3) := by decide +kernel
theorem dX2_seal_26 : decode cX2_seal 26 = .ok (.aload_n 0, 1) := by decide +kernel
theorem dX2_seal_27 : decode cX2_seal 27 = .ok (.getfield 72, 3) := by decide +kernel
theorem dX2_seal_30 : decode cX2_seal 30 = .ok (.ireturn, 1) := by decide +kernel
set_option maxRecDepth 20000 in
theorem ggX2_step_X2_goOneTick : GoodIn wsX2_step wsX2_goOneTick := goodIn_r _ [10, 11, 12, 13, 14, 15, 16, 17, 18, 9, 19, 20, 21, 22, 23, 24, 25, 26, 27, 28, 29, 30, 31, 32, 33, 34, 35, 36, 37, 38, 39, 40, 41, 42, 43, 44, 45, 46, 47, 48, 49, 50, 51, 52, 53, 54, 55, 56, 57, 58, 59, 60, 61, 62, 63, 64, 65, 66, 67, 68, 69, 70, 71, 72, 73, 74, 75, 76, 77, 78, 79, 80, 81, 82, 83, 84, 85, 86, 87, 88, 89, 90, 91, 92, 93, 94, 95, 96, 97, 98, 99, 100, 101, 102, 103, 104, 105, 106, 107, 108, 109, 110, 111, 112, 113, 114, 115, 116, 117, 118, 119, 120, 121, 122, 123, 124, 125, 126, 127, 128, 129, 130, 131, 132, 133, 134, 135, 136, 137, 138, 139, 140, 141, 142] (by decide +kernel) (by decide +kernel)
set_option maxRecDepth 20000 in
theorem gX2_step_X2_goOneTick : GoodIn wsX2_step (wsV RX2 101 RX2 yX2_goOneTick wsX2_goOneTick) := goodIn_app (goodIn_of _ (by decide +kernel)) ggX2_step_X2_goOneTick
theorem dX2_step_0 : decode cX2_step 0 = .ok (.aload_n 0, 1) := by decide +kernel
theorem dX2_step_1 : decode cX2_step 1 = .ok (.getfield 94, 3) := by decide +kernel
theorem dX2_step_4 : decode cX2_step 4 = .ok (.ifCond .ne 13, 3) := by decide +kernel
theorem dX2_step_7 : decode cX2_step 7 = .ok (.new 89, 3) := by decide +kernel
theorem dX2_step_10 : decode cX2_step 10 = .ok (.dup, 1) := by decide +kernel
theorem dX2_step_11 : decode cX2_step 11 = .ok (.ldc 97, 2) := by decide +kernel
theorem dX2_step_13 : decode cX2_step 13 = .ok (.invokespecial 93, 3) := by decide +kernel
theorem dX2_step_16 : decode cX2_step 16 = .ok (.athrow, 1) := by decide +kernel
theorem dX2_step_17 : decode cX2_step 17 = .ok (.iload_n 1, 1) := by decide +kernel
theorem dX2_step_18 : decode cX2_step 18 = .ok (.ifCond .lt 10, 3) := by decide +kernel
theorem dX2_step_21 : decode cX2_step 21 = .ok (.iload_n 1, 1) := by decide +kernel
theorem dX2_step_22 : decode cX2_step 22 = .ok (.sipush 5000, 3) := by decide +kernel
theorem dX2_step_25 : decode cX2_step 25 = .ok (.if_icmp .le 13, 3) := by decide +kernel
theorem dX2_step_28 : decode cX2_step 28 = .ok (.new 40, 3) := by decide +kernel
theorem dX2_step_31 : decode cX2_step 31 = .ok (.dup, 1) := by decide +kernel
theorem dX2_step_32 : decode cX2_step 32 = .ok (.ldc 99, 2) := by decide +kernel
theorem dX2_step_34 : decode cX2_step 34 = .ok (.invokespecial 44, 3) := by decide +kernel
theorem dX2_step_37 : decode cX2_step 37 = .ok (.athrow, 1) := by decide +kernel
theorem dX2_step_38 : decode cX2_step 38 = .ok (.iconst 0, 1) := by decide +kernel
theorem dX2_step_39 : decode cX2_step 39 = .ok (.istore_n 2, 1) := by decide +kernel
theorem dX2_step_40 : decode cX2_step 40 = .ok (.iconst 0, 1) := by decide +kernel
theorem dX2_step_41 : decode cX2_step 41 = .ok (.istore_n 3, 1) := by decide +kernel
theorem dX2_step_42 : decode cX2_step 42 = .ok (.iload_n 3, 1) := by decide +kernel
theorem dX2_step_43 : decode cX2_step 43 = .ok (.iload_n 1, 1) := by decide +kernel
theorem dX2_step_44 : decode cX2_step 44 = .ok (.if_icmp .ge 19, 3) := by decide +kernel
theorem dX2_step_47 : decode cX2_step 47 = .ok (.aload_n 0, 1) := by decide +kernel
theorem dX2_step_48 : decode cX2_step 48 = .ok (.invokevirtual 101, 3) := by decide +kernel
theorem dX2_step_51 : decode cX2_step 51 = .ok (.ifCond .eq 6, 3) := by decide +kernel
theorem dX2_step_54 : decode cX2_step 54 = .ok (.iinc 2 1, 3) := by decide +kernel
theorem dX2_step_57 : decode cX2_step 57 = .ok (.iinc 3 1, 3) := by decide +kernel
theorem dX2_step_60 : decode cX2_step 60 = .ok (.goto (-18), 3) := by decide +kernel
theorem dX2_step_63 : decode cX2_step 63 = .ok (.iload_n 2, 1) := by decide +kernel
theorem dX2_step_64 : decode cX2_step 64 = .ok (.ireturn, 1) := by decide +kernel
set_option maxRecDepth 20000 in
theorem ggX2_told_X1_report : GoodIn wsX2_told wsX1_report := goodIn_r _ [7, 8, 9, 10, 11, 12, 13, 14, 27, 28, 29, 30, 31, 32, 33, 34, 35, 36] (by decide +kernel) (by decide +kernel)
set_option maxRecDepth 20000 in
theorem gX2_told_X1_report_n106 : GoodIn wsX2_told (wsX1_report) := ggX2_told_X1_report
theorem dX2_told_0 : decode cX2_told 0 = .ok (.iload_n 1, 1) := by decide +kernel
theorem dX2_told_1 : decode cX2_told 1 = .ok (.ifCond .lt 19, 3) := by decide +kernel
theorem dX2_told_4 : decode cX2_told 4 = .ok (.iload_n 1, 1) := by decide +kernel
theorem dX2_told_5 : decode cX2_told 5 = .ok (.bipush 6, 2) := by decide +kernel
theorem dX2_told_7 : decode cX2_told 7 = .ok (.if_icmp .ge 13, 3) := by decide +kernel
theorem dX2_told_10 : decode cX2_told 10 = .ok (.iload_n 2, 1) := by decide +kernel
theorem dX2_told_11 : decode cX2_told 11 = .ok (.ifCond .lt 9, 3) := by decide +kernel
theorem dX2_told_14 : decode cX2_told 14 = .ok (.iload_n 2, 1) := by decide +kernel
theorem dX2_told_15 : decode cX2_told 15 = .ok (.bipush 9, 2) := by decide +kernel
theorem dX2_told_17 : decode cX2_told 17 = .ok (.if_icmp .le 13, 3) := by decide +kernel
theorem dX2_told_20 : decode cX2_told 20 = .ok (.new 40, 3) := by decide +kernel
theorem dX2_told_23 : decode cX2_told 23 = .ok (.dup, 1) := by decide +kernel
theorem dX2_told_24 : decode cX2_told 24 = .ok (.ldc 104, 2) := by decide +kernel
theorem dX2_told_26 : decode cX2_told 26 = .ok (.invokespecial 44, 3) := by decide +kernel
theorem dX2_told_29 : decode cX2_told 29 = .ok (.athrow, 1) := by decide +kernel
theorem dX2_told_30 : decode cX2_told 30 = .ok (.aload_n 0, 1) := by decide +kernel
theorem dX2_told_31 : decode cX2_told 31 = .ok (.getfield 15, 3) := by decide +kernel
theorem dX2_told_34 : decode cX2_told 34 = .ok (.iload_n 1, 1) := by decide +kernel
theorem dX2_told_35 : decode cX2_told 35 = .ok (.aaload, 1) := by decide +kernel
theorem dX2_told_36 : decode cX2_told 36 = .ok (.iload_n 2, 1) := by decide +kernel
theorem dX2_told_37 : decode cX2_told 37 = .ok (.invokevirtual 106, 3) := by decide +kernel
theorem dX2_told_40 : decode cX2_told 40 = .ok (.ireturn, 1) := by decide +kernel
set_option maxRecDepth 20000 in
theorem ggX2_has_X2_isChannel : GoodIn wsX2_has wsX2_isChannel := goodIn_r _ [9, 3, 42, 43, 44, 45, 46, 47, 48, 49, 50, 51, 52, 53, 54, 55, 56, 57, 58, 59, 60, 61, 62, 63] (by decide +kernel) (by decide +kernel)
set_option maxRecDepth 20000 in
theorem gX2_has_X2_isChannel : GoodIn wsX2_has (wsV RX2 110 RX2 yX2_isChannel wsX2_isChannel) := goodIn_app (goodIn_of _ (by decide +kernel)) ggX2_has_X2_isChannel
set_option maxRecDepth 20000 in
theorem ggX2_has_X0_report : GoodIn wsX2_has wsX0_report := goodIn_r _ [13, 14, 15, 16, 17, 18, 19, 11, 20, 21, 22, 23, 24, 25, 26, 27, 28, 29, 30, 31, 32, 33, 34, 35, 36, 37, 38, 39, 40, 41, 54, 55, 56, 57, 58, 59, 60, 61, 62, 63] (by decide +kernel) (by decide +kernel)
set_option maxRecDepth 20000 in
theorem gX2_has_X0_report_n119 : GoodIn wsX2_has (wsX0_report) := ggX2_has_X0_report
theorem dX2_has_0 : decode cX2_has 0 = .ok (.aload_n 0, 1) := by decide +kernel
theorem dX2_has_1 : decode cX2_has 1 = .ok (.iload_n 1, 1) := by decide +kernel
theorem dX2_has_2 : decode cX2_has 2 = .ok (.invokevirtual 110, 3) := by decide +kernel
theorem dX2_has_5 : decode cX2_has 5 = .ok (.ifCond .eq 12, 3) := by decide +kernel
theorem dX2_has_8 : decode cX2_has 8 = .ok (.iload_n 2, 1) := by decide +kernel
theorem dX2_has_9 : decode cX2_has 9 = .ok (.ifCond .lt 8, 3) := by decide +kernel
theorem dX2_has_12 : decode cX2_has 12 = .ok (.iload_n 2, 1) := by decide +kernel
theorem dX2_has_13 : decode cX2_has 13 = .ok (.iconst 4, 1) := by decide +kernel
theorem dX2_has_14 : decode cX2_has 14 = .ok (.if_icmp .le 13, 3) := by decide +kernel
theorem dX2_has_17 : decode cX2_has 17 = .ok (.new 40, 3) := by decide +kernel
theorem dX2_has_20 : decode cX2_has 20 = .ok (.dup, 1) := by decide +kernel
theorem dX2_has_21 : decode cX2_has 21 = .ok (.ldc 114, 2) := by decide +kernel
theorem dX2_has_23 : decode cX2_has 23 = .ok (.invokespecial 44, 3) := by decide +kernel
theorem dX2_has_26 : decode cX2_has 26 = .ok (.athrow, 1) := by decide +kernel
theorem dX2_has_27 : decode cX2_has 27 = .ok (.aload_n 0, 1) := by decide +kernel
theorem dX2_has_28 : decode cX2_has 28 = .ok (.getfield 22, 3) := by decide +kernel
theorem dX2_has_31 : decode cX2_has 31 = .ok (.iload_n 1, 1) := by decide +kernel
theorem dX2_has_32 : decode cX2_has 32 = .ok (.aaload, 1) := by decide +kernel
theorem dX2_has_33 : decode cX2_has 33 = .ok (.iload_n 2, 1) := by decide +kernel
theorem dX2_has_34 : decode cX2_has 34 = .ok (.aload_n 0, 1) := by decide +kernel
theorem dX2_has_35 : decode cX2_has 35 = .ok (.getfield 116, 3) := by decide +kernel
theorem dX2_has_38 : decode cX2_has 38 = .ok (.invokevirtual 119, 3) := by decide +kernel
theorem dX2_has_41 : decode cX2_has 41 = .ok (.ireturn, 1) := by decide +kernel
set_option maxRecDepth 20000 in
theorem ggX2_queued_X2_isChannel : GoodIn wsX2_queued wsX2_isChannel := goodIn_r _ [8, 3, 24, 25, 26, 27, 28, 29, 30, 31, 32, 33, 34, 35, 36, 37, 38, 39, 40, 41, 42, 43, 44, 45] (by decide +kernel) (by decide +kernel)
set_option maxRecDepth 20000 in
theorem gX2_queued_X2_isChannel : GoodIn wsX2_queued (wsV RX2 110 RX2 yX2_isChannel wsX2_isChannel) := goodIn_app (goodIn_of _ (by decide +kernel)) ggX2_queued_X2_isChannel
set_option maxRecDepth 20000 in
theorem ggX2_queued_X0_isSlot : GoodIn wsX2_queued wsX0_isSlot := goodIn_r _ [12, 13, 36, 37, 38, 39, 40, 41, 42, 43, 44, 45] (by decide +kernel) (by decide +kernel)
set_option maxRecDepth 20000 in
theorem gX2_queued_X0_isSlot_n123 : GoodIn wsX2_queued (wsX0_isSlot) := ggX2_queued_X0_isSlot
set_option maxRecDepth 20000 in
theorem ggX2_queued_X0_wordAt : GoodIn wsX2_queued wsX0_wordAt := goodIn_r _ [16, 17, 18, 19, 20, 21, 10, 22, 23, 36, 37, 38, 39, 40, 41, 42, 43, 44, 45] (by decide +kernel) (by decide +kernel)
set_option maxRecDepth 20000 in
theorem gX2_queued_X0_wordAt_n126 : GoodIn wsX2_queued (wsX0_wordAt) := ggX2_queued_X0_wordAt
theorem dX2_queued_0 : decode cX2_queued 0 = .ok (.aload_n 0, 1) := by decide +kernel
theorem dX2_queued_1 : decode cX2_queued 1 = .ok (.iload_n 1, 1) := by decide +kernel
theorem dX2_queued_2 : decode cX2_queued 2 = .ok (.invokevirtual 110, 3) := by decide +kernel
theorem dX2_queued_5 : decode cX2_queued 5 = .ok (.ifCond .ne 13, 3) := by decide +kernel
theorem dX2_queued_8 : decode cX2_queued 8 = .ok (.new 40, 3) := by decide +kernel
theorem dX2_queued_11 : decode cX2_queued 11 = .ok (.dup, 1) := by decide +kernel
theorem dX2_queued_12 : decode cX2_queued 12 = .ok (.ldc 121, 2) := by decide +kernel
theorem dX2_queued_14 : decode cX2_queued 14 = .ok (.invokespecial 44, 3) := by decide +kernel
theorem dX2_queued_17 : decode cX2_queued 17 = .ok (.athrow, 1) := by decide +kernel
theorem dX2_queued_18 : decode cX2_queued 18 = .ok (.aload_n 0, 1) := by decide +kernel
theorem dX2_queued_19 : decode cX2_queued 19 = .ok (.getfield 22, 3) := by decide +kernel
theorem dX2_queued_22 : decode cX2_queued 22 = .ok (.iload_n 1, 1) := by decide +kernel
theorem dX2_queued_23 : decode cX2_queued 23 = .ok (.aaload, 1) := by decide +kernel
theorem dX2_queued_24 : decode cX2_queued 24 = .ok (.invokevirtual 123, 3) := by decide +kernel
theorem dX2_queued_27 : decode cX2_queued 27 = .ok (.ifCond .eq 7, 3) := by decide +kernel
theorem dX2_queued_30 : decode cX2_queued 30 = .ok (.iconst 0, 1) := by decide +kernel
theorem dX2_queued_31 : decode cX2_queued 31 = .ok (.goto 13, 3) := by decide +kernel
theorem dX2_queued_34 : decode cX2_queued 34 = .ok (.aload_n 0, 1) := by decide +kernel
theorem dX2_queued_35 : decode cX2_queued 35 = .ok (.getfield 22, 3) := by decide +kernel
theorem dX2_queued_38 : decode cX2_queued 38 = .ok (.iload_n 1, 1) := by decide +kernel
theorem dX2_queued_39 : decode cX2_queued 39 = .ok (.aaload, 1) := by decide +kernel
theorem dX2_queued_40 : decode cX2_queued 40 = .ok (.iload_n 2, 1) := by decide +kernel
theorem dX2_queued_41 : decode cX2_queued 41 = .ok (.invokevirtual 126, 3) := by decide +kernel
theorem dX2_queued_44 : decode cX2_queued 44 = .ok (.ireturn, 1) := by decide +kernel
theorem dX2_current_0 : decode cX2_current 0 = .ok (.aload_n 0, 1) := by decide +kernel
theorem dX2_current_1 : decode cX2_current 1 = .ok (.getfield 94, 3) := by decide +kernel
theorem dX2_current_4 : decode cX2_current 4 = .ok (.ifCond .eq 15, 3) := by decide +kernel
theorem dX2_current_7 : decode cX2_current 7 = .ok (.aload_n 0, 1) := by decide +kernel
theorem dX2_current_8 : decode cX2_current 8 = .ok (.getfield 27, 3) := by decide +kernel
theorem dX2_current_11 : decode cX2_current 11 = .ok (.aload_n 0, 1) := by decide +kernel
theorem dX2_current_12 : decode cX2_current 12 = .ok (.getfield 129, 3) := by decide +kernel
theorem dX2_current_15 : decode cX2_current 15 = .ok (.iaload, 1) := by decide +kernel
theorem dX2_current_16 : decode cX2_current 16 = .ok (.goto 4, 3) := by decide +kernel
theorem dX2_current_19 : decode cX2_current 19 = .ok (.iconst (-1), 1) := by decide +kernel
theorem dX2_current_20 : decode cX2_current 20 = .ok (.ireturn, 1) := by decide +kernel
theorem dX2_ticks_0 : decode cX2_ticks 0 = .ok (.aload_n 0, 1) := by decide +kernel
theorem dX2_ticks_1 : decode cX2_ticks 1 = .ok (.getfield 116, 3) := by decide +kernel
theorem dX2_ticks_4 : decode cX2_ticks 4 = .ok (.ireturn, 1) := by decide +kernel
theorem dX2_refuseIfSealed_0 : decode cX2_refuseIfSealed 0 = .ok (.aload_n 0, 1) := by decide +kernel
theorem dX2_refuseIfSealed_1 : decode cX2_refuseIfSealed 1 = .ok (.getfield 94, 3) := by decide +kernel
theorem dX2_refuseIfSealed_4 : decode cX2_refuseIfSealed 4 = .ok (.ifCond .eq 13, 3) := by decide +kernel
theorem dX2_refuseIfSealed_7 : decode cX2_refuseIfSealed 7 = .ok (.new 89, 3) := by decide +kernel
theorem dX2_refuseIfSealed_10 : decode cX2_refuseIfSealed 10 = .ok (.dup, 1) := by decide +kernel
theorem dX2_refuseIfSealed_11 : decode cX2_refuseIfSealed 11 = .ok (.ldc 132, 2) := by decide +kernel
theorem dX2_refuseIfSealed_13 : decode cX2_refuseIfSealed 13 = .ok (.invokespecial 93, 3) := by decide +kernel
theorem dX2_refuseIfSealed_16 : decode cX2_refuseIfSealed 16 = .ok (.athrow, 1) := by decide +kernel
theorem dX2_refuseIfSealed_17 : decode cX2_refuseIfSealed 17 = .ok (.return_, 1) := by decide +kernel
set_option maxRecDepth 20000 in
theorem ggX2_refuseUnlessTold_X1_isTold : GoodIn wsX2_refuseUnlessTold wsX1_isTold := goodIn_r _ [7, 8, 21, 22, 23, 24, 25, 26, 27, 28, 29, 30] (by decide +kernel) (by decide +kernel)
set_option maxRecDepth 20000 in
theorem gX2_refuseUnlessTold_X1_isTold_n36 : GoodIn wsX2_refuseUnlessTold (wsX1_isTold) := ggX2_refuseUnlessTold_X1_isTold
theorem dX2_refuseUnlessTold_0 : decode cX2_refuseUnlessTold 0 = .ok (.iload_n 1, 1) := by decide +kernel
theorem dX2_refuseUnlessTold_1 : decode cX2_refuseUnlessTold 1 = .ok (.ifCond .lt 21, 3) := by decide +kernel
theorem dX2_refuseUnlessTold_4 : decode cX2_refuseUnlessTold 4 = .ok (.iload_n 1, 1) := by decide +kernel
theorem dX2_refuseUnlessTold_5 : decode cX2_refuseUnlessTold 5 = .ok (.bipush 6, 2) := by decide +kernel
theorem dX2_refuseUnlessTold_7 : decode cX2_refuseUnlessTold 7 = .ok (.if_icmp .ge 15, 3) := by decide +kernel
theorem dX2_refuseUnlessTold_10 : decode cX2_refuseUnlessTold 10 = .ok (.aload_n 0, 1) := by decide +kernel
theorem dX2_refuseUnlessTold_11 : decode cX2_refuseUnlessTold 11 = .ok (.getfield 15, 3) := by decide +kernel
theorem dX2_refuseUnlessTold_14 : decode cX2_refuseUnlessTold 14 = .ok (.iload_n 1, 1) := by decide +kernel
theorem dX2_refuseUnlessTold_15 : decode cX2_refuseUnlessTold 15 = .ok (.aaload, 1) := by decide +kernel
theorem dX2_refuseUnlessTold_16 : decode cX2_refuseUnlessTold 16 = .ok (.invokevirtual 36, 3) := by decide +kernel
theorem dX2_refuseUnlessTold_19 : decode cX2_refuseUnlessTold 19 = .ok (.ifCond .ne 13, 3) := by decide +kernel
theorem dX2_refuseUnlessTold_22 : decode cX2_refuseUnlessTold 22 = .ok (.new 40, 3) := by decide +kernel
theorem dX2_refuseUnlessTold_25 : decode cX2_refuseUnlessTold 25 = .ok (.dup, 1) := by decide +kernel
theorem dX2_refuseUnlessTold_26 : decode cX2_refuseUnlessTold 26 = .ok (.ldc 133, 2) := by decide +kernel
theorem dX2_refuseUnlessTold_28 : decode cX2_refuseUnlessTold 28 = .ok (.invokespecial 44, 3) := by decide +kernel
theorem dX2_refuseUnlessTold_31 : decode cX2_refuseUnlessTold 31 = .ok (.athrow, 1) := by decide +kernel
theorem dX2_refuseUnlessTold_32 : decode cX2_refuseUnlessTold 32 = .ok (.return_, 1) := by decide +kernel
theorem dX2_isChannel_0 : decode cX2_isChannel 0 = .ok (.iload_n 1, 1) := by decide +kernel
theorem dX2_isChannel_1 : decode cX2_isChannel 1 = .ok (.ifCond .lt 25, 3) := by decide +kernel
theorem dX2_isChannel_4 : decode cX2_isChannel 4 = .ok (.iload_n 1, 1) := by decide +kernel
theorem dX2_isChannel_5 : decode cX2_isChannel 5 = .ok (.bipush 8, 2) := by decide +kernel
theorem dX2_isChannel_7 : decode cX2_isChannel 7 = .ok (.if_icmp .ge 19, 3) := by decide +kernel
theorem dX2_isChannel_10 : decode cX2_isChannel 10 = .ok (.aload_n 0, 1) := by decide +kernel
theorem dX2_isChannel_11 : decode cX2_isChannel 11 = .ok (.getfield 22, 3) := by decide +kernel
theorem dX2_isChannel_14 : decode cX2_isChannel 14 = .ok (.iload_n 1, 1) := by decide +kernel
theorem dX2_isChannel_15 : decode cX2_isChannel 15 = .ok (.aaload, 1) := by decide +kernel
theorem dX2_isChannel_16 : decode cX2_isChannel 16 = .ok (.getfield 75, 3) := by decide +kernel
theorem dX2_isChannel_19 : decode cX2_isChannel 19 = .ok (.ifCond .eq 7, 3) := by decide +kernel
theorem dX2_isChannel_22 : decode cX2_isChannel 22 = .ok (.iconst 1, 1) := by decide +kernel
theorem dX2_isChannel_23 : decode cX2_isChannel 23 = .ok (.goto 4, 3) := by decide +kernel
theorem dX2_isChannel_26 : decode cX2_isChannel 26 = .ok (.iconst 0, 1) := by decide +kernel
theorem dX2_isChannel_27 : decode cX2_isChannel 27 = .ok (.ireturn, 1) := by decide +kernel
theorem dX2_isInMemory_0 : decode cX2_isInMemory 0 = .ok (.iload_n 0, 1) := by decide +kernel
theorem dX2_isInMemory_1 : decode cX2_isInMemory 1 = .ok (.ifCond .lt 28, 3) := by decide +kernel
theorem dX2_isInMemory_4 : decode cX2_isInMemory 4 = .ok (.iload_n 0, 1) := by decide +kernel
theorem dX2_isInMemory_5 : decode cX2_isInMemory 5 = .ok (.sipush 512, 3) := by decide +kernel
theorem dX2_isInMemory_8 : decode cX2_isInMemory 8 = .ok (.if_icmp .ge 21, 3) := by decide +kernel
theorem dX2_isInMemory_11 : decode cX2_isInMemory 11 = .ok (.iload_n 1, 1) := by decide +kernel
theorem dX2_isInMemory_12 : decode cX2_isInMemory 12 = .ok (.iconst 1, 1) := by decide +kernel
theorem dX2_isInMemory_13 : decode cX2_isInMemory 13 = .ok (.if_icmp .lt 16, 3) := by decide +kernel
theorem dX2_isInMemory_16 : decode cX2_isInMemory 16 = .ok (.iload_n 1, 1) := by decide +kernel
theorem dX2_isInMemory_17 : decode cX2_isInMemory 17 = .ok (.sipush 512, 3) := by decide +kernel
theorem dX2_isInMemory_20 : decode cX2_isInMemory 20 = .ok (.iload_n 0, 1) := by decide +kernel
theorem dX2_isInMemory_21 : decode cX2_isInMemory 21 = .ok (.isub, 1) := by decide +kernel
theorem dX2_isInMemory_22 : decode cX2_isInMemory 22 = .ok (.if_icmp .gt 7, 3) := by decide +kernel
theorem dX2_isInMemory_25 : decode cX2_isInMemory 25 = .ok (.iconst 1, 1) := by decide +kernel
theorem dX2_isInMemory_26 : decode cX2_isInMemory 26 = .ok (.goto 4, 3) := by decide +kernel
theorem dX2_isInMemory_29 : decode cX2_isInMemory 29 = .ok (.iconst 0, 1) := by decide +kernel
theorem dX2_isInMemory_30 : decode cX2_isInMemory 30 = .ok (.ireturn, 1) := by decide +kernel
set_option maxRecDepth 20000 in
theorem ggX2_sharesWord_X1_meets : GoodIn wsX2_sharesWord wsX1_meets := goodIn_r _ [5, 6, 7, 8, 9, 10, 3, 11, 12, 25, 26, 27, 28, 29, 30, 31, 32, 33, 34] (by decide +kernel) (by decide +kernel)
set_option maxRecDepth 20000 in
theorem gX2_sharesWord_X1_meets_n135 : GoodIn wsX2_sharesWord (wsX1_meets) := ggX2_sharesWord_X1_meets
theorem dX2_sharesWord_0 : decode cX2_sharesWord 0 = .ok (.iconst 0, 1) := by decide +kernel
theorem dX2_sharesWord_1 : decode cX2_sharesWord 1 = .ok (.istore_n 3, 1) := by decide +kernel
theorem dX2_sharesWord_2 : decode cX2_sharesWord 2 = .ok (.iload_n 3, 1) := by decide +kernel
theorem dX2_sharesWord_3 : decode cX2_sharesWord 3 = .ok (.bipush 6, 2) := by decide +kernel
theorem dX2_sharesWord_5 : decode cX2_sharesWord 5 = .ok (.if_icmp .ge 25, 3) := by decide +kernel
theorem dX2_sharesWord_8 : decode cX2_sharesWord 8 = .ok (.aload_n 0, 1) := by decide +kernel
theorem dX2_sharesWord_9 : decode cX2_sharesWord 9 = .ok (.getfield 15, 3) := by decide +kernel
theorem dX2_sharesWord_12 : decode cX2_sharesWord 12 = .ok (.iload_n 3, 1) := by decide +kernel
theorem dX2_sharesWord_13 : decode cX2_sharesWord 13 = .ok (.aaload, 1) := by decide +kernel
theorem dX2_sharesWord_14 : decode cX2_sharesWord 14 = .ok (.iload_n 1, 1) := by decide +kernel
theorem dX2_sharesWord_15 : decode cX2_sharesWord 15 = .ok (.iload_n 2, 1) := by decide +kernel
theorem dX2_sharesWord_16 : decode cX2_sharesWord 16 = .ok (.invokevirtual 135, 3) := by decide +kernel
theorem dX2_sharesWord_19 : decode cX2_sharesWord 19 = .ok (.ifCond .eq 5, 3) := by decide +kernel
theorem dX2_sharesWord_22 : decode cX2_sharesWord 22 = .ok (.iconst 1, 1) := by decide +kernel
theorem dX2_sharesWord_23 : decode cX2_sharesWord 23 = .ok (.ireturn, 1) := by decide +kernel
theorem dX2_sharesWord_24 : decode cX2_sharesWord 24 = .ok (.iinc 3 1, 3) := by decide +kernel
theorem dX2_sharesWord_27 : decode cX2_sharesWord 27 = .ok (.goto (-25), 3) := by decide +kernel
theorem dX2_sharesWord_30 : decode cX2_sharesWord 30 = .ok (.iconst 0, 1) := by decide +kernel
theorem dX2_sharesWord_31 : decode cX2_sharesWord 31 = .ok (.ireturn, 1) := by decide +kernel
set_option maxRecDepth 20000 in
theorem ggX2_addressOf_X2_refuseUnlessTold : GoodIn wsX2_addressOf wsX2_refuseUnlessTold := goodIn_ca (goodIn_r _ [8, 9, 10, 3, 11, 12, 13, 14, 15, 20, 21, 22, 23, 24, 25, 26, 27, 28, 29, 30, 31, 32, 33, 34, 35, 36, 37, 38, 39, 40, 41] (by decide +kernel) (by decide +kernel)) (goodIn_sub (fun _ h => List.mem_cons_of_mem _ (List.mem_append_right _ h)) (by decide +kernel))
set_option maxRecDepth 20000 in
theorem gX2_addressOf_X2_refuseUnlessTold : GoodIn wsX2_addressOf (wsV RX2 62 RX2 yX2_refuseUnlessTold wsX2_refuseUnlessTold) := goodIn_app (goodIn_of _ (by decide +kernel)) ggX2_addressOf_X2_refuseUnlessTold
set_option maxRecDepth 20000 in
theorem ggX2_addressOf_X1_holds : GoodIn wsX2_addressOf wsX1_holds := goodIn_r _ [18, 19, 32, 33, 34, 35, 36, 37, 38, 39, 40, 41] (by decide +kernel) (by decide +kernel)
set_option maxRecDepth 20000 in
theorem gX2_addressOf_X1_holds_n138 : GoodIn wsX2_addressOf (wsX1_holds) := ggX2_addressOf_X1_holds
theorem dX2_addressOf_0 : decode cX2_addressOf 0 = .ok (.aload_n 0, 1) := by decide +kernel
theorem dX2_addressOf_1 : decode cX2_addressOf 1 = .ok (.iload_n 1, 1) := by decide +kernel
theorem dX2_addressOf_2 : decode cX2_addressOf 2 = .ok (.invokevirtual 62, 3) := by decide +kernel
theorem dX2_addressOf_5 : decode cX2_addressOf 5 = .ok (.aload_n 0, 1) := by decide +kernel
theorem dX2_addressOf_6 : decode cX2_addressOf 6 = .ok (.getfield 15, 3) := by decide +kernel
theorem dX2_addressOf_9 : decode cX2_addressOf 9 = .ok (.iload_n 1, 1) := by decide +kernel
theorem dX2_addressOf_10 : decode cX2_addressOf 10 = .ok (.aaload, 1) := by decide +kernel
theorem dX2_addressOf_11 : decode cX2_addressOf 11 = .ok (.iload_n 2, 1) := by decide +kernel
theorem dX2_addressOf_12 : decode cX2_addressOf 12 = .ok (.invokevirtual 138, 3) := by decide +kernel
theorem dX2_addressOf_15 : decode cX2_addressOf 15 = .ok (.ifCond .ne 13, 3) := by decide +kernel
theorem dX2_addressOf_18 : decode cX2_addressOf 18 = .ok (.new 141, 3) := by decide +kernel
theorem dX2_addressOf_21 : decode cX2_addressOf 21 = .ok (.dup, 1) := by decide +kernel
theorem dX2_addressOf_22 : decode cX2_addressOf 22 = .ok (.ldc 143, 2) := by decide +kernel
theorem dX2_addressOf_24 : decode cX2_addressOf 24 = .ok (.invokespecial 145, 3) := by decide +kernel
theorem dX2_addressOf_27 : decode cX2_addressOf 27 = .ok (.athrow, 1) := by decide +kernel
theorem dX2_addressOf_28 : decode cX2_addressOf 28 = .ok (.aload_n 0, 1) := by decide +kernel
theorem dX2_addressOf_29 : decode cX2_addressOf 29 = .ok (.getfield 15, 3) := by decide +kernel
theorem dX2_addressOf_32 : decode cX2_addressOf 32 = .ok (.iload_n 1, 1) := by decide +kernel
theorem dX2_addressOf_33 : decode cX2_addressOf 33 = .ok (.aaload, 1) := by decide +kernel
theorem dX2_addressOf_34 : decode cX2_addressOf 34 = .ok (.getfield 146, 3) := by decide +kernel
theorem dX2_addressOf_37 : decode cX2_addressOf 37 = .ok (.iload_n 2, 1) := by decide +kernel
theorem dX2_addressOf_38 : decode cX2_addressOf 38 = .ok (.iadd, 1) := by decide +kernel
theorem dX2_addressOf_39 : decode cX2_addressOf 39 = .ok (.ireturn, 1) := by decide +kernel
set_option maxRecDepth 20000 in
theorem ggX2_goOneTick_X2_runInstruction : GoodIn wsX2_goOneTick wsX2_runInstruction := goodIn_r _ [10, 5, 11, 4, 12, 13, 14, 15, 16, 17, 18, 19, 9, 20, 21, 22, 23, 24, 25, 26, 27, 28, 29, 30, 31, 32, 33, 34, 35, 36, 37, 1, 38, 39, 40, 41, 42, 43, 44, 45, 46, 47, 48, 49, 50, 51, 52, 53, 54, 55, 56, 57, 58, 59, 60, 61, 62, 63, 64, 65, 66, 67, 68, 69, 70, 71, 72, 73, 74, 75, 76, 77, 78, 79, 80, 81, 82, 83, 84, 85, 86, 87, 88, 89, 90, 91, 92, 93, 94, 102, 103, 104, 105, 106, 107, 108, 109, 110, 111, 112, 113, 114, 115, 116, 117, 118, 119, 120, 121, 122, 123, 124, 125, 126, 127, 128, 129, 130, 131, 132, 133] (by decide +kernel) (by decide +kernel)
set_option maxRecDepth 20000 in
theorem gX2_goOneTick_X2_runInstruction : GoodIn wsX2_goOneTick (wsV RX2 155 RX2 yX2_runInstruction wsX2_runInstruction) := goodIn_app (goodIn_of _ (by decide +kernel)) ggX2_goOneTick_X2_runInstruction
set_option maxRecDepth 20000 in
theorem ggX2_goOneTick_X2_moveWindowOn : GoodIn wsX2_goOneTick wsX2_moveWindowOn := goodIn_r _ [98, 99, 100, 3, 4, 101, 102, 103, 104, 105, 106, 107, 108, 109, 110, 111, 112, 113] (by decide +kernel) (by decide +kernel)
set_option maxRecDepth 20000 in
theorem gX2_goOneTick_X2_moveWindowOn : GoodIn wsX2_goOneTick (wsV RX2 158 RX2 yX2_moveWindowOn wsX2_moveWindowOn) := goodIn_app (goodIn_of _ (by decide +kernel)) ggX2_goOneTick_X2_moveWindowOn
theorem dX2_goOneTick_0 : decode cX2_goOneTick 0 = .ok (.aload_n 0, 1) := by decide +kernel
theorem dX2_goOneTick_1 : decode cX2_goOneTick 1 = .ok (.dup, 1) := by decide +kernel
theorem dX2_goOneTick_2 : decode cX2_goOneTick 2 = .ok (.getfield 116, 3) := by decide +kernel
theorem dX2_goOneTick_5 : decode cX2_goOneTick 5 = .ok (.iconst 1, 1) := by decide +kernel
theorem dX2_goOneTick_6 : decode cX2_goOneTick 6 = .ok (.iadd, 1) := by decide +kernel
theorem dX2_goOneTick_7 : decode cX2_goOneTick 7 = .ok (.putfield 116, 3) := by decide +kernel
theorem dX2_goOneTick_10 : decode cX2_goOneTick 10 = .ok (.aload_n 0, 1) := by decide +kernel
theorem dX2_goOneTick_11 : decode cX2_goOneTick 11 = .ok (.getfield 27, 3) := by decide +kernel
theorem dX2_goOneTick_14 : decode cX2_goOneTick 14 = .ok (.aload_n 0, 1) := by decide +kernel
theorem dX2_goOneTick_15 : decode cX2_goOneTick 15 = .ok (.getfield 129, 3) := by decide +kernel
theorem dX2_goOneTick_18 : decode cX2_goOneTick 18 = .ok (.iaload, 1) := by decide +kernel
theorem dX2_goOneTick_19 : decode cX2_goOneTick 19 = .ok (.istore_n 1, 1) := by decide +kernel
theorem dX2_goOneTick_20 : decode cX2_goOneTick 20 = .ok (.iload_n 1, 1) := by decide +kernel
theorem dX2_goOneTick_21 : decode cX2_goOneTick 21 = .ok (.iconst (-1), 1) := by decide +kernel
theorem dX2_goOneTick_22 : decode cX2_goOneTick 22 = .ok (.if_icmp .eq 27, 3) := by decide +kernel
theorem dX2_goOneTick_25 : decode cX2_goOneTick 25 = .ok (.aload_n 0, 1) := by decide +kernel
theorem dX2_goOneTick_26 : decode cX2_goOneTick 26 = .ok (.getfield 149, 3) := by decide +kernel
theorem dX2_goOneTick_29 : decode cX2_goOneTick 29 = .ok (.ifCond .ne 20, 3) := by decide +kernel
theorem dX2_goOneTick_32 : decode cX2_goOneTick 32 = .ok (.aload_n 0, 1) := by decide +kernel
theorem dX2_goOneTick_33 : decode cX2_goOneTick 33 = .ok (.getfield 15, 3) := by decide +kernel
theorem dX2_goOneTick_36 : decode cX2_goOneTick 36 = .ok (.iload_n 1, 1) := by decide +kernel
theorem dX2_goOneTick_37 : decode cX2_goOneTick 37 = .ok (.aaload, 1) := by decide +kernel
theorem dX2_goOneTick_38 : decode cX2_goOneTick 38 = .ok (.getfield 152, 3) := by decide +kernel
theorem dX2_goOneTick_41 : decode cX2_goOneTick 41 = .ok (.iconst 1, 1) := by decide +kernel
theorem dX2_goOneTick_42 : decode cX2_goOneTick 42 = .ok (.if_icmp .ne 7, 3) := by decide +kernel
theorem dX2_goOneTick_45 : decode cX2_goOneTick 45 = .ok (.iconst 1, 1) := by decide +kernel
theorem dX2_goOneTick_46 : decode cX2_goOneTick 46 = .ok (.goto 4, 3) := by decide +kernel
theorem dX2_goOneTick_49 : decode cX2_goOneTick 49 = .ok (.iconst 0, 1) := by decide +kernel
theorem dX2_goOneTick_50 : decode cX2_goOneTick 50 = .ok (.istore_n 2, 1) := by decide +kernel
theorem dX2_goOneTick_51 : decode cX2_goOneTick 51 = .ok (.iload_n 2, 1) := by decide +kernel
theorem dX2_goOneTick_52 : decode cX2_goOneTick 52 = .ok (.ifCond .eq 8, 3) := by decide +kernel
theorem dX2_goOneTick_55 : decode cX2_goOneTick 55 = .ok (.aload_n 0, 1) := by decide +kernel
theorem dX2_goOneTick_56 : decode cX2_goOneTick 56 = .ok (.iload_n 1, 1) := by decide +kernel
theorem dX2_goOneTick_57 : decode cX2_goOneTick 57 = .ok (.invokevirtual 155, 3) := by decide +kernel
theorem dX2_goOneTick_60 : decode cX2_goOneTick 60 = .ok (.aload_n 0, 1) := by decide +kernel
theorem dX2_goOneTick_61 : decode cX2_goOneTick 61 = .ok (.invokevirtual 158, 3) := by decide +kernel
theorem dX2_goOneTick_64 : decode cX2_goOneTick 64 = .ok (.iload_n 2, 1) := by decide +kernel
theorem dX2_goOneTick_65 : decode cX2_goOneTick 65 = .ok (.ireturn, 1) := by decide +kernel
theorem dX2_moveWindowOn_0 : decode cX2_moveWindowOn 0 = .ok (.aload_n 0, 1) := by decide +kernel
theorem dX2_moveWindowOn_1 : decode cX2_moveWindowOn 1 = .ok (.dup, 1) := by decide +kernel
theorem dX2_moveWindowOn_2 : decode cX2_moveWindowOn 2 = .ok (.getfield 161, 3) := by decide +kernel
theorem dX2_moveWindowOn_5 : decode cX2_moveWindowOn 5 = .ok (.iconst 1, 1) := by decide +kernel
theorem dX2_moveWindowOn_6 : decode cX2_moveWindowOn 6 = .ok (.iadd, 1) := by decide +kernel
theorem dX2_moveWindowOn_7 : decode cX2_moveWindowOn 7 = .ok (.putfield 161, 3) := by decide +kernel
theorem dX2_moveWindowOn_10 : decode cX2_moveWindowOn 10 = .ok (.aload_n 0, 1) := by decide +kernel
theorem dX2_moveWindowOn_11 : decode cX2_moveWindowOn 11 = .ok (.getfield 161, 3) := by decide +kernel
theorem dX2_moveWindowOn_14 : decode cX2_moveWindowOn 14 = .ok (.aload_n 0, 1) := by decide +kernel
theorem dX2_moveWindowOn_15 : decode cX2_moveWindowOn 15 = .ok (.getfield 30, 3) := by decide +kernel
theorem dX2_moveWindowOn_18 : decode cX2_moveWindowOn 18 = .ok (.aload_n 0, 1) := by decide +kernel
theorem dX2_moveWindowOn_19 : decode cX2_moveWindowOn 19 = .ok (.getfield 129, 3) := by decide +kernel
theorem dX2_moveWindowOn_22 : decode cX2_moveWindowOn 22 = .ok (.iaload, 1) := by decide +kernel
theorem dX2_moveWindowOn_23 : decode cX2_moveWindowOn 23 = .ok (.if_icmp .ge 4, 3) := by decide +kernel
theorem dX2_moveWindowOn_26 : decode cX2_moveWindowOn 26 = .ok (.return_, 1) := by decide +kernel
theorem dX2_moveWindowOn_27 : decode cX2_moveWindowOn 27 = .ok (.aload_n 0, 1) := by decide +kernel
theorem dX2_moveWindowOn_28 : decode cX2_moveWindowOn 28 = .ok (.iconst 0, 1) := by decide +kernel
theorem dX2_moveWindowOn_29 : decode cX2_moveWindowOn 29 = .ok (.putfield 161, 3) := by decide +kernel
theorem dX2_moveWindowOn_32 : decode cX2_moveWindowOn 32 = .ok (.aload_n 0, 1) := by decide +kernel
theorem dX2_moveWindowOn_33 : decode cX2_moveWindowOn 33 = .ok (.iconst 0, 1) := by decide +kernel
theorem dX2_moveWindowOn_34 : decode cX2_moveWindowOn 34 = .ok (.putfield 149, 3) := by decide +kernel
theorem dX2_moveWindowOn_37 : decode cX2_moveWindowOn 37 = .ok (.aload_n 0, 1) := by decide +kernel
theorem dX2_moveWindowOn_38 : decode cX2_moveWindowOn 38 = .ok (.dup, 1) := by decide +kernel
theorem dX2_moveWindowOn_39 : decode cX2_moveWindowOn 39 = .ok (.getfield 129, 3) := by decide +kernel
theorem dX2_moveWindowOn_42 : decode cX2_moveWindowOn 42 = .ok (.iconst 1, 1) := by decide +kernel
theorem dX2_moveWindowOn_43 : decode cX2_moveWindowOn 43 = .ok (.iadd, 1) := by decide +kernel
theorem dX2_moveWindowOn_44 : decode cX2_moveWindowOn 44 = .ok (.putfield 129, 3) := by decide +kernel
theorem dX2_moveWindowOn_47 : decode cX2_moveWindowOn 47 = .ok (.aload_n 0, 1) := by decide +kernel
theorem dX2_moveWindowOn_48 : decode cX2_moveWindowOn 48 = .ok (.getfield 129, 3) := by decide +kernel
theorem dX2_moveWindowOn_51 : decode cX2_moveWindowOn 51 = .ok (.aload_n 0, 1) := by decide +kernel
theorem dX2_moveWindowOn_52 : decode cX2_moveWindowOn 52 = .ok (.getfield 66, 3) := by decide +kernel
theorem dX2_moveWindowOn_55 : decode cX2_moveWindowOn 55 = .ok (.if_icmp .lt 8, 3) := by decide +kernel
theorem dX2_moveWindowOn_58 : decode cX2_moveWindowOn 58 = .ok (.aload_n 0, 1) := by decide +kernel
theorem dX2_moveWindowOn_59 : decode cX2_moveWindowOn 59 = .ok (.iconst 0, 1) := by decide +kernel
theorem dX2_moveWindowOn_60 : decode cX2_moveWindowOn 60 = .ok (.putfield 129, 3) := by decide +kernel
theorem dX2_moveWindowOn_63 : decode cX2_moveWindowOn 63 = .ok (.return_, 1) := by decide +kernel
set_option maxRecDepth 20000 in
theorem ggX2_runInstruction_X1_holds : GoodIn wsX2_runInstruction wsX1_holds := goodIn_r _ [7, 8, 101, 102, 103, 104, 105, 106, 107, 108, 109, 110] (by decide +kernel) (by decide +kernel)
set_option maxRecDepth 20000 in
theorem gX2_runInstruction_X1_holds_n138 : GoodIn wsX2_runInstruction (wsX1_holds) := ggX2_runInstruction_X1_holds
set_option maxRecDepth 20000 in
theorem ggX2_runInstruction_X2_perform : GoodIn wsX2_runInstruction wsX2_perform := goodIn_r _ [13, 1, 3, 14, 15, 16, 12, 17, 2, 4, 5, 6, 7, 8, 18, 19, 20, 21, 22, 23, 24, 25, 26, 27, 28, 29, 30, 31, 32, 33, 34, 35, 36, 37, 38, 39, 40, 41, 42, 43, 44, 45, 46, 47, 48, 49, 50, 51, 52, 53, 54, 55, 56, 57, 58, 59, 60, 61, 62, 63, 64, 65, 66, 67, 68, 69, 70, 71, 72, 73, 74, 75, 89, 90, 91, 92, 93, 94, 95, 96, 97, 98, 99, 100, 101, 102, 103, 104, 105, 106, 107, 108, 109, 110, 111, 112, 113, 114, 115, 116, 117, 118, 119, 120] (by decide +kernel) (by decide +kernel)
set_option maxRecDepth 20000 in
theorem gX2_runInstruction_X2_perform : GoodIn wsX2_runInstruction (wsV RX2 167 RX2 yX2_perform wsX2_perform) := goodIn_app (goodIn_of _ (by decide +kernel)) ggX2_runInstruction_X2_perform
set_option maxRecDepth 20000 in
theorem ggX2_runInstruction_X1_restartAfter : GoodIn wsX2_runInstruction wsX1_restartAfter := goodIn_r _ [78, 79, 80, 81, 82, 83, 84, 25, 85, 86, 87, 88, 101, 102, 103, 104, 105, 106, 107, 108, 109, 110] (by decide +kernel) (by decide +kernel)
set_option maxRecDepth 20000 in
theorem gX2_runInstruction_X1_restartAfter_n173 : GoodIn wsX2_runInstruction (wsX1_restartAfter) := ggX2_runInstruction_X1_restartAfter
theorem dX2_runInstruction_0 : decode cX2_runInstruction 0 = .ok (.aload_n 0, 1) := by decide +kernel
theorem dX2_runInstruction_1 : decode cX2_runInstruction 1 = .ok (.getfield 15, 3) := by decide +kernel
theorem dX2_runInstruction_4 : decode cX2_runInstruction 4 = .ok (.iload_n 1, 1) := by decide +kernel
theorem dX2_runInstruction_5 : decode cX2_runInstruction 5 = .ok (.aaload, 1) := by decide +kernel
theorem dX2_runInstruction_6 : decode cX2_runInstruction 6 = .ok (.astore_n 2, 1) := by decide +kernel
theorem dX2_runInstruction_7 : decode cX2_runInstruction 7 = .ok (.aload_n 2, 1) := by decide +kernel
theorem dX2_runInstruction_8 : decode cX2_runInstruction 8 = .ok (.getfield 164, 3) := by decide +kernel
theorem dX2_runInstruction_11 : decode cX2_runInstruction 11 = .ok (.istore_n 3, 1) := by decide +kernel
theorem dX2_runInstruction_12 : decode cX2_runInstruction 12 = .ok (.iconst 1, 1) := by decide +kernel
theorem dX2_runInstruction_13 : decode cX2_runInstruction 13 = .ok (.istore 4, 2) := by decide +kernel
theorem dX2_runInstruction_15 : decode cX2_runInstruction 15 = .ok (.aload_n 2, 1) := by decide +kernel
theorem dX2_runInstruction_16 : decode cX2_runInstruction 16 = .ok (.iload_n 3, 1) := by decide +kernel
theorem dX2_runInstruction_17 : decode cX2_runInstruction 17 = .ok (.invokevirtual 138, 3) := by decide +kernel
theorem dX2_runInstruction_20 : decode cX2_runInstruction 20 = .ok (.ifCond .eq 28, 3) := by decide +kernel
theorem dX2_runInstruction_23 : decode cX2_runInstruction 23 = .ok (.aload_n 2, 1) := by decide +kernel
theorem dX2_runInstruction_24 : decode cX2_runInstruction 24 = .ok (.iload_n 3, 1) := by decide +kernel
theorem dX2_runInstruction_25 : decode cX2_runInstruction 25 = .ok (.iconst 1, 1) := by decide +kernel
theorem dX2_runInstruction_26 : decode cX2_runInstruction 26 = .ok (.iadd, 1) := by decide +kernel
theorem dX2_runInstruction_27 : decode cX2_runInstruction 27 = .ok (.putfield 164, 3) := by decide +kernel
theorem dX2_runInstruction_30 : decode cX2_runInstruction 30 = .ok (.aload_n 0, 1) := by decide +kernel
theorem dX2_runInstruction_31 : decode cX2_runInstruction 31 = .ok (.iload_n 1, 1) := by decide +kernel
theorem dX2_runInstruction_32 : decode cX2_runInstruction 32 = .ok (.aload_n 0, 1) := by decide +kernel
theorem dX2_runInstruction_33 : decode cX2_runInstruction 33 = .ok (.getfield 9, 3) := by decide +kernel
theorem dX2_runInstruction_36 : decode cX2_runInstruction 36 = .ok (.aload_n 2, 1) := by decide +kernel
theorem dX2_runInstruction_37 : decode cX2_runInstruction 37 = .ok (.getfield 146, 3) := by decide +kernel
theorem dX2_runInstruction_40 : decode cX2_runInstruction 40 = .ok (.iload_n 3, 1) := by decide +kernel
theorem dX2_runInstruction_41 : decode cX2_runInstruction 41 = .ok (.iadd, 1) := by decide +kernel
theorem dX2_runInstruction_42 : decode cX2_runInstruction 42 = .ok (.iaload, 1) := by decide +kernel
theorem dX2_runInstruction_43 : decode cX2_runInstruction 43 = .ok (.invokevirtual 167, 3) := by decide +kernel
theorem dX2_runInstruction_46 : decode cX2_runInstruction 46 = .ok (.istore 4, 2) := by decide +kernel
theorem dX2_runInstruction_48 : decode cX2_runInstruction 48 = .ok (.iload 4, 2) := by decide +kernel
theorem dX2_runInstruction_50 : decode cX2_runInstruction 50 = .ok (.ifCond .ne 14, 3) := by decide +kernel
theorem dX2_runInstruction_53 : decode cX2_runInstruction 53 = .ok (.aload_n 2, 1) := by decide +kernel
theorem dX2_runInstruction_54 : decode cX2_runInstruction 54 = .ok (.dup, 1) := by decide +kernel
theorem dX2_runInstruction_55 : decode cX2_runInstruction 55 = .ok (.getfield 170, 3) := by decide +kernel
theorem dX2_runInstruction_58 : decode cX2_runInstruction 58 = .ok (.iconst 1, 1) := by decide +kernel
theorem dX2_runInstruction_59 : decode cX2_runInstruction 59 = .ok (.iadd, 1) := by decide +kernel
theorem dX2_runInstruction_60 : decode cX2_runInstruction 60 = .ok (.putfield 170, 3) := by decide +kernel
theorem dX2_runInstruction_63 : decode cX2_runInstruction 63 = .ok (.return_, 1) := by decide +kernel
theorem dX2_runInstruction_64 : decode cX2_runInstruction 64 = .ok (.aload_n 2, 1) := by decide +kernel
theorem dX2_runInstruction_65 : decode cX2_runInstruction 65 = .ok (.iload_n 3, 1) := by decide +kernel
theorem dX2_runInstruction_66 : decode cX2_runInstruction 66 = .ok (.putfield 164, 3) := by decide +kernel
theorem dX2_runInstruction_69 : decode cX2_runInstruction 69 = .ok (.aload_n 2, 1) := by decide +kernel
theorem dX2_runInstruction_70 : decode cX2_runInstruction 70 = .ok (.iload 4, 2) := by decide +kernel
theorem dX2_runInstruction_72 : decode cX2_runInstruction 72 = .ok (.invokevirtual 173, 3) := by decide +kernel
theorem dX2_runInstruction_75 : decode cX2_runInstruction 75 = .ok (.ifCond .eq 8, 3) := by decide +kernel
theorem dX2_runInstruction_78 : decode cX2_runInstruction 78 = .ok (.aload_n 0, 1) := by decide +kernel
theorem dX2_runInstruction_79 : decode cX2_runInstruction 79 = .ok (.iconst 1, 1) := by decide +kernel
theorem dX2_runInstruction_80 : decode cX2_runInstruction 80 = .ok (.putfield 149, 3) := by decide +kernel
theorem dX2_runInstruction_83 : decode cX2_runInstruction 83 = .ok (.return_, 1) := by decide +kernel
set_option maxRecDepth 20000 in
theorem ggX2_perform_X2_load : GoodIn wsX2_perform wsX2_load := goodIn_r _ [7, 8, 9, 10, 11, 12, 13, 84, 85, 86, 87, 88, 89, 90, 91, 92, 93, 72, 73, 74, 75, 76, 77, 78, 79, 80, 81, 82, 83] (by decide +kernel) (by decide +kernel)
set_option maxRecDepth 20000 in
theorem gX2_perform_X2_load : GoodIn wsX2_perform (wsV RX2 179 RX2 yX2_load wsX2_load) := goodIn_app (goodIn_of _ (by decide +kernel)) ggX2_perform_X2_load
set_option maxRecDepth 20000 in
theorem ggX2_perform_X2_store : GoodIn wsX2_perform wsX2_store := goodIn_r _ [17, 8, 9, 10, 11, 12, 13, 72, 73, 74, 75, 76, 77, 78, 79, 80, 81, 82, 83, 84, 85, 86, 87, 88, 89, 90, 91, 92, 93] (by decide +kernel) (by decide +kernel)
set_option maxRecDepth 20000 in
theorem gX2_perform_X2_store : GoodIn wsX2_perform (wsV RX2 183 RX2 yX2_store wsX2_store) := goodIn_app (goodIn_of _ (by decide +kernel)) ggX2_perform_X2_store
set_option maxRecDepth 20000 in
theorem ggX2_perform_X1_jumpIf : GoodIn wsX2_perform wsX1_jumpIf := goodIn_r _ [20, 21, 84, 85, 86, 87, 88, 89, 90, 91, 92, 93] (by decide +kernel) (by decide +kernel)
set_option maxRecDepth 20000 in
theorem gX2_perform_X1_jumpIf_n186 : GoodIn wsX2_perform (wsX1_jumpIf) := ggX2_perform_X1_jumpIf
set_option maxRecDepth 20000 in
theorem ggX2_perform_X2_send : GoodIn wsX2_perform wsX2_send := goodIn_r _ [25, 26, 1, 27, 28, 29, 30, 6, 31, 32, 33, 34, 35, 36, 37, 38, 39, 40, 41, 42, 43, 44, 45, 46, 47, 48, 49, 50, 72, 73, 74, 75, 76, 77, 78, 79, 80, 81, 82, 83, 94, 95, 96, 97, 98, 99, 100, 101, 102, 103, 84, 85, 86, 87, 88, 89, 90, 91, 92, 93] (by decide +kernel) (by decide +kernel)
set_option maxRecDepth 20000 in
theorem gX2_perform_X2_send : GoodIn wsX2_perform (wsV RX2 190 RX2 yX2_send wsX2_send) := goodIn_app (goodIn_of _ (by decide +kernel)) ggX2_perform_X2_send
set_option maxRecDepth 20000 in
theorem ggX2_perform_X2_take : GoodIn wsX2_perform wsX2_take := goodIn_r _ [54, 26, 1, 27, 28, 29, 30, 6, 31, 55, 33, 56, 57, 37, 36, 46, 47, 48, 49, 50, 43, 44, 45, 39, 58, 59, 60, 38, 61, 62, 63, 64, 65, 42, 66, 67, 68, 72, 73, 74, 75, 76, 77, 78, 79, 80, 81, 82, 83, 94, 95, 96, 97, 98, 99, 100, 101, 102, 103, 84, 85, 86, 87, 88, 89, 90, 91, 92, 93] (by decide +kernel) (by decide +kernel)
set_option maxRecDepth 20000 in
theorem gX2_perform_X2_take : GoodIn wsX2_perform (wsV RX2 194 RX2 yX2_take wsX2_take) := goodIn_app (goodIn_of _ (by decide +kernel)) ggX2_perform_X2_take
set_option maxRecDepth 20000 in
theorem ggX2_perform_X2_computed : GoodIn wsX2_perform wsX2_computed := goodIn_r _ [71] (by decide +kernel) (by decide +kernel)
set_option maxRecDepth 20000 in
theorem gX2_perform_X2_computed : GoodIn wsX2_perform (va_wsS RX2 197 yX2_computed wsX2_computed) := goodIn_app (goodIn_of _ (by decide +kernel)) ggX2_perform_X2_computed
theorem dX2_perform_0 : decode cX2_perform 0 = .ok (.aload_n 0, 1) := by decide +kernel
theorem dX2_perform_1 : decode cX2_perform 1 = .ok (.getfield 15, 3) := by decide +kernel
theorem dX2_perform_4 : decode cX2_perform 4 = .ok (.iload_n 1, 1) := by decide +kernel
theorem dX2_perform_5 : decode cX2_perform 5 = .ok (.aaload, 1) := by decide +kernel
theorem dX2_perform_6 : decode cX2_perform 6 = .ok (.astore_n 3, 1) := by decide +kernel
theorem dX2_perform_7 : decode cX2_perform 7 = .ok (.aload_n 3, 1) := by decide +kernel
theorem dX2_perform_8 : decode cX2_perform 8 = .ok (.getfield 176, 3) := by decide +kernel
theorem dX2_perform_11 : decode cX2_perform 11 = .ok (.astore 4, 2) := by decide +kernel
theorem dX2_perform_13 : decode cX2_perform 13 = .ok (.iload_n 2, 1) := by decide +kernel
theorem dX2_perform_14 : decode cX2_perform 14 = .ok (.iconst 4, 1) := by decide +kernel
theorem dX2_perform_15 : decode cX2_perform 15 = .ok (.ishr, 1) := by decide +kernel
theorem dX2_perform_16 : decode cX2_perform 16 = .ok (.iconst 3, 1) := by decide +kernel
theorem dX2_perform_17 : decode cX2_perform 17 = .ok (.iand, 1) := by decide +kernel
theorem dX2_perform_18 : decode cX2_perform 18 = .ok (.istore 5, 2) := by decide +kernel
theorem dX2_perform_20 : decode cX2_perform 20 = .ok (.iload_n 2, 1) := by decide +kernel
theorem dX2_perform_21 : decode cX2_perform 21 = .ok (.bipush 6, 2) := by decide +kernel
theorem dX2_perform_23 : decode cX2_perform 23 = .ok (.ishr, 1) := by decide +kernel
theorem dX2_perform_24 : decode cX2_perform 24 = .ok (.iconst 3, 1) := by decide +kernel
theorem dX2_perform_25 : decode cX2_perform 25 = .ok (.iand, 1) := by decide +kernel
theorem dX2_perform_26 : decode cX2_perform 26 = .ok (.istore 6, 2) := by decide +kernel
theorem dX2_perform_28 : decode cX2_perform 28 = .ok (.iload_n 2, 1) := by decide +kernel
theorem dX2_perform_29 : decode cX2_perform 29 = .ok (.bipush 8, 2) := by decide +kernel
theorem dX2_perform_31 : decode cX2_perform 31 = .ok (.ishr, 1) := by decide +kernel
theorem dX2_perform_32 : decode cX2_perform 32 = .ok (.istore 7, 2) := by decide +kernel
theorem dX2_perform_34 : decode cX2_perform 34 = .ok (.iload_n 2, 1) := by decide +kernel
theorem dX2_perform_35 : decode cX2_perform 35 = .ok (.bipush 15, 2) := by decide +kernel
theorem dX2_perform_37 : decode cX2_perform 37 = .ok (.iand, 1) := by decide +kernel
theorem dX2_perform_38 : decode cX2_perform 38 = .ok (.tableswitch 214 0 15 #[78, 214, 214, 214, 214, 214, 85, 101, 117, 138, 159, 170, 182, 194, 201, 212], 78) := by decide +kernel
theorem dX2_perform_116 : decode cX2_perform 116 = .ok (.aload_n 3, 1) := by decide +kernel
theorem dX2_perform_117 : decode cX2_perform 117 = .ok (.iconst 2, 1) := by decide +kernel
theorem dX2_perform_118 : decode cX2_perform 118 = .ok (.putfield 152, 3) := by decide +kernel
theorem dX2_perform_121 : decode cX2_perform 121 = .ok (.iconst 0, 1) := by decide +kernel
theorem dX2_perform_122 : decode cX2_perform 122 = .ok (.ireturn, 1) := by decide +kernel
theorem dX2_perform_123 : decode cX2_perform 123 = .ok (.aload_n 0, 1) := by decide +kernel
theorem dX2_perform_124 : decode cX2_perform 124 = .ok (.aload_n 3, 1) := by decide +kernel
theorem dX2_perform_125 : decode cX2_perform 125 = .ok (.iload 5, 2) := by decide +kernel
theorem dX2_perform_127 : decode cX2_perform 127 = .ok (.aload 4, 2) := by decide +kernel
theorem dX2_perform_129 : decode cX2_perform 129 = .ok (.iload 6, 2) := by decide +kernel
theorem dX2_perform_131 : decode cX2_perform 131 = .ok (.iaload, 1) := by decide +kernel
theorem dX2_perform_132 : decode cX2_perform 132 = .ok (.iload 7, 2) := by decide +kernel
theorem dX2_perform_134 : decode cX2_perform 134 = .ok (.iadd, 1) := by decide +kernel
theorem dX2_perform_135 : decode cX2_perform 135 = .ok (.invokevirtual 179, 3) := by decide +kernel
theorem dX2_perform_138 : decode cX2_perform 138 = .ok (.ireturn, 1) := by decide +kernel
theorem dX2_perform_139 : decode cX2_perform 139 = .ok (.aload_n 0, 1) := by decide +kernel
theorem dX2_perform_140 : decode cX2_perform 140 = .ok (.aload_n 3, 1) := by decide +kernel
theorem dX2_perform_141 : decode cX2_perform 141 = .ok (.iload 5, 2) := by decide +kernel
theorem dX2_perform_143 : decode cX2_perform 143 = .ok (.aload 4, 2) := by decide +kernel
theorem dX2_perform_145 : decode cX2_perform 145 = .ok (.iload 6, 2) := by decide +kernel
theorem dX2_perform_147 : decode cX2_perform 147 = .ok (.iaload, 1) := by decide +kernel
theorem dX2_perform_148 : decode cX2_perform 148 = .ok (.iload 7, 2) := by decide +kernel
theorem dX2_perform_150 : decode cX2_perform 150 = .ok (.iadd, 1) := by decide +kernel
theorem dX2_perform_151 : decode cX2_perform 151 = .ok (.invokevirtual 183, 3) := by decide +kernel
theorem dX2_perform_154 : decode cX2_perform 154 = .ok (.ireturn, 1) := by decide +kernel
theorem dX2_perform_155 : decode cX2_perform 155 = .ok (.aload_n 3, 1) := by decide +kernel
theorem dX2_perform_156 : decode cX2_perform 156 = .ok (.aload 4, 2) := by decide +kernel
theorem dX2_perform_158 : decode cX2_perform 158 = .ok (.iload 5, 2) := by decide +kernel
theorem dX2_perform_160 : decode cX2_perform 160 = .ok (.iaload, 1) := by decide +kernel
theorem dX2_perform_161 : decode cX2_perform 161 = .ok (.ifCond .ne 7, 3) := by decide +kernel
theorem dX2_perform_164 : decode cX2_perform 164 = .ok (.iconst 1, 1) := by decide +kernel
theorem dX2_perform_165 : decode cX2_perform 165 = .ok (.goto 4, 3) := by decide +kernel
theorem dX2_perform_168 : decode cX2_perform 168 = .ok (.iconst 0, 1) := by decide +kernel
theorem dX2_perform_169 : decode cX2_perform 169 = .ok (.iload 7, 2) := by decide +kernel
theorem dX2_perform_171 : decode cX2_perform 171 = .ok (.invokevirtual 186, 3) := by decide +kernel
theorem dX2_perform_174 : decode cX2_perform 174 = .ok (.iconst 0, 1) := by decide +kernel
theorem dX2_perform_175 : decode cX2_perform 175 = .ok (.ireturn, 1) := by decide +kernel
theorem dX2_perform_176 : decode cX2_perform 176 = .ok (.aload_n 3, 1) := by decide +kernel
theorem dX2_perform_177 : decode cX2_perform 177 = .ok (.aload 4, 2) := by decide +kernel
theorem dX2_perform_179 : decode cX2_perform 179 = .ok (.iload 5, 2) := by decide +kernel
theorem dX2_perform_181 : decode cX2_perform 181 = .ok (.iaload, 1) := by decide +kernel
theorem dX2_perform_182 : decode cX2_perform 182 = .ok (.ifCond .ge 7, 3) := by decide +kernel
theorem dX2_perform_185 : decode cX2_perform 185 = .ok (.iconst 1, 1) := by decide +kernel
theorem dX2_perform_186 : decode cX2_perform 186 = .ok (.goto 4, 3) := by decide +kernel
theorem dX2_perform_189 : decode cX2_perform 189 = .ok (.iconst 0, 1) := by decide +kernel
theorem dX2_perform_190 : decode cX2_perform 190 = .ok (.iload 7, 2) := by decide +kernel
theorem dX2_perform_192 : decode cX2_perform 192 = .ok (.invokevirtual 186, 3) := by decide +kernel
theorem dX2_perform_195 : decode cX2_perform 195 = .ok (.iconst 0, 1) := by decide +kernel
theorem dX2_perform_196 : decode cX2_perform 196 = .ok (.ireturn, 1) := by decide +kernel
theorem dX2_perform_197 : decode cX2_perform 197 = .ok (.aload_n 3, 1) := by decide +kernel
theorem dX2_perform_198 : decode cX2_perform 198 = .ok (.aload 4, 2) := by decide +kernel
theorem dX2_perform_200 : decode cX2_perform 200 = .ok (.iload 5, 2) := by decide +kernel
theorem dX2_perform_202 : decode cX2_perform 202 = .ok (.iaload, 1) := by decide +kernel
theorem dX2_perform_203 : decode cX2_perform 203 = .ok (.putfield 164, 3) := by decide +kernel
theorem dX2_perform_206 : decode cX2_perform 206 = .ok (.iconst 0, 1) := by decide +kernel
theorem dX2_perform_207 : decode cX2_perform 207 = .ok (.ireturn, 1) := by decide +kernel
theorem dX2_perform_208 : decode cX2_perform 208 = .ok (.aload_n 0, 1) := by decide +kernel
theorem dX2_perform_209 : decode cX2_perform 209 = .ok (.iload_n 1, 1) := by decide +kernel
theorem dX2_perform_210 : decode cX2_perform 210 = .ok (.iload 5, 2) := by decide +kernel
theorem dX2_perform_212 : decode cX2_perform 212 = .ok (.iload 6, 2) := by decide +kernel
theorem dX2_perform_214 : decode cX2_perform 214 = .ok (.iload 7, 2) := by decide +kernel
theorem dX2_perform_216 : decode cX2_perform 216 = .ok (.invokevirtual 190, 3) := by decide +kernel
theorem dX2_perform_219 : decode cX2_perform 219 = .ok (.ireturn, 1) := by decide +kernel
theorem dX2_perform_220 : decode cX2_perform 220 = .ok (.aload_n 0, 1) := by decide +kernel
theorem dX2_perform_221 : decode cX2_perform 221 = .ok (.iload_n 1, 1) := by decide +kernel
theorem dX2_perform_222 : decode cX2_perform 222 = .ok (.iload 5, 2) := by decide +kernel
theorem dX2_perform_224 : decode cX2_perform 224 = .ok (.iload 6, 2) := by decide +kernel
theorem dX2_perform_226 : decode cX2_perform 226 = .ok (.iload 7, 2) := by decide +kernel
theorem dX2_perform_228 : decode cX2_perform 228 = .ok (.invokevirtual 194, 3) := by decide +kernel
theorem dX2_perform_231 : decode cX2_perform 231 = .ok (.ireturn, 1) := by decide +kernel
theorem dX2_perform_232 : decode cX2_perform 232 = .ok (.aload_n 0, 1) := by decide +kernel
theorem dX2_perform_233 : decode cX2_perform 233 = .ok (.iconst 1, 1) := by decide +kernel
theorem dX2_perform_234 : decode cX2_perform 234 = .ok (.putfield 149, 3) := by decide +kernel
theorem dX2_perform_237 : decode cX2_perform 237 = .ok (.iconst 0, 1) := by decide +kernel
theorem dX2_perform_238 : decode cX2_perform 238 = .ok (.ireturn, 1) := by decide +kernel
theorem dX2_perform_239 : decode cX2_perform 239 = .ok (.aload 4, 2) := by decide +kernel
theorem dX2_perform_241 : decode cX2_perform 241 = .ok (.iload 5, 2) := by decide +kernel
theorem dX2_perform_243 : decode cX2_perform 243 = .ok (.aload_n 3, 1) := by decide +kernel
theorem dX2_perform_244 : decode cX2_perform 244 = .ok (.getfield 170, 3) := by decide +kernel
theorem dX2_perform_247 : decode cX2_perform 247 = .ok (.iastore, 1) := by decide +kernel
theorem dX2_perform_248 : decode cX2_perform 248 = .ok (.iconst 0, 1) := by decide +kernel
theorem dX2_perform_249 : decode cX2_perform 249 = .ok (.ireturn, 1) := by decide +kernel
theorem dX2_perform_250 : decode cX2_perform 250 = .ok (.iconst 4, 1) := by decide +kernel
theorem dX2_perform_251 : decode cX2_perform 251 = .ok (.ireturn, 1) := by decide +kernel
theorem dX2_perform_252 : decode cX2_perform 252 = .ok (.aload 4, 2) := by decide +kernel
theorem dX2_perform_254 : decode cX2_perform 254 = .ok (.iload 5, 2) := by decide +kernel
theorem dX2_perform_256 : decode cX2_perform 256 = .ok (.iload_n 2, 1) := by decide +kernel
theorem dX2_perform_257 : decode cX2_perform 257 = .ok (.bipush 15, 2) := by decide +kernel
theorem dX2_perform_259 : decode cX2_perform 259 = .ok (.iand, 1) := by decide +kernel
theorem dX2_perform_260 : decode cX2_perform 260 = .ok (.aload 4, 2) := by decide +kernel
theorem dX2_perform_262 : decode cX2_perform 262 = .ok (.iload 5, 2) := by decide +kernel
theorem dX2_perform_264 : decode cX2_perform 264 = .ok (.iaload, 1) := by decide +kernel
theorem dX2_perform_265 : decode cX2_perform 265 = .ok (.aload 4, 2) := by decide +kernel
theorem dX2_perform_267 : decode cX2_perform 267 = .ok (.iload 6, 2) := by decide +kernel
theorem dX2_perform_269 : decode cX2_perform 269 = .ok (.iaload, 1) := by decide +kernel
theorem dX2_perform_270 : decode cX2_perform 270 = .ok (.iload 7, 2) := by decide +kernel
theorem dX2_perform_272 : decode cX2_perform 272 = .ok (.invokestatic 197, 3) := by decide +kernel
theorem dX2_perform_275 : decode cX2_perform 275 = .ok (.iastore, 1) := by decide +kernel
theorem dX2_perform_276 : decode cX2_perform 276 = .ok (.iconst 0, 1) := by decide +kernel
theorem dX2_perform_277 : decode cX2_perform 277 = .ok (.ireturn, 1) := by decide +kernel
theorem dX2_computed_0 : decode cX2_computed 0 = .ok (.iload_n 0, 1) := by decide +kernel
theorem dX2_computed_1 : decode cX2_computed 1 = .ok (.tableswitch 45 1 4 #[31, 33, 37, 41], 31) := by decide +kernel
theorem dX2_computed_32 : decode cX2_computed 32 = .ok (.iload_n 3, 1) := by decide +kernel
theorem dX2_computed_33 : decode cX2_computed 33 = .ok (.ireturn, 1) := by decide +kernel
theorem dX2_computed_34 : decode cX2_computed 34 = .ok (.iload_n 1, 1) := by decide +kernel
theorem dX2_computed_35 : decode cX2_computed 35 = .ok (.iload_n 2, 1) := by decide +kernel
theorem dX2_computed_36 : decode cX2_computed 36 = .ok (.iadd, 1) := by decide +kernel
theorem dX2_computed_37 : decode cX2_computed 37 = .ok (.ireturn, 1) := by decide +kernel
theorem dX2_computed_38 : decode cX2_computed 38 = .ok (.iload_n 1, 1) := by decide +kernel
theorem dX2_computed_39 : decode cX2_computed 39 = .ok (.iload_n 2, 1) := by decide +kernel
theorem dX2_computed_40 : decode cX2_computed 40 = .ok (.isub, 1) := by decide +kernel
theorem dX2_computed_41 : decode cX2_computed 41 = .ok (.ireturn, 1) := by decide +kernel
theorem dX2_computed_42 : decode cX2_computed 42 = .ok (.iload_n 1, 1) := by decide +kernel
theorem dX2_computed_43 : decode cX2_computed 43 = .ok (.iload_n 2, 1) := by decide +kernel
theorem dX2_computed_44 : decode cX2_computed 44 = .ok (.imul, 1) := by decide +kernel
theorem dX2_computed_45 : decode cX2_computed 45 = .ok (.ireturn, 1) := by decide +kernel
theorem dX2_computed_46 : decode cX2_computed 46 = .ok (.iload_n 1, 1) := by decide +kernel
theorem dX2_computed_47 : decode cX2_computed 47 = .ok (.iload_n 2, 1) := by decide +kernel
theorem dX2_computed_48 : decode cX2_computed 48 = .ok (.ixor, 1) := by decide +kernel
theorem dX2_computed_49 : decode cX2_computed 49 = .ok (.ireturn, 1) := by decide +kernel
set_option maxRecDepth 20000 in
theorem ggX2_load_X1_holds : GoodIn wsX2_load wsX1_holds := goodIn_r _ [5, 6, 7, 8, 9, 10, 11, 12, 13, 14, 15, 16] (by decide +kernel) (by decide +kernel)
set_option maxRecDepth 20000 in
theorem gX2_load_X1_holds_n138 : GoodIn wsX2_load (wsX1_holds) := ggX2_load_X1_holds
theorem dX2_load_0 : decode cX2_load 0 = .ok (.aload_n 1, 1) := by decide +kernel
theorem dX2_load_1 : decode cX2_load 1 = .ok (.iload_n 3, 1) := by decide +kernel
theorem dX2_load_2 : decode cX2_load 2 = .ok (.invokevirtual 138, 3) := by decide +kernel
theorem dX2_load_5 : decode cX2_load 5 = .ok (.ifCond .ne 5, 3) := by decide +kernel
theorem dX2_load_8 : decode cX2_load 8 = .ok (.iconst 2, 1) := by decide +kernel
theorem dX2_load_9 : decode cX2_load 9 = .ok (.ireturn, 1) := by decide +kernel
theorem dX2_load_10 : decode cX2_load 10 = .ok (.aload_n 1, 1) := by decide +kernel
theorem dX2_load_11 : decode cX2_load 11 = .ok (.getfield 176, 3) := by decide +kernel
theorem dX2_load_14 : decode cX2_load 14 = .ok (.iload_n 2, 1) := by decide +kernel
theorem dX2_load_15 : decode cX2_load 15 = .ok (.aload_n 0, 1) := by decide +kernel
theorem dX2_load_16 : decode cX2_load 16 = .ok (.getfield 9, 3) := by decide +kernel
theorem dX2_load_19 : decode cX2_load 19 = .ok (.aload_n 1, 1) := by decide +kernel
theorem dX2_load_20 : decode cX2_load 20 = .ok (.getfield 146, 3) := by decide +kernel
theorem dX2_load_23 : decode cX2_load 23 = .ok (.iload_n 3, 1) := by decide +kernel
theorem dX2_load_24 : decode cX2_load 24 = .ok (.iadd, 1) := by decide +kernel
theorem dX2_load_25 : decode cX2_load 25 = .ok (.iaload, 1) := by decide +kernel
theorem dX2_load_26 : decode cX2_load 26 = .ok (.iastore, 1) := by decide +kernel
theorem dX2_load_27 : decode cX2_load 27 = .ok (.iconst 0, 1) := by decide +kernel
theorem dX2_load_28 : decode cX2_load 28 = .ok (.ireturn, 1) := by decide +kernel
set_option maxRecDepth 20000 in
theorem ggX2_store_X1_holds : GoodIn wsX2_store wsX1_holds := goodIn_r _ [5, 6, 19, 20, 21, 22, 23, 24, 25, 26, 27, 28] (by decide +kernel) (by decide +kernel)
set_option maxRecDepth 20000 in
theorem gX2_store_X1_holds_n138 : GoodIn wsX2_store (wsX1_holds) := ggX2_store_X1_holds
theorem dX2_store_0 : decode cX2_store 0 = .ok (.aload_n 1, 1) := by decide +kernel
theorem dX2_store_1 : decode cX2_store 1 = .ok (.iload_n 3, 1) := by decide +kernel
theorem dX2_store_2 : decode cX2_store 2 = .ok (.invokevirtual 138, 3) := by decide +kernel
theorem dX2_store_5 : decode cX2_store 5 = .ok (.ifCond .ne 5, 3) := by decide +kernel
theorem dX2_store_8 : decode cX2_store 8 = .ok (.iconst 2, 1) := by decide +kernel
theorem dX2_store_9 : decode cX2_store 9 = .ok (.ireturn, 1) := by decide +kernel
theorem dX2_store_10 : decode cX2_store 10 = .ok (.aload_n 0, 1) := by decide +kernel
theorem dX2_store_11 : decode cX2_store 11 = .ok (.getfield 9, 3) := by decide +kernel
theorem dX2_store_14 : decode cX2_store 14 = .ok (.aload_n 1, 1) := by decide +kernel
theorem dX2_store_15 : decode cX2_store 15 = .ok (.getfield 146, 3) := by decide +kernel
theorem dX2_store_18 : decode cX2_store 18 = .ok (.iload_n 3, 1) := by decide +kernel
theorem dX2_store_19 : decode cX2_store 19 = .ok (.iadd, 1) := by decide +kernel
theorem dX2_store_20 : decode cX2_store 20 = .ok (.aload_n 1, 1) := by decide +kernel
theorem dX2_store_21 : decode cX2_store 21 = .ok (.getfield 176, 3) := by decide +kernel
theorem dX2_store_24 : decode cX2_store 24 = .ok (.iload_n 2, 1) := by decide +kernel
theorem dX2_store_25 : decode cX2_store 25 = .ok (.iaload, 1) := by decide +kernel
theorem dX2_store_26 : decode cX2_store 26 = .ok (.iastore, 1) := by decide +kernel
theorem dX2_store_27 : decode cX2_store 27 = .ok (.iconst 0, 1) := by decide +kernel
theorem dX2_store_28 : decode cX2_store 28 = .ok (.ireturn, 1) := by decide +kernel
set_option maxRecDepth 20000 in
theorem ggX2_send_X2_isChannel : GoodIn wsX2_send wsX2_isChannel := goodIn_r _ [8, 1, 28, 29, 30, 31, 32, 33, 34, 35, 36, 37, 38, 39, 40, 41, 42, 43, 44, 45, 46, 47, 48, 49] (by decide +kernel) (by decide +kernel)
set_option maxRecDepth 20000 in
theorem gX2_send_X2_isChannel : GoodIn wsX2_send (wsV RX2 110 RX2 yX2_isChannel wsX2_isChannel) := goodIn_app (goodIn_of _ (by decide +kernel)) ggX2_send_X2_isChannel
set_option maxRecDepth 20000 in
theorem ggX2_send_X0_put : GoodIn wsX2_send wsX0_put := goodIn_r _ [12, 13, 14, 15, 16, 17, 18, 19, 20, 21, 10, 22, 23, 24, 25, 26, 27, 40, 41, 42, 43, 44, 45, 46, 47, 48, 49] (by decide +kernel) (by decide +kernel)
set_option maxRecDepth 20000 in
theorem gX2_send_X0_put_n203 : GoodIn wsX2_send (wsX0_put) := ggX2_send_X0_put
theorem dX2_send_0 : decode cX2_send 0 = .ok (.aload_n 0, 1) := by decide +kernel
theorem dX2_send_1 : decode cX2_send 1 = .ok (.iload 4, 2) := by decide +kernel
theorem dX2_send_3 : decode cX2_send 3 = .ok (.invokevirtual 110, 3) := by decide +kernel
theorem dX2_send_6 : decode cX2_send 6 = .ok (.ifCond .eq 17, 3) := by decide +kernel
theorem dX2_send_9 : decode cX2_send 9 = .ok (.aload_n 0, 1) := by decide +kernel
theorem dX2_send_10 : decode cX2_send 10 = .ok (.getfield 22, 3) := by decide +kernel
theorem dX2_send_13 : decode cX2_send 13 = .ok (.iload 4, 2) := by decide +kernel
theorem dX2_send_15 : decode cX2_send 15 = .ok (.aaload, 1) := by decide +kernel
theorem dX2_send_16 : decode cX2_send 16 = .ok (.getfield 200, 3) := by decide +kernel
theorem dX2_send_19 : decode cX2_send 19 = .ok (.iload_n 1, 1) := by decide +kernel
theorem dX2_send_20 : decode cX2_send 20 = .ok (.if_icmp .eq 5, 3) := by decide +kernel
theorem dX2_send_23 : decode cX2_send 23 = .ok (.iconst 3, 1) := by decide +kernel
theorem dX2_send_24 : decode cX2_send 24 = .ok (.ireturn, 1) := by decide +kernel
theorem dX2_send_25 : decode cX2_send 25 = .ok (.aload_n 0, 1) := by decide +kernel
theorem dX2_send_26 : decode cX2_send 26 = .ok (.getfield 15, 3) := by decide +kernel
theorem dX2_send_29 : decode cX2_send 29 = .ok (.iload_n 1, 1) := by decide +kernel
theorem dX2_send_30 : decode cX2_send 30 = .ok (.aaload, 1) := by decide +kernel
theorem dX2_send_31 : decode cX2_send 31 = .ok (.getfield 176, 3) := by decide +kernel
theorem dX2_send_34 : decode cX2_send 34 = .ok (.astore 5, 2) := by decide +kernel
theorem dX2_send_36 : decode cX2_send 36 = .ok (.aload 5, 2) := by decide +kernel
theorem dX2_send_38 : decode cX2_send 38 = .ok (.iload_n 3, 1) := by decide +kernel
theorem dX2_send_39 : decode cX2_send 39 = .ok (.aload_n 0, 1) := by decide +kernel
theorem dX2_send_40 : decode cX2_send 40 = .ok (.getfield 22, 3) := by decide +kernel
theorem dX2_send_43 : decode cX2_send 43 = .ok (.iload 4, 2) := by decide +kernel
theorem dX2_send_45 : decode cX2_send 45 = .ok (.aaload, 1) := by decide +kernel
theorem dX2_send_46 : decode cX2_send 46 = .ok (.aload 5, 2) := by decide +kernel
theorem dX2_send_48 : decode cX2_send 48 = .ok (.iload_n 2, 1) := by decide +kernel
theorem dX2_send_49 : decode cX2_send 49 = .ok (.iaload, 1) := by decide +kernel
theorem dX2_send_50 : decode cX2_send 50 = .ok (.aload_n 0, 1) := by decide +kernel
theorem dX2_send_51 : decode cX2_send 51 = .ok (.getfield 116, 3) := by decide +kernel
theorem dX2_send_54 : decode cX2_send 54 = .ok (.invokevirtual 203, 3) := by decide +kernel
theorem dX2_send_57 : decode cX2_send 57 = .ok (.ifCond .eq 7, 3) := by decide +kernel
theorem dX2_send_60 : decode cX2_send 60 = .ok (.iconst 1, 1) := by decide +kernel
theorem dX2_send_61 : decode cX2_send 61 = .ok (.goto 4, 3) := by decide +kernel
theorem dX2_send_64 : decode cX2_send 64 = .ok (.iconst 0, 1) := by decide +kernel
theorem dX2_send_65 : decode cX2_send 65 = .ok (.iastore, 1) := by decide +kernel
theorem dX2_send_66 : decode cX2_send 66 = .ok (.iconst 0, 1) := by decide +kernel
theorem dX2_send_67 : decode cX2_send 67 = .ok (.ireturn, 1) := by decide +kernel
set_option maxRecDepth 20000 in
theorem ggX2_take_X2_isChannel : GoodIn wsX2_take wsX2_isChannel := goodIn_r _ [8, 1, 37, 38, 39, 40, 41, 42, 43, 44, 45, 46, 47, 48, 49, 50, 51, 52, 53, 54, 55, 56, 57, 58] (by decide +kernel) (by decide +kernel)
set_option maxRecDepth 20000 in
theorem gX2_take_X2_isChannel : GoodIn wsX2_take (wsV RX2 110 RX2 yX2_isChannel wsX2_isChannel) := goodIn_app (goodIn_of _ (by decide +kernel)) ggX2_take_X2_isChannel
set_option maxRecDepth 20000 in
theorem ggX2_take_X0_wordAt : GoodIn wsX2_take wsX0_wordAt := goodIn_r _ [12, 13, 14, 15, 16, 17, 10, 18, 19, 49, 50, 51, 52, 53, 54, 55, 56, 57, 58] (by decide +kernel) (by decide +kernel)
set_option maxRecDepth 20000 in
theorem gX2_take_X0_wordAt_n126 : GoodIn wsX2_take (wsX0_wordAt) := ggX2_take_X0_wordAt
set_option maxRecDepth 20000 in
theorem ggX2_take_X0_isSlot : GoodIn wsX2_take wsX0_isSlot := goodIn_r _ [22, 23, 49, 50, 51, 52, 53, 54, 55, 56, 57, 58] (by decide +kernel) (by decide +kernel)
set_option maxRecDepth 20000 in
theorem gX2_take_X0_isSlot_n123 : GoodIn wsX2_take (wsX0_isSlot) := ggX2_take_X0_isSlot
set_option maxRecDepth 20000 in
theorem ggX2_take_X0_age : GoodIn wsX2_take wsX0_age := goodIn_r _ [26, 13, 27, 28, 29, 30, 31, 32, 33, 20, 21, 10, 22, 23, 49, 50, 51, 52, 53, 54, 55, 56, 57, 58] (by decide +kernel) (by decide +kernel)
set_option maxRecDepth 20000 in
theorem gX2_take_X0_age_n212 : GoodIn wsX2_take (wsX0_age) := ggX2_take_X0_age
set_option maxRecDepth 20000 in
theorem ggX2_take_X0_dropTaken : GoodIn wsX2_take wsX0_dropTaken := goodIn_r _ [36, 13, 19, 33, 20, 21, 10, 22, 23, 15, 16, 17, 18, 49, 50, 51, 52, 53, 54, 55, 56, 57, 58] (by decide +kernel) (by decide +kernel)
set_option maxRecDepth 20000 in
theorem gX2_take_X0_dropTaken_n215 : GoodIn wsX2_take (wsX0_dropTaken) := ggX2_take_X0_dropTaken
theorem dX2_take_0 : decode cX2_take 0 = .ok (.aload_n 0, 1) := by decide +kernel
theorem dX2_take_1 : decode cX2_take 1 = .ok (.iload 4, 2) := by decide +kernel
theorem dX2_take_3 : decode cX2_take 3 = .ok (.invokevirtual 110, 3) := by decide +kernel
theorem dX2_take_6 : decode cX2_take 6 = .ok (.ifCond .eq 17, 3) := by decide +kernel
theorem dX2_take_9 : decode cX2_take 9 = .ok (.aload_n 0, 1) := by decide +kernel
theorem dX2_take_10 : decode cX2_take 10 = .ok (.getfield 22, 3) := by decide +kernel
theorem dX2_take_13 : decode cX2_take 13 = .ok (.iload 4, 2) := by decide +kernel
theorem dX2_take_15 : decode cX2_take 15 = .ok (.aaload, 1) := by decide +kernel
theorem dX2_take_16 : decode cX2_take 16 = .ok (.getfield 206, 3) := by decide +kernel
theorem dX2_take_19 : decode cX2_take 19 = .ok (.iload_n 1, 1) := by decide +kernel
theorem dX2_take_20 : decode cX2_take 20 = .ok (.if_icmp .eq 5, 3) := by decide +kernel
theorem dX2_take_23 : decode cX2_take 23 = .ok (.iconst 3, 1) := by decide +kernel
theorem dX2_take_24 : decode cX2_take 24 = .ok (.ireturn, 1) := by decide +kernel
theorem dX2_take_25 : decode cX2_take 25 = .ok (.aload_n 0, 1) := by decide +kernel
theorem dX2_take_26 : decode cX2_take 26 = .ok (.getfield 22, 3) := by decide +kernel
theorem dX2_take_29 : decode cX2_take 29 = .ok (.iload 4, 2) := by decide +kernel
theorem dX2_take_31 : decode cX2_take 31 = .ok (.aaload, 1) := by decide +kernel
theorem dX2_take_32 : decode cX2_take 32 = .ok (.astore 5, 2) := by decide +kernel
theorem dX2_take_34 : decode cX2_take 34 = .ok (.aload_n 0, 1) := by decide +kernel
theorem dX2_take_35 : decode cX2_take 35 = .ok (.getfield 15, 3) := by decide +kernel
theorem dX2_take_38 : decode cX2_take 38 = .ok (.iload_n 1, 1) := by decide +kernel
theorem dX2_take_39 : decode cX2_take 39 = .ok (.aaload, 1) := by decide +kernel
theorem dX2_take_40 : decode cX2_take 40 = .ok (.getfield 176, 3) := by decide +kernel
theorem dX2_take_43 : decode cX2_take 43 = .ok (.astore 6, 2) := by decide +kernel
theorem dX2_take_45 : decode cX2_take 45 = .ok (.aload 5, 2) := by decide +kernel
theorem dX2_take_47 : decode cX2_take 47 = .ok (.getfield 209, 3) := by decide +kernel
theorem dX2_take_50 : decode cX2_take 50 = .ok (.ifCond .ne 10, 3) := by decide +kernel
theorem dX2_take_53 : decode cX2_take 53 = .ok (.aload 6, 2) := by decide +kernel
theorem dX2_take_55 : decode cX2_take 55 = .ok (.iload_n 3, 1) := by decide +kernel
theorem dX2_take_56 : decode cX2_take 56 = .ok (.iconst 0, 1) := by decide +kernel
theorem dX2_take_57 : decode cX2_take 57 = .ok (.iastore, 1) := by decide +kernel
theorem dX2_take_58 : decode cX2_take 58 = .ok (.iconst 0, 1) := by decide +kernel
theorem dX2_take_59 : decode cX2_take 59 = .ok (.ireturn, 1) := by decide +kernel
theorem dX2_take_60 : decode cX2_take 60 = .ok (.aload 6, 2) := by decide +kernel
theorem dX2_take_62 : decode cX2_take 62 = .ok (.iload_n 2, 1) := by decide +kernel
theorem dX2_take_63 : decode cX2_take 63 = .ok (.aload 5, 2) := by decide +kernel
theorem dX2_take_65 : decode cX2_take 65 = .ok (.iconst 0, 1) := by decide +kernel
theorem dX2_take_66 : decode cX2_take 66 = .ok (.invokevirtual 126, 3) := by decide +kernel
theorem dX2_take_69 : decode cX2_take 69 = .ok (.iastore, 1) := by decide +kernel
theorem dX2_take_70 : decode cX2_take 70 = .ok (.aload 6, 2) := by decide +kernel
theorem dX2_take_72 : decode cX2_take 72 = .ok (.iload_n 3, 1) := by decide +kernel
theorem dX2_take_73 : decode cX2_take 73 = .ok (.aload 5, 2) := by decide +kernel
theorem dX2_take_75 : decode cX2_take 75 = .ok (.invokevirtual 123, 3) := by decide +kernel
theorem dX2_take_78 : decode cX2_take 78 = .ok (.ifCond .eq 17, 3) := by decide +kernel
theorem dX2_take_81 : decode cX2_take 81 = .ok (.aload 5, 2) := by decide +kernel
theorem dX2_take_83 : decode cX2_take 83 = .ok (.aload_n 0, 1) := by decide +kernel
theorem dX2_take_84 : decode cX2_take 84 = .ok (.getfield 116, 3) := by decide +kernel
theorem dX2_take_87 : decode cX2_take 87 = .ok (.invokevirtual 212, 3) := by decide +kernel
theorem dX2_take_90 : decode cX2_take 90 = .ok (.iconst 1, 1) := by decide +kernel
theorem dX2_take_91 : decode cX2_take 91 = .ok (.iadd, 1) := by decide +kernel
theorem dX2_take_92 : decode cX2_take 92 = .ok (.goto 4, 3) := by decide +kernel
theorem dX2_take_95 : decode cX2_take 95 = .ok (.iconst 1, 1) := by decide +kernel
theorem dX2_take_96 : decode cX2_take 96 = .ok (.iastore, 1) := by decide +kernel
theorem dX2_take_97 : decode cX2_take 97 = .ok (.aload 5, 2) := by decide +kernel
theorem dX2_take_99 : decode cX2_take 99 = .ok (.invokevirtual 215, 3) := by decide +kernel
theorem dX2_take_102 : decode cX2_take 102 = .ok (.iconst 0, 1) := by decide +kernel
theorem dX2_take_103 : decode cX2_take 103 = .ok (.ireturn, 1) := by decide +kernel
theorem dJ9_min_7cf53_0 : decode cJ9_min_7cf53 0 = .ok (.iload_n 0, 1) := by decide +kernel
theorem dJ9_min_7cf53_1 : decode cJ9_min_7cf53 1 = .ok (.iload_n 1, 1) := by decide +kernel
theorem dJ9_min_7cf53_2 : decode cJ9_min_7cf53 2 = .ok (.if_icmp .gt 7, 3) := by decide +kernel
theorem dJ9_min_7cf53_5 : decode cJ9_min_7cf53 5 = .ok (.iload_n 0, 1) := by decide +kernel
theorem dJ9_min_7cf53_6 : decode cJ9_min_7cf53 6 = .ok (.goto 4, 3) := by decide +kernel
theorem dJ9_min_7cf53_9 : decode cJ9_min_7cf53 9 = .ok (.iload_n 1, 1) := by decide +kernel
theorem dJ9_min_7cf53_10 : decode cJ9_min_7cf53 10 = .ok (.ireturn, 1) := by decide +kernel
theorem dJ7_fill_53178_0 : decode cJ7_fill_53178 0 = .ok (.iconst 0, 1) := by decide +kernel
theorem dJ7_fill_53178_1 : decode cJ7_fill_53178 1 = .ok (.istore_n 2, 1) := by decide +kernel
theorem dJ7_fill_53178_2 : decode cJ7_fill_53178 2 = .ok (.aload_n 0, 1) := by decide +kernel
theorem dJ7_fill_53178_3 : decode cJ7_fill_53178 3 = .ok (.arraylength, 1) := by decide +kernel
theorem dJ7_fill_53178_4 : decode cJ7_fill_53178 4 = .ok (.istore_n 3, 1) := by decide +kernel
theorem dJ7_fill_53178_5 : decode cJ7_fill_53178 5 = .ok (.iload_n 2, 1) := by decide +kernel
theorem dJ7_fill_53178_6 : decode cJ7_fill_53178 6 = .ok (.iload_n 3, 1) := by decide +kernel
theorem dJ7_fill_53178_7 : decode cJ7_fill_53178 7 = .ok (.if_icmp .ge 13, 3) := by decide +kernel
theorem dJ7_fill_53178_10 : decode cJ7_fill_53178 10 = .ok (.aload_n 0, 1) := by decide +kernel
theorem dJ7_fill_53178_11 : decode cJ7_fill_53178 11 = .ok (.iload_n 2, 1) := by decide +kernel
theorem dJ7_fill_53178_12 : decode cJ7_fill_53178 12 = .ok (.iload_n 1, 1) := by decide +kernel
theorem dJ7_fill_53178_13 : decode cJ7_fill_53178 13 = .ok (.iastore, 1) := by decide +kernel
theorem dJ7_fill_53178_14 : decode cJ7_fill_53178 14 = .ok (.iinc 2 1, 3) := by decide +kernel
theorem dJ7_fill_53178_17 : decode cJ7_fill_53178 17 = .ok (.goto (-12), 3) := by decide +kernel
theorem dJ7_fill_53178_20 : decode cJ7_fill_53178 20 = .ok (.return_, 1) := by decide +kernel
end
section
theorem dX3_init_0 : decode cX3_init 0 = .ok (.aload_n 0, 1) := by decide +kernel
theorem dX3_init_1 : decode cX3_init 1 = .ok (.invokespecial 1, 3) := by decide +kernel
theorem dX3_init_4 : decode cX3_init 4 = .ok (.aload_n 0, 1) := by decide +kernel
theorem dX3_init_5 : decode cX3_init 5 = .ok (.sipush 512, 3) := by decide +kernel
theorem dX3_init_8 : decode cX3_init 8 = .ok (.newarray .int, 2) := by decide +kernel
theorem dX3_init_10 : decode cX3_init 10 = .ok (.putfield 7, 3) := by decide +kernel
theorem dX3_init_13 : decode cX3_init 13 = .ok (.aload_n 0, 1) := by decide +kernel
theorem dX3_init_14 : decode cX3_init 14 = .ok (.bipush 6, 2) := by decide +kernel
theorem dX3_init_16 : decode cX3_init 16 = .ok (.newarray .int, 2) := by decide +kernel
theorem dX3_init_18 : decode cX3_init 18 = .ok (.putfield 13, 3) := by decide +kernel
theorem dX3_init_21 : decode cX3_init 21 = .ok (.aload_n 0, 1) := by decide +kernel
theorem dX3_init_22 : decode cX3_init 22 = .ok (.bipush 6, 2) := by decide +kernel
theorem dX3_init_24 : decode cX3_init 24 = .ok (.newarray .int, 2) := by decide +kernel
theorem dX3_init_26 : decode cX3_init 26 = .ok (.putfield 16, 3) := by decide +kernel
theorem dX3_init_29 : decode cX3_init 29 = .ok (.aload_n 0, 1) := by decide +kernel
theorem dX3_init_30 : decode cX3_init 30 = .ok (.bipush 6, 2) := by decide +kernel
theorem dX3_init_32 : decode cX3_init 32 = .ok (.newarray .int, 2) := by decide +kernel
theorem dX3_init_34 : decode cX3_init 34 = .ok (.putfield 19, 3) := by decide +kernel
theorem dX3_init_37 : decode cX3_init 37 = .ok (.aload_n 0, 1) := by decide +kernel
theorem dX3_init_38 : decode cX3_init 38 = .ok (.bipush 6, 2) := by decide +kernel
theorem dX3_init_40 : decode cX3_init 40 = .ok (.newarray .int, 2) := by decide +kernel
theorem dX3_init_42 : decode cX3_init 42 = .ok (.putfield 22, 3) := by decide +kernel
theorem dX3_init_45 : decode cX3_init 45 = .ok (.aload_n 0, 1) := by decide +kernel
theorem dX3_init_46 : decode cX3_init 46 = .ok (.bipush 6, 2) := by decide +kernel
theorem dX3_init_48 : decode cX3_init 48 = .ok (.newarray .int, 2) := by decide +kernel
theorem dX3_init_50 : decode cX3_init 50 = .ok (.putfield 25, 3) := by decide +kernel
theorem dX3_init_53 : decode cX3_init 53 = .ok (.aload_n 0, 1) := by decide +kernel
theorem dX3_init_54 : decode cX3_init 54 = .ok (.bipush 24, 2) := by decide +kernel
theorem dX3_init_56 : decode cX3_init 56 = .ok (.newarray .int, 2) := by decide +kernel
theorem dX3_init_58 : decode cX3_init 58 = .ok (.putfield 28, 3) := by decide +kernel
theorem dX3_init_61 : decode cX3_init 61 = .ok (.aload_n 0, 1) := by decide +kernel
theorem dX3_init_62 : decode cX3_init 62 = .ok (.bipush 6, 2) := by decide +kernel
theorem dX3_init_64 : decode cX3_init 64 = .ok (.newarray .int, 2) := by decide +kernel
theorem dX3_init_66 : decode cX3_init 66 = .ok (.putfield 31, 3) := by decide +kernel
theorem dX3_init_69 : decode cX3_init 69 = .ok (.aload_n 0, 1) := by decide +kernel
theorem dX3_init_70 : decode cX3_init 70 = .ok (.bipush 6, 2) := by decide +kernel
theorem dX3_init_72 : decode cX3_init 72 = .ok (.newarray .int, 2) := by decide +kernel
theorem dX3_init_74 : decode cX3_init 74 = .ok (.putfield 34, 3) := by decide +kernel
theorem dX3_init_77 : decode cX3_init 77 = .ok (.aload_n 0, 1) := by decide +kernel
theorem dX3_init_78 : decode cX3_init 78 = .ok (.bipush 6, 2) := by decide +kernel
theorem dX3_init_80 : decode cX3_init 80 = .ok (.newarray .int, 2) := by decide +kernel
theorem dX3_init_82 : decode cX3_init 82 = .ok (.putfield 37, 3) := by decide +kernel
theorem dX3_init_85 : decode cX3_init 85 = .ok (.aload_n 0, 1) := by decide +kernel
theorem dX3_init_86 : decode cX3_init 86 = .ok (.bipush 6, 2) := by decide +kernel
theorem dX3_init_88 : decode cX3_init 88 = .ok (.newarray .int, 2) := by decide +kernel
theorem dX3_init_90 : decode cX3_init 90 = .ok (.putfield 40, 3) := by decide +kernel
theorem dX3_init_93 : decode cX3_init 93 = .ok (.aload_n 0, 1) := by decide +kernel
theorem dX3_init_94 : decode cX3_init 94 = .ok (.bipush 12, 2) := by decide +kernel
theorem dX3_init_96 : decode cX3_init 96 = .ok (.newarray .int, 2) := by decide +kernel
theorem dX3_init_98 : decode cX3_init 98 = .ok (.putfield 43, 3) := by decide +kernel
theorem dX3_init_101 : decode cX3_init 101 = .ok (.aload_n 0, 1) := by decide +kernel
theorem dX3_init_102 : decode cX3_init 102 = .ok (.bipush 12, 2) := by decide +kernel
theorem dX3_init_104 : decode cX3_init 104 = .ok (.newarray .int, 2) := by decide +kernel
theorem dX3_init_106 : decode cX3_init 106 = .ok (.putfield 46, 3) := by decide +kernel
theorem dX3_init_109 : decode cX3_init 109 = .ok (.aload_n 0, 1) := by decide +kernel
theorem dX3_init_110 : decode cX3_init 110 = .ok (.bipush 8, 2) := by decide +kernel
theorem dX3_init_112 : decode cX3_init 112 = .ok (.newarray .boolean, 2) := by decide +kernel
theorem dX3_init_114 : decode cX3_init 114 = .ok (.putfield 49, 3) := by decide +kernel
theorem dX3_init_117 : decode cX3_init 117 = .ok (.aload_n 0, 1) := by decide +kernel
theorem dX3_init_118 : decode cX3_init 118 = .ok (.bipush 8, 2) := by decide +kernel
theorem dX3_init_120 : decode cX3_init 120 = .ok (.newarray .int, 2) := by decide +kernel
theorem dX3_init_122 : decode cX3_init 122 = .ok (.putfield 53, 3) := by decide +kernel
theorem dX3_init_125 : decode cX3_init 125 = .ok (.aload_n 0, 1) := by decide +kernel
theorem dX3_init_126 : decode cX3_init 126 = .ok (.bipush 8, 2) := by decide +kernel
theorem dX3_init_128 : decode cX3_init 128 = .ok (.newarray .int, 2) := by decide +kernel
theorem dX3_init_130 : decode cX3_init 130 = .ok (.putfield 56, 3) := by decide +kernel
theorem dX3_init_133 : decode cX3_init 133 = .ok (.aload_n 0, 1) := by decide +kernel
theorem dX3_init_134 : decode cX3_init 134 = .ok (.bipush 8, 2) := by decide +kernel
theorem dX3_init_136 : decode cX3_init 136 = .ok (.newarray .int, 2) := by decide +kernel
theorem dX3_init_138 : decode cX3_init 138 = .ok (.putfield 59, 3) := by decide +kernel
theorem dX3_init_141 : decode cX3_init 141 = .ok (.aload_n 0, 1) := by decide +kernel
theorem dX3_init_142 : decode cX3_init 142 = .ok (.bipush 64, 2) := by decide +kernel
theorem dX3_init_144 : decode cX3_init 144 = .ok (.newarray .int, 2) := by decide +kernel
theorem dX3_init_146 : decode cX3_init 146 = .ok (.putfield 62, 3) := by decide +kernel
theorem dX3_init_149 : decode cX3_init 149 = .ok (.aload_n 0, 1) := by decide +kernel
theorem dX3_init_150 : decode cX3_init 150 = .ok (.bipush 8, 2) := by decide +kernel
theorem dX3_init_152 : decode cX3_init 152 = .ok (.newarray .int, 2) := by decide +kernel
theorem dX3_init_154 : decode cX3_init 154 = .ok (.putfield 65, 3) := by decide +kernel
theorem dX3_init_157 : decode cX3_init 157 = .ok (.aload_n 0, 1) := by decide +kernel
theorem dX3_init_158 : decode cX3_init 158 = .ok (.bipush 8, 2) := by decide +kernel
theorem dX3_init_160 : decode cX3_init 160 = .ok (.newarray .int, 2) := by decide +kernel
theorem dX3_init_162 : decode cX3_init 162 = .ok (.putfield 68, 3) := by decide +kernel
theorem dX3_init_165 : decode cX3_init 165 = .ok (.aload_n 0, 1) := by decide +kernel
theorem dX3_init_166 : decode cX3_init 166 = .ok (.bipush 8, 2) := by decide +kernel
theorem dX3_init_168 : decode cX3_init 168 = .ok (.newarray .int, 2) := by decide +kernel
theorem dX3_init_170 : decode cX3_init 170 = .ok (.putfield 71, 3) := by decide +kernel
theorem dX3_init_173 : decode cX3_init 173 = .ok (.aload_n 0, 1) := by decide +kernel
theorem dX3_init_174 : decode cX3_init 174 = .ok (.bipush 8, 2) := by decide +kernel
theorem dX3_init_176 : decode cX3_init 176 = .ok (.newarray .int, 2) := by decide +kernel
theorem dX3_init_178 : decode cX3_init 178 = .ok (.putfield 74, 3) := by decide +kernel
theorem dX3_init_181 : decode cX3_init 181 = .ok (.return_, 1) := by decide +kernel
theorem dX3_thrown_0 : decode cX3_thrown 0 = .ok (.aload_n 0, 1) := by decide +kernel
theorem dX3_thrown_1 : decode cX3_thrown 1 = .ok (.getfield 77, 3) := by decide +kernel
theorem dX3_thrown_4 : decode cX3_thrown 4 = .ok (.ireturn, 1) := by decide +kernel
theorem dX3_isTold_0 : decode cX3_isTold 0 = .ok (.iload_n 1, 1) := by decide +kernel
theorem dX3_isTold_1 : decode cX3_isTold 1 = .ok (.ifCond .lt 22, 3) := by decide +kernel
theorem dX3_isTold_4 : decode cX3_isTold 4 = .ok (.iload_n 1, 1) := by decide +kernel
theorem dX3_isTold_5 : decode cX3_isTold 5 = .ok (.bipush 6, 2) := by decide +kernel
theorem dX3_isTold_7 : decode cX3_isTold 7 = .ok (.if_icmp .ge 16, 3) := by decide +kernel
theorem dX3_isTold_10 : decode cX3_isTold 10 = .ok (.aload_n 0, 1) := by decide +kernel
theorem dX3_isTold_11 : decode cX3_isTold 11 = .ok (.getfield 22, 3) := by decide +kernel
theorem dX3_isTold_14 : decode cX3_isTold 14 = .ok (.iload_n 1, 1) := by decide +kernel
theorem dX3_isTold_15 : decode cX3_isTold 15 = .ok (.iaload, 1) := by decide +kernel
theorem dX3_isTold_16 : decode cX3_isTold 16 = .ok (.ifCond .le 7, 3) := by decide +kernel
theorem dX3_isTold_19 : decode cX3_isTold 19 = .ok (.iconst 1, 1) := by decide +kernel
theorem dX3_isTold_20 : decode cX3_isTold 20 = .ok (.goto 4, 3) := by decide +kernel
theorem dX3_isTold_23 : decode cX3_isTold 23 = .ok (.iconst 0, 1) := by decide +kernel
theorem dX3_isTold_24 : decode cX3_isTold 24 = .ok (.ireturn, 1) := by decide +kernel
theorem dX3_shares_0 : decode cX3_shares 0 = .ok (.iconst 0, 1) := by decide +kernel
theorem dX3_shares_1 : decode cX3_shares 1 = .ok (.istore_n 3, 1) := by decide +kernel
theorem dX3_shares_2 : decode cX3_shares 2 = .ok (.iload_n 3, 1) := by decide +kernel
theorem dX3_shares_3 : decode cX3_shares 3 = .ok (.bipush 6, 2) := by decide +kernel
theorem dX3_shares_5 : decode cX3_shares 5 = .ok (.if_icmp .ge 49, 3) := by decide +kernel
theorem dX3_shares_8 : decode cX3_shares 8 = .ok (.aload_n 0, 1) := by decide +kernel
theorem dX3_shares_9 : decode cX3_shares 9 = .ok (.getfield 22, 3) := by decide +kernel
theorem dX3_shares_12 : decode cX3_shares 12 = .ok (.iload_n 3, 1) := by decide +kernel
theorem dX3_shares_13 : decode cX3_shares 13 = .ok (.iaload, 1) := by decide +kernel
theorem dX3_shares_14 : decode cX3_shares 14 = .ok (.ifCond .le 34, 3) := by decide +kernel
theorem dX3_shares_17 : decode cX3_shares 17 = .ok (.iload_n 1, 1) := by decide +kernel
theorem dX3_shares_18 : decode cX3_shares 18 = .ok (.aload_n 0, 1) := by decide +kernel
theorem dX3_shares_19 : decode cX3_shares 19 = .ok (.getfield 13, 3) := by decide +kernel
theorem dX3_shares_22 : decode cX3_shares 22 = .ok (.iload_n 3, 1) := by decide +kernel
theorem dX3_shares_23 : decode cX3_shares 23 = .ok (.iaload, 1) := by decide +kernel
theorem dX3_shares_24 : decode cX3_shares 24 = .ok (.aload_n 0, 1) := by decide +kernel
theorem dX3_shares_25 : decode cX3_shares 25 = .ok (.getfield 16, 3) := by decide +kernel
theorem dX3_shares_28 : decode cX3_shares 28 = .ok (.iload_n 3, 1) := by decide +kernel
theorem dX3_shares_29 : decode cX3_shares 29 = .ok (.iaload, 1) := by decide +kernel
theorem dX3_shares_30 : decode cX3_shares 30 = .ok (.iadd, 1) := by decide +kernel
theorem dX3_shares_31 : decode cX3_shares 31 = .ok (.if_icmp .ge 17, 3) := by decide +kernel
theorem dX3_shares_34 : decode cX3_shares 34 = .ok (.aload_n 0, 1) := by decide +kernel
theorem dX3_shares_35 : decode cX3_shares 35 = .ok (.getfield 13, 3) := by decide +kernel
theorem dX3_shares_38 : decode cX3_shares 38 = .ok (.iload_n 3, 1) := by decide +kernel
theorem dX3_shares_39 : decode cX3_shares 39 = .ok (.iaload, 1) := by decide +kernel
theorem dX3_shares_40 : decode cX3_shares 40 = .ok (.iload_n 1, 1) := by decide +kernel
theorem dX3_shares_41 : decode cX3_shares 41 = .ok (.iload_n 2, 1) := by decide +kernel
theorem dX3_shares_42 : decode cX3_shares 42 = .ok (.iadd, 1) := by decide +kernel
theorem dX3_shares_43 : decode cX3_shares 43 = .ok (.if_icmp .ge 5, 3) := by decide +kernel
theorem dX3_shares_46 : decode cX3_shares 46 = .ok (.iconst 1, 1) := by decide +kernel
theorem dX3_shares_47 : decode cX3_shares 47 = .ok (.ireturn, 1) := by decide +kernel
theorem dX3_shares_48 : decode cX3_shares 48 = .ok (.iinc 3 1, 3) := by decide +kernel
theorem dX3_shares_51 : decode cX3_shares 51 = .ok (.goto (-49), 3) := by decide +kernel
theorem dX3_shares_54 : decode cX3_shares 54 = .ok (.iconst 0, 1) := by decide +kernel
theorem dX3_shares_55 : decode cX3_shares 55 = .ok (.ireturn, 1) := by decide +kernel
set_option maxRecDepth 20000 in
theorem ggX3_partition_X3_isTold : GoodIn wsX3_partition wsX3_isTold := goodIn_r _ [13, 8, 18, 19, 20, 21, 22, 23, 24, 25, 26, 27, 28, 29, 30, 31, 32, 33, 34, 35, 36, 37, 38, 39, 40, 41, 42, 43, 44, 45, 46, 47] (by decide +kernel) (by decide +kernel)
set_option maxRecDepth 20000 in
theorem gX3_partition_X3_isTold : GoodIn wsX3_partition (wsV RX3 81 RX3 yX3_isTold wsX3_isTold) := goodIn_app (goodIn_of _ (by decide +kernel)) ggX3_partition_X3_isTold
set_option maxRecDepth 20000 in
theorem ggX3_partition_X3_shares : GoodIn wsX3_partition wsX3_shares := goodIn_r _ [17, 8, 3, 4, 18, 19, 20, 21, 22, 23, 24, 25, 26, 27, 28, 29, 30, 31, 32, 33, 34, 35, 36, 37, 38, 39, 40, 41, 42, 43, 44, 45, 46, 47] (by decide +kernel) (by decide +kernel)
set_option maxRecDepth 20000 in
theorem gX3_partition_X3_shares : GoodIn wsX3_partition (wsV RX3 89 RX3 yX3_shares wsX3_shares) := goodIn_app (goodIn_of _ (by decide +kernel)) ggX3_partition_X3_shares
theorem dX3_partition_0 : decode cX3_partition 0 = .ok (.iload_n 1, 1) := by decide +kernel
theorem dX3_partition_1 : decode cX3_partition 1 = .ok (.ifCond .lt 41, 3) := by decide +kernel
theorem dX3_partition_4 : decode cX3_partition 4 = .ok (.iload_n 1, 1) := by decide +kernel
theorem dX3_partition_5 : decode cX3_partition 5 = .ok (.iconst 5, 1) := by decide +kernel
theorem dX3_partition_6 : decode cX3_partition 6 = .ok (.if_icmp .gt 36, 3) := by decide +kernel
theorem dX3_partition_9 : decode cX3_partition 9 = .ok (.aload_n 0, 1) := by decide +kernel
theorem dX3_partition_10 : decode cX3_partition 10 = .ok (.iload_n 1, 1) := by decide +kernel
theorem dX3_partition_11 : decode cX3_partition 11 = .ok (.invokevirtual 81, 3) := by decide +kernel
theorem dX3_partition_14 : decode cX3_partition 14 = .ok (.ifCond .ne 28, 3) := by decide +kernel
theorem dX3_partition_17 : decode cX3_partition 17 = .ok (.iload_n 2, 1) := by decide +kernel
theorem dX3_partition_18 : decode cX3_partition 18 = .ok (.ifCond .lt 24, 3) := by decide +kernel
theorem dX3_partition_21 : decode cX3_partition 21 = .ok (.iload_n 2, 1) := by decide +kernel
theorem dX3_partition_22 : decode cX3_partition 22 = .ok (.sipush 512, 3) := by decide +kernel
theorem dX3_partition_25 : decode cX3_partition 25 = .ok (.if_icmp .ge 17, 3) := by decide +kernel
theorem dX3_partition_28 : decode cX3_partition 28 = .ok (.iload_n 3, 1) := by decide +kernel
theorem dX3_partition_29 : decode cX3_partition 29 = .ok (.iconst 1, 1) := by decide +kernel
theorem dX3_partition_30 : decode cX3_partition 30 = .ok (.if_icmp .lt 12, 3) := by decide +kernel
theorem dX3_partition_33 : decode cX3_partition 33 = .ok (.iload_n 3, 1) := by decide +kernel
theorem dX3_partition_34 : decode cX3_partition 34 = .ok (.sipush 512, 3) := by decide +kernel
theorem dX3_partition_37 : decode cX3_partition 37 = .ok (.iload_n 2, 1) := by decide +kernel
theorem dX3_partition_38 : decode cX3_partition 38 = .ok (.isub, 1) := by decide +kernel
theorem dX3_partition_39 : decode cX3_partition 39 = .ok (.if_icmp .le 7, 3) := by decide +kernel
theorem dX3_partition_42 : decode cX3_partition 42 = .ok (.iconst 1, 1) := by decide +kernel
theorem dX3_partition_43 : decode cX3_partition 43 = .ok (.goto 4, 3) := by decide +kernel
theorem dX3_partition_46 : decode cX3_partition 46 = .ok (.iconst 0, 1) := by decide +kernel
theorem dX3_partition_47 : decode cX3_partition 47 = .ok (.istore 6, 2) := by decide +kernel
theorem dX3_partition_49 : decode cX3_partition 49 = .ok (.aload_n 0, 1) := by decide +kernel
theorem dX3_partition_50 : decode cX3_partition 50 = .ok (.aload_n 0, 1) := by decide +kernel
theorem dX3_partition_51 : decode cX3_partition 51 = .ok (.getfield 85, 3) := by decide +kernel
theorem dX3_partition_54 : decode cX3_partition 54 = .ok (.ifCond .eq 7, 3) := by decide +kernel
theorem dX3_partition_57 : decode cX3_partition 57 = .ok (.iconst 1, 1) := by decide +kernel
theorem dX3_partition_58 : decode cX3_partition 58 = .ok (.goto 45, 3) := by decide +kernel
theorem dX3_partition_61 : decode cX3_partition 61 = .ok (.iload 6, 2) := by decide +kernel
theorem dX3_partition_63 : decode cX3_partition 63 = .ok (.ifCond .ne 35, 3) := by decide +kernel
theorem dX3_partition_66 : decode cX3_partition 66 = .ok (.aload_n 0, 1) := by decide +kernel
theorem dX3_partition_67 : decode cX3_partition 67 = .ok (.iload_n 2, 1) := by decide +kernel
theorem dX3_partition_68 : decode cX3_partition 68 = .ok (.iload_n 3, 1) := by decide +kernel
theorem dX3_partition_69 : decode cX3_partition 69 = .ok (.invokevirtual 89, 3) := by decide +kernel
theorem dX3_partition_72 : decode cX3_partition 72 = .ok (.ifCond .ne 26, 3) := by decide +kernel
theorem dX3_partition_75 : decode cX3_partition 75 = .ok (.iload 4, 2) := by decide +kernel
theorem dX3_partition_77 : decode cX3_partition 77 = .ok (.ifCond .lt 21, 3) := by decide +kernel
theorem dX3_partition_80 : decode cX3_partition 80 = .ok (.iload 4, 2) := by decide +kernel
theorem dX3_partition_82 : decode cX3_partition 82 = .ok (.iload_n 3, 1) := by decide +kernel
theorem dX3_partition_83 : decode cX3_partition 83 = .ok (.if_icmp .ge 15, 3) := by decide +kernel
theorem dX3_partition_86 : decode cX3_partition 86 = .ok (.iload 5, 2) := by decide +kernel
theorem dX3_partition_88 : decode cX3_partition 88 = .ok (.ifCond .lt 10, 3) := by decide +kernel
theorem dX3_partition_91 : decode cX3_partition 91 = .ok (.iload 5, 2) := by decide +kernel
theorem dX3_partition_93 : decode cX3_partition 93 = .ok (.bipush 100, 2) := by decide +kernel
theorem dX3_partition_95 : decode cX3_partition 95 = .ok (.if_icmp .le 7, 3) := by decide +kernel
theorem dX3_partition_98 : decode cX3_partition 98 = .ok (.iconst 2, 1) := by decide +kernel
theorem dX3_partition_99 : decode cX3_partition 99 = .ok (.goto 4, 3) := by decide +kernel
theorem dX3_partition_102 : decode cX3_partition 102 = .ok (.iconst 0, 1) := by decide +kernel
theorem dX3_partition_103 : decode cX3_partition 103 = .ok (.putfield 77, 3) := by decide +kernel
theorem dX3_partition_106 : decode cX3_partition 106 = .ok (.aload_n 0, 1) := by decide +kernel
theorem dX3_partition_107 : decode cX3_partition 107 = .ok (.getfield 77, 3) := by decide +kernel
theorem dX3_partition_110 : decode cX3_partition 110 = .ok (.ifCond .ne 48, 3) := by decide +kernel
theorem dX3_partition_113 : decode cX3_partition 113 = .ok (.aload_n 0, 1) := by decide +kernel
theorem dX3_partition_114 : decode cX3_partition 114 = .ok (.getfield 13, 3) := by decide +kernel
theorem dX3_partition_117 : decode cX3_partition 117 = .ok (.iload_n 1, 1) := by decide +kernel
theorem dX3_partition_118 : decode cX3_partition 118 = .ok (.iload_n 2, 1) := by decide +kernel
theorem dX3_partition_119 : decode cX3_partition 119 = .ok (.iastore, 1) := by decide +kernel
theorem dX3_partition_120 : decode cX3_partition 120 = .ok (.aload_n 0, 1) := by decide +kernel
theorem dX3_partition_121 : decode cX3_partition 121 = .ok (.getfield 16, 3) := by decide +kernel
theorem dX3_partition_124 : decode cX3_partition 124 = .ok (.iload_n 1, 1) := by decide +kernel
theorem dX3_partition_125 : decode cX3_partition 125 = .ok (.iload_n 3, 1) := by decide +kernel
theorem dX3_partition_126 : decode cX3_partition 126 = .ok (.iastore, 1) := by decide +kernel
theorem dX3_partition_127 : decode cX3_partition 127 = .ok (.aload_n 0, 1) := by decide +kernel
theorem dX3_partition_128 : decode cX3_partition 128 = .ok (.getfield 19, 3) := by decide +kernel
theorem dX3_partition_131 : decode cX3_partition 131 = .ok (.iload_n 1, 1) := by decide +kernel
theorem dX3_partition_132 : decode cX3_partition 132 = .ok (.iload 4, 2) := by decide +kernel
theorem dX3_partition_134 : decode cX3_partition 134 = .ok (.iastore, 1) := by decide +kernel
theorem dX3_partition_135 : decode cX3_partition 135 = .ok (.aload_n 0, 1) := by decide +kernel
theorem dX3_partition_136 : decode cX3_partition 136 = .ok (.getfield 25, 3) := by decide +kernel
theorem dX3_partition_139 : decode cX3_partition 139 = .ok (.iload_n 1, 1) := by decide +kernel
theorem dX3_partition_140 : decode cX3_partition 140 = .ok (.iload 4, 2) := by decide +kernel
theorem dX3_partition_142 : decode cX3_partition 142 = .ok (.iastore, 1) := by decide +kernel
theorem dX3_partition_143 : decode cX3_partition 143 = .ok (.aload_n 0, 1) := by decide +kernel
theorem dX3_partition_144 : decode cX3_partition 144 = .ok (.getfield 34, 3) := by decide +kernel
theorem dX3_partition_147 : decode cX3_partition 147 = .ok (.iload_n 1, 1) := by decide +kernel
theorem dX3_partition_148 : decode cX3_partition 148 = .ok (.iload 5, 2) := by decide +kernel
theorem dX3_partition_150 : decode cX3_partition 150 = .ok (.iastore, 1) := by decide +kernel
theorem dX3_partition_151 : decode cX3_partition 151 = .ok (.aload_n 0, 1) := by decide +kernel
theorem dX3_partition_152 : decode cX3_partition 152 = .ok (.getfield 22, 3) := by decide +kernel
theorem dX3_partition_155 : decode cX3_partition 155 = .ok (.iload_n 1, 1) := by decide +kernel
theorem dX3_partition_156 : decode cX3_partition 156 = .ok (.iconst 1, 1) := by decide +kernel
theorem dX3_partition_157 : decode cX3_partition 157 = .ok (.iastore, 1) := by decide +kernel
theorem dX3_partition_158 : decode cX3_partition 158 = .ok (.return_, 1) := by decide +kernel
set_option maxRecDepth 20000 in
theorem ggX3_window_X3_isTold : GoodIn wsX3_window wsX3_isTold := goodIn_r _ [10, 11, 12, 13, 14, 15, 16, 17, 18, 19, 20, 21, 22, 23, 24, 25, 26, 27, 28, 29, 30, 31, 32, 33, 34, 35, 36, 37, 38, 39, 40, 41] (by decide +kernel) (by decide +kernel)
set_option maxRecDepth 20000 in
theorem gX3_window_X3_isTold : GoodIn wsX3_window (wsV RX3 81 RX3 yX3_isTold wsX3_isTold) := goodIn_app (goodIn_of _ (by decide +kernel)) ggX3_window_X3_isTold
theorem dX3_window_0 : decode cX3_window 0 = .ok (.aload_n 0, 1) := by decide +kernel
theorem dX3_window_1 : decode cX3_window 1 = .ok (.aload_n 0, 1) := by decide +kernel
theorem dX3_window_2 : decode cX3_window 2 = .ok (.getfield 85, 3) := by decide +kernel
theorem dX3_window_5 : decode cX3_window 5 = .ok (.ifCond .eq 7, 3) := by decide +kernel
theorem dX3_window_8 : decode cX3_window 8 = .ok (.iconst 1, 1) := by decide +kernel
theorem dX3_window_9 : decode cX3_window 9 = .ok (.goto 41, 3) := by decide +kernel
theorem dX3_window_12 : decode cX3_window 12 = .ok (.iload_n 1, 1) := by decide +kernel
theorem dX3_window_13 : decode cX3_window 13 = .ok (.iconst (-1), 1) := by decide +kernel
theorem dX3_window_14 : decode cX3_window 14 = .ok (.if_icmp .eq 11, 3) := by decide +kernel
theorem dX3_window_17 : decode cX3_window 17 = .ok (.aload_n 0, 1) := by decide +kernel
theorem dX3_window_18 : decode cX3_window 18 = .ok (.iload_n 1, 1) := by decide +kernel
theorem dX3_window_19 : decode cX3_window 19 = .ok (.invokevirtual 81, 3) := by decide +kernel
theorem dX3_window_22 : decode cX3_window 22 = .ok (.ifCond .eq 23, 3) := by decide +kernel
theorem dX3_window_25 : decode cX3_window 25 = .ok (.iload_n 2, 1) := by decide +kernel
theorem dX3_window_26 : decode cX3_window 26 = .ok (.iconst 1, 1) := by decide +kernel
theorem dX3_window_27 : decode cX3_window 27 = .ok (.if_icmp .lt 18, 3) := by decide +kernel
theorem dX3_window_30 : decode cX3_window 30 = .ok (.iload_n 2, 1) := by decide +kernel
theorem dX3_window_31 : decode cX3_window 31 = .ok (.bipush 100, 2) := by decide +kernel
theorem dX3_window_33 : decode cX3_window 33 = .ok (.if_icmp .gt 12, 3) := by decide +kernel
theorem dX3_window_36 : decode cX3_window 36 = .ok (.aload_n 0, 1) := by decide +kernel
theorem dX3_window_37 : decode cX3_window 37 = .ok (.getfield 93, 3) := by decide +kernel
theorem dX3_window_40 : decode cX3_window 40 = .ok (.bipush 12, 2) := by decide +kernel
theorem dX3_window_42 : decode cX3_window 42 = .ok (.if_icmp .ne 7, 3) := by decide +kernel
theorem dX3_window_45 : decode cX3_window 45 = .ok (.iconst 2, 1) := by decide +kernel
theorem dX3_window_46 : decode cX3_window 46 = .ok (.goto 4, 3) := by decide +kernel
theorem dX3_window_49 : decode cX3_window 49 = .ok (.iconst 0, 1) := by decide +kernel
theorem dX3_window_50 : decode cX3_window 50 = .ok (.putfield 77, 3) := by decide +kernel
theorem dX3_window_53 : decode cX3_window 53 = .ok (.aload_n 0, 1) := by decide +kernel
theorem dX3_window_54 : decode cX3_window 54 = .ok (.getfield 77, 3) := by decide +kernel
theorem dX3_window_57 : decode cX3_window 57 = .ok (.ifCond .le 5, 3) := by decide +kernel
theorem dX3_window_60 : decode cX3_window 60 = .ok (.iconst 0, 1) := by decide +kernel
theorem dX3_window_61 : decode cX3_window 61 = .ok (.ireturn, 1) := by decide +kernel
theorem dX3_window_62 : decode cX3_window 62 = .ok (.aload_n 0, 1) := by decide +kernel
theorem dX3_window_63 : decode cX3_window 63 = .ok (.getfield 43, 3) := by decide +kernel
theorem dX3_window_66 : decode cX3_window 66 = .ok (.aload_n 0, 1) := by decide +kernel
theorem dX3_window_67 : decode cX3_window 67 = .ok (.getfield 93, 3) := by decide +kernel
theorem dX3_window_70 : decode cX3_window 70 = .ok (.iload_n 1, 1) := by decide +kernel
theorem dX3_window_71 : decode cX3_window 71 = .ok (.iastore, 1) := by decide +kernel
theorem dX3_window_72 : decode cX3_window 72 = .ok (.aload_n 0, 1) := by decide +kernel
theorem dX3_window_73 : decode cX3_window 73 = .ok (.getfield 46, 3) := by decide +kernel
theorem dX3_window_76 : decode cX3_window 76 = .ok (.aload_n 0, 1) := by decide +kernel
theorem dX3_window_77 : decode cX3_window 77 = .ok (.getfield 93, 3) := by decide +kernel
theorem dX3_window_80 : decode cX3_window 80 = .ok (.iload_n 2, 1) := by decide +kernel
theorem dX3_window_81 : decode cX3_window 81 = .ok (.iastore, 1) := by decide +kernel
theorem dX3_window_82 : decode cX3_window 82 = .ok (.aload_n 0, 1) := by decide +kernel
theorem dX3_window_83 : decode cX3_window 83 = .ok (.dup, 1) := by decide +kernel
theorem dX3_window_84 : decode cX3_window 84 = .ok (.getfield 93, 3) := by decide +kernel
theorem dX3_window_87 : decode cX3_window 87 = .ok (.iconst 1, 1) := by decide +kernel
theorem dX3_window_88 : decode cX3_window 88 = .ok (.iadd, 1) := by decide +kernel
theorem dX3_window_89 : decode cX3_window 89 = .ok (.putfield 93, 3) := by decide +kernel
theorem dX3_window_92 : decode cX3_window 92 = .ok (.aload_n 0, 1) := by decide +kernel
theorem dX3_window_93 : decode cX3_window 93 = .ok (.getfield 93, 3) := by decide +kernel
theorem dX3_window_96 : decode cX3_window 96 = .ok (.ireturn, 1) := by decide +kernel
set_option maxRecDepth 20000 in
theorem ggX3_channel_X3_isTold : GoodIn wsX3_channel wsX3_isTold := goodIn_r _ [11, 12, 13, 14, 15, 16, 17, 18, 19, 20, 21, 22, 23, 24, 25, 26, 27, 28, 29, 30, 31, 32, 33, 34, 35, 36, 37, 38, 39, 40, 41, 42] (by decide +kernel) (by decide +kernel)
set_option maxRecDepth 20000 in
theorem gX3_channel_X3_isTold : GoodIn wsX3_channel (wsV RX3 81 RX3 yX3_isTold wsX3_isTold) := goodIn_app (goodIn_of _ (by decide +kernel)) ggX3_channel_X3_isTold
theorem dX3_channel_0 : decode cX3_channel 0 = .ok (.iload_n 1, 1) := by decide +kernel
theorem dX3_channel_1 : decode cX3_channel 1 = .ok (.ifCond .lt 51, 3) := by decide +kernel
theorem dX3_channel_4 : decode cX3_channel 4 = .ok (.iload_n 1, 1) := by decide +kernel
theorem dX3_channel_5 : decode cX3_channel 5 = .ok (.bipush 7, 2) := by decide +kernel
theorem dX3_channel_7 : decode cX3_channel 7 = .ok (.if_icmp .gt 45, 3) := by decide +kernel
theorem dX3_channel_10 : decode cX3_channel 10 = .ok (.aload_n 0, 1) := by decide +kernel
theorem dX3_channel_11 : decode cX3_channel 11 = .ok (.getfield 49, 3) := by decide +kernel
theorem dX3_channel_14 : decode cX3_channel 14 = .ok (.iload_n 1, 1) := by decide +kernel
theorem dX3_channel_15 : decode cX3_channel 15 = .ok (.baload, 1) := by decide +kernel
theorem dX3_channel_16 : decode cX3_channel 16 = .ok (.ifCond .ne 36, 3) := by decide +kernel
theorem dX3_channel_19 : decode cX3_channel 19 = .ok (.aload_n 0, 1) := by decide +kernel
theorem dX3_channel_20 : decode cX3_channel 20 = .ok (.iload_n 2, 1) := by decide +kernel
theorem dX3_channel_21 : decode cX3_channel 21 = .ok (.invokevirtual 81, 3) := by decide +kernel
theorem dX3_channel_24 : decode cX3_channel 24 = .ok (.ifCond .eq 28, 3) := by decide +kernel
theorem dX3_channel_27 : decode cX3_channel 27 = .ok (.aload_n 0, 1) := by decide +kernel
theorem dX3_channel_28 : decode cX3_channel 28 = .ok (.iload_n 3, 1) := by decide +kernel
theorem dX3_channel_29 : decode cX3_channel 29 = .ok (.invokevirtual 81, 3) := by decide +kernel
theorem dX3_channel_32 : decode cX3_channel 32 = .ok (.ifCond .eq 20, 3) := by decide +kernel
theorem dX3_channel_35 : decode cX3_channel 35 = .ok (.iload_n 2, 1) := by decide +kernel
theorem dX3_channel_36 : decode cX3_channel 36 = .ok (.iload_n 3, 1) := by decide +kernel
theorem dX3_channel_37 : decode cX3_channel 37 = .ok (.if_icmp .eq 15, 3) := by decide +kernel
theorem dX3_channel_40 : decode cX3_channel 40 = .ok (.iload 4, 2) := by decide +kernel
theorem dX3_channel_42 : decode cX3_channel 42 = .ok (.ifCond .lt 10, 3) := by decide +kernel
theorem dX3_channel_45 : decode cX3_channel 45 = .ok (.iload 4, 2) := by decide +kernel
theorem dX3_channel_47 : decode cX3_channel 47 = .ok (.bipush 8, 2) := by decide +kernel
theorem dX3_channel_49 : decode cX3_channel 49 = .ok (.if_icmp .le 7, 3) := by decide +kernel
theorem dX3_channel_52 : decode cX3_channel 52 = .ok (.iconst 1, 1) := by decide +kernel
theorem dX3_channel_53 : decode cX3_channel 53 = .ok (.goto 4, 3) := by decide +kernel
theorem dX3_channel_56 : decode cX3_channel 56 = .ok (.iconst 0, 1) := by decide +kernel
theorem dX3_channel_57 : decode cX3_channel 57 = .ok (.istore 5, 2) := by decide +kernel
theorem dX3_channel_59 : decode cX3_channel 59 = .ok (.aload_n 0, 1) := by decide +kernel
theorem dX3_channel_60 : decode cX3_channel 60 = .ok (.aload_n 0, 1) := by decide +kernel
theorem dX3_channel_61 : decode cX3_channel 61 = .ok (.getfield 85, 3) := by decide +kernel
theorem dX3_channel_64 : decode cX3_channel 64 = .ok (.ifCond .eq 7, 3) := by decide +kernel
theorem dX3_channel_67 : decode cX3_channel 67 = .ok (.iconst 1, 1) := by decide +kernel
theorem dX3_channel_68 : decode cX3_channel 68 = .ok (.goto 13, 3) := by decide +kernel
theorem dX3_channel_71 : decode cX3_channel 71 = .ok (.iload 5, 2) := by decide +kernel
theorem dX3_channel_73 : decode cX3_channel 73 = .ok (.ifCond .eq 7, 3) := by decide +kernel
theorem dX3_channel_76 : decode cX3_channel 76 = .ok (.iconst 2, 1) := by decide +kernel
theorem dX3_channel_77 : decode cX3_channel 77 = .ok (.goto 4, 3) := by decide +kernel
theorem dX3_channel_80 : decode cX3_channel 80 = .ok (.iconst 0, 1) := by decide +kernel
theorem dX3_channel_81 : decode cX3_channel 81 = .ok (.putfield 77, 3) := by decide +kernel
theorem dX3_channel_84 : decode cX3_channel 84 = .ok (.aload_n 0, 1) := by decide +kernel
theorem dX3_channel_85 : decode cX3_channel 85 = .ok (.getfield 77, 3) := by decide +kernel
theorem dX3_channel_88 : decode cX3_channel 88 = .ok (.ifCond .ne 32, 3) := by decide +kernel
theorem dX3_channel_91 : decode cX3_channel 91 = .ok (.aload_n 0, 1) := by decide +kernel
theorem dX3_channel_92 : decode cX3_channel 92 = .ok (.getfield 49, 3) := by decide +kernel
theorem dX3_channel_95 : decode cX3_channel 95 = .ok (.iload_n 1, 1) := by decide +kernel
theorem dX3_channel_96 : decode cX3_channel 96 = .ok (.iconst 1, 1) := by decide +kernel
theorem dX3_channel_97 : decode cX3_channel 97 = .ok (.bastore, 1) := by decide +kernel
theorem dX3_channel_98 : decode cX3_channel 98 = .ok (.aload_n 0, 1) := by decide +kernel
theorem dX3_channel_99 : decode cX3_channel 99 = .ok (.getfield 53, 3) := by decide +kernel
theorem dX3_channel_102 : decode cX3_channel 102 = .ok (.iload_n 1, 1) := by decide +kernel
theorem dX3_channel_103 : decode cX3_channel 103 = .ok (.iload_n 2, 1) := by decide +kernel
theorem dX3_channel_104 : decode cX3_channel 104 = .ok (.iastore, 1) := by decide +kernel
theorem dX3_channel_105 : decode cX3_channel 105 = .ok (.aload_n 0, 1) := by decide +kernel
theorem dX3_channel_106 : decode cX3_channel 106 = .ok (.getfield 56, 3) := by decide +kernel
theorem dX3_channel_109 : decode cX3_channel 109 = .ok (.iload_n 1, 1) := by decide +kernel
theorem dX3_channel_110 : decode cX3_channel 110 = .ok (.iload_n 3, 1) := by decide +kernel
theorem dX3_channel_111 : decode cX3_channel 111 = .ok (.iastore, 1) := by decide +kernel
theorem dX3_channel_112 : decode cX3_channel 112 = .ok (.aload_n 0, 1) := by decide +kernel
theorem dX3_channel_113 : decode cX3_channel 113 = .ok (.getfield 59, 3) := by decide +kernel
theorem dX3_channel_116 : decode cX3_channel 116 = .ok (.iload_n 1, 1) := by decide +kernel
theorem dX3_channel_117 : decode cX3_channel 117 = .ok (.iload 4, 2) := by decide +kernel
theorem dX3_channel_119 : decode cX3_channel 119 = .ok (.iastore, 1) := by decide +kernel
theorem dX3_channel_120 : decode cX3_channel 120 = .ok (.return_, 1) := by decide +kernel
theorem dX3_noWord_0 : decode cX3_noWord 0 = .ok (.iload_n 2, 1) := by decide +kernel
theorem dX3_noWord_1 : decode cX3_noWord 1 = .ok (.ifCond .lt 13, 3) := by decide +kernel
theorem dX3_noWord_4 : decode cX3_noWord 4 = .ok (.iload_n 2, 1) := by decide +kernel
theorem dX3_noWord_5 : decode cX3_noWord 5 = .ok (.aload_n 0, 1) := by decide +kernel
theorem dX3_noWord_6 : decode cX3_noWord 6 = .ok (.getfield 16, 3) := by decide +kernel
theorem dX3_noWord_9 : decode cX3_noWord 9 = .ok (.iload_n 1, 1) := by decide +kernel
theorem dX3_noWord_10 : decode cX3_noWord 10 = .ok (.iaload, 1) := by decide +kernel
theorem dX3_noWord_11 : decode cX3_noWord 11 = .ok (.if_icmp .lt 7, 3) := by decide +kernel
theorem dX3_noWord_14 : decode cX3_noWord 14 = .ok (.iconst 1, 1) := by decide +kernel
theorem dX3_noWord_15 : decode cX3_noWord 15 = .ok (.goto 4, 3) := by decide +kernel
theorem dX3_noWord_18 : decode cX3_noWord 18 = .ok (.iconst 0, 1) := by decide +kernel
theorem dX3_noWord_19 : decode cX3_noWord 19 = .ok (.ireturn, 1) := by decide +kernel
set_option maxRecDepth 20000 in
theorem ggX3_poke_X3_isTold : GoodIn wsX3_poke wsX3_isTold := goodIn_r _ [9, 10, 16, 17, 18, 19, 20, 21, 22, 23, 24, 25, 26, 27, 28, 29, 30, 31, 32, 33, 34, 35, 36, 37, 38, 39, 40, 41, 42, 43, 44, 45] (by decide +kernel) (by decide +kernel)
set_option maxRecDepth 20000 in
theorem gX3_poke_X3_isTold : GoodIn wsX3_poke (wsV RX3 81 RX3 yX3_isTold wsX3_isTold) := goodIn_app (goodIn_of _ (by decide +kernel)) ggX3_poke_X3_isTold
set_option maxRecDepth 20000 in
theorem ggX3_poke_X3_noWord : GoodIn wsX3_poke wsX3_noWord := goodIn_r _ [14, 15, 16, 17, 18, 19, 20, 21, 22, 23, 24, 25, 26, 27, 28, 29, 30, 31, 32, 33, 34, 35, 36, 37, 38, 39, 40, 41, 42, 43, 44, 45] (by decide +kernel) (by decide +kernel)
set_option maxRecDepth 20000 in
theorem gX3_poke_X3_noWord : GoodIn wsX3_poke (wsV RX3 96 RX3 yX3_noWord wsX3_noWord) := goodIn_app (goodIn_of _ (by decide +kernel)) ggX3_poke_X3_noWord
theorem dX3_poke_0 : decode cX3_poke 0 = .ok (.aload_n 0, 1) := by decide +kernel
theorem dX3_poke_1 : decode cX3_poke 1 = .ok (.aload_n 0, 1) := by decide +kernel
theorem dX3_poke_2 : decode cX3_poke 2 = .ok (.getfield 85, 3) := by decide +kernel
theorem dX3_poke_5 : decode cX3_poke 5 = .ok (.ifCond .eq 7, 3) := by decide +kernel
theorem dX3_poke_8 : decode cX3_poke 8 = .ok (.iconst 1, 1) := by decide +kernel
theorem dX3_poke_9 : decode cX3_poke 9 = .ok (.goto 29, 3) := by decide +kernel
theorem dX3_poke_12 : decode cX3_poke 12 = .ok (.aload_n 0, 1) := by decide +kernel
theorem dX3_poke_13 : decode cX3_poke 13 = .ok (.iload_n 1, 1) := by decide +kernel
theorem dX3_poke_14 : decode cX3_poke 14 = .ok (.invokevirtual 81, 3) := by decide +kernel
theorem dX3_poke_17 : decode cX3_poke 17 = .ok (.ifCond .ne 7, 3) := by decide +kernel
theorem dX3_poke_20 : decode cX3_poke 20 = .ok (.iconst 2, 1) := by decide +kernel
theorem dX3_poke_21 : decode cX3_poke 21 = .ok (.goto 17, 3) := by decide +kernel
theorem dX3_poke_24 : decode cX3_poke 24 = .ok (.aload_n 0, 1) := by decide +kernel
theorem dX3_poke_25 : decode cX3_poke 25 = .ok (.iload_n 1, 1) := by decide +kernel
theorem dX3_poke_26 : decode cX3_poke 26 = .ok (.iload_n 2, 1) := by decide +kernel
theorem dX3_poke_27 : decode cX3_poke 27 = .ok (.invokevirtual 96, 3) := by decide +kernel
theorem dX3_poke_30 : decode cX3_poke 30 = .ok (.ifCond .eq 7, 3) := by decide +kernel
theorem dX3_poke_33 : decode cX3_poke 33 = .ok (.iconst 3, 1) := by decide +kernel
theorem dX3_poke_34 : decode cX3_poke 34 = .ok (.goto 4, 3) := by decide +kernel
theorem dX3_poke_37 : decode cX3_poke 37 = .ok (.iconst 0, 1) := by decide +kernel
theorem dX3_poke_38 : decode cX3_poke 38 = .ok (.putfield 77, 3) := by decide +kernel
theorem dX3_poke_41 : decode cX3_poke 41 = .ok (.aload_n 0, 1) := by decide +kernel
theorem dX3_poke_42 : decode cX3_poke 42 = .ok (.getfield 77, 3) := by decide +kernel
theorem dX3_poke_45 : decode cX3_poke 45 = .ok (.ifCond .le 5, 3) := by decide +kernel
theorem dX3_poke_48 : decode cX3_poke 48 = .ok (.iconst 0, 1) := by decide +kernel
theorem dX3_poke_49 : decode cX3_poke 49 = .ok (.ireturn, 1) := by decide +kernel
theorem dX3_poke_50 : decode cX3_poke 50 = .ok (.aload_n 0, 1) := by decide +kernel
theorem dX3_poke_51 : decode cX3_poke 51 = .ok (.getfield 7, 3) := by decide +kernel
theorem dX3_poke_54 : decode cX3_poke 54 = .ok (.aload_n 0, 1) := by decide +kernel
theorem dX3_poke_55 : decode cX3_poke 55 = .ok (.getfield 13, 3) := by decide +kernel
theorem dX3_poke_58 : decode cX3_poke 58 = .ok (.iload_n 1, 1) := by decide +kernel
theorem dX3_poke_59 : decode cX3_poke 59 = .ok (.iaload, 1) := by decide +kernel
theorem dX3_poke_60 : decode cX3_poke 60 = .ok (.iload_n 2, 1) := by decide +kernel
theorem dX3_poke_61 : decode cX3_poke 61 = .ok (.iadd, 1) := by decide +kernel
theorem dX3_poke_62 : decode cX3_poke 62 = .ok (.iaload, 1) := by decide +kernel
theorem dX3_poke_63 : decode cX3_poke 63 = .ok (.istore 4, 2) := by decide +kernel
theorem dX3_poke_65 : decode cX3_poke 65 = .ok (.aload_n 0, 1) := by decide +kernel
theorem dX3_poke_66 : decode cX3_poke 66 = .ok (.getfield 7, 3) := by decide +kernel
theorem dX3_poke_69 : decode cX3_poke 69 = .ok (.aload_n 0, 1) := by decide +kernel
theorem dX3_poke_70 : decode cX3_poke 70 = .ok (.getfield 13, 3) := by decide +kernel
theorem dX3_poke_73 : decode cX3_poke 73 = .ok (.iload_n 1, 1) := by decide +kernel
theorem dX3_poke_74 : decode cX3_poke 74 = .ok (.iaload, 1) := by decide +kernel
theorem dX3_poke_75 : decode cX3_poke 75 = .ok (.iload_n 2, 1) := by decide +kernel
theorem dX3_poke_76 : decode cX3_poke 76 = .ok (.iadd, 1) := by decide +kernel
theorem dX3_poke_77 : decode cX3_poke 77 = .ok (.iload_n 3, 1) := by decide +kernel
theorem dX3_poke_78 : decode cX3_poke 78 = .ok (.iastore, 1) := by decide +kernel
theorem dX3_poke_79 : decode cX3_poke 79 = .ok (.iload 4, 2) := by decide +kernel
theorem dX3_poke_81 : decode cX3_poke 81 = .ok (.ireturn, 1) := by decide +kernel
set_option maxRecDepth 20000 in
theorem ggX3_peek_X3_isTold : GoodIn wsX3_peek wsX3_isTold := goodIn_r _ [8, 9, 15, 16, 17, 18, 19, 20, 21, 22, 23, 24, 25, 26, 27, 28, 29, 30, 31, 32, 33, 34, 35, 36, 37, 38, 39, 40, 41, 42, 43, 44] (by decide +kernel) (by decide +kernel)
set_option maxRecDepth 20000 in
theorem gX3_peek_X3_isTold : GoodIn wsX3_peek (wsV RX3 81 RX3 yX3_isTold wsX3_isTold) := goodIn_app (goodIn_of _ (by decide +kernel)) ggX3_peek_X3_isTold
set_option maxRecDepth 20000 in
theorem ggX3_peek_X3_noWord : GoodIn wsX3_peek wsX3_noWord := goodIn_r _ [13, 14, 15, 16, 17, 18, 19, 20, 21, 22, 23, 24, 25, 26, 27, 28, 29, 30, 31, 32, 33, 34, 35, 36, 37, 38, 39, 40, 41, 42, 43, 44] (by decide +kernel) (by decide +kernel)
set_option maxRecDepth 20000 in
theorem gX3_peek_X3_noWord : GoodIn wsX3_peek (wsV RX3 96 RX3 yX3_noWord wsX3_noWord) := goodIn_app (goodIn_of _ (by decide +kernel)) ggX3_peek_X3_noWord
theorem dX3_peek_0 : decode cX3_peek 0 = .ok (.aload_n 0, 1) := by decide +kernel
theorem dX3_peek_1 : decode cX3_peek 1 = .ok (.aload_n 0, 1) := by decide +kernel
theorem dX3_peek_2 : decode cX3_peek 2 = .ok (.iload_n 1, 1) := by decide +kernel
theorem dX3_peek_3 : decode cX3_peek 3 = .ok (.invokevirtual 81, 3) := by decide +kernel
theorem dX3_peek_6 : decode cX3_peek 6 = .ok (.ifCond .ne 7, 3) := by decide +kernel
theorem dX3_peek_9 : decode cX3_peek 9 = .ok (.iconst 1, 1) := by decide +kernel
theorem dX3_peek_10 : decode cX3_peek 10 = .ok (.goto 17, 3) := by decide +kernel
theorem dX3_peek_13 : decode cX3_peek 13 = .ok (.aload_n 0, 1) := by decide +kernel
theorem dX3_peek_14 : decode cX3_peek 14 = .ok (.iload_n 1, 1) := by decide +kernel
theorem dX3_peek_15 : decode cX3_peek 15 = .ok (.iload_n 2, 1) := by decide +kernel
theorem dX3_peek_16 : decode cX3_peek 16 = .ok (.invokevirtual 96, 3) := by decide +kernel
theorem dX3_peek_19 : decode cX3_peek 19 = .ok (.ifCond .eq 7, 3) := by decide +kernel
theorem dX3_peek_22 : decode cX3_peek 22 = .ok (.iconst 2, 1) := by decide +kernel
theorem dX3_peek_23 : decode cX3_peek 23 = .ok (.goto 4, 3) := by decide +kernel
theorem dX3_peek_26 : decode cX3_peek 26 = .ok (.iconst 0, 1) := by decide +kernel
theorem dX3_peek_27 : decode cX3_peek 27 = .ok (.putfield 77, 3) := by decide +kernel
theorem dX3_peek_30 : decode cX3_peek 30 = .ok (.aload_n 0, 1) := by decide +kernel
theorem dX3_peek_31 : decode cX3_peek 31 = .ok (.getfield 77, 3) := by decide +kernel
theorem dX3_peek_34 : decode cX3_peek 34 = .ok (.ifCond .le 7, 3) := by decide +kernel
theorem dX3_peek_37 : decode cX3_peek 37 = .ok (.iconst 0, 1) := by decide +kernel
theorem dX3_peek_38 : decode cX3_peek 38 = .ok (.goto 16, 3) := by decide +kernel
theorem dX3_peek_41 : decode cX3_peek 41 = .ok (.aload_n 0, 1) := by decide +kernel
theorem dX3_peek_42 : decode cX3_peek 42 = .ok (.getfield 7, 3) := by decide +kernel
theorem dX3_peek_45 : decode cX3_peek 45 = .ok (.aload_n 0, 1) := by decide +kernel
theorem dX3_peek_46 : decode cX3_peek 46 = .ok (.getfield 13, 3) := by decide +kernel
theorem dX3_peek_49 : decode cX3_peek 49 = .ok (.iload_n 1, 1) := by decide +kernel
theorem dX3_peek_50 : decode cX3_peek 50 = .ok (.iaload, 1) := by decide +kernel
theorem dX3_peek_51 : decode cX3_peek 51 = .ok (.iload_n 2, 1) := by decide +kernel
theorem dX3_peek_52 : decode cX3_peek 52 = .ok (.iadd, 1) := by decide +kernel
theorem dX3_peek_53 : decode cX3_peek 53 = .ok (.iaload, 1) := by decide +kernel
theorem dX3_peek_54 : decode cX3_peek 54 = .ok (.ireturn, 1) := by decide +kernel
theorem dX3_seal_0 : decode cX3_seal 0 = .ok (.aload_n 0, 1) := by decide +kernel
theorem dX3_seal_1 : decode cX3_seal 1 = .ok (.aload_n 0, 1) := by decide +kernel
theorem dX3_seal_2 : decode cX3_seal 2 = .ok (.getfield 85, 3) := by decide +kernel
theorem dX3_seal_5 : decode cX3_seal 5 = .ok (.ifCond .ne 10, 3) := by decide +kernel
theorem dX3_seal_8 : decode cX3_seal 8 = .ok (.aload_n 0, 1) := by decide +kernel
theorem dX3_seal_9 : decode cX3_seal 9 = .ok (.getfield 93, 3) := by decide +kernel
theorem dX3_seal_12 : decode cX3_seal 12 = .ok (.ifCond .ne 7, 3) := by decide +kernel
theorem dX3_seal_15 : decode cX3_seal 15 = .ok (.iconst 1, 1) := by decide +kernel
theorem dX3_seal_16 : decode cX3_seal 16 = .ok (.goto 4, 3) := by decide +kernel
theorem dX3_seal_19 : decode cX3_seal 19 = .ok (.iconst 0, 1) := by decide +kernel
theorem dX3_seal_20 : decode cX3_seal 20 = .ok (.putfield 77, 3) := by decide +kernel
theorem dX3_seal_23 : decode cX3_seal 23 = .ok (.aload_n 0, 1) := by decide +kernel
theorem dX3_seal_24 : decode cX3_seal 24 = .ok (.getfield 77, 3) := by decide +kernel
theorem dX3_seal_27 : decode cX3_seal 27 = .ok (.ifCond .le 5, 3) := by decide +kernel
theorem dX3_seal_30 : decode cX3_seal 30 = .ok (.iconst 0, 1) := by decide +kernel
theorem dX3_seal_31 : decode cX3_seal 31 = .ok (.ireturn, 1) := by decide +kernel
theorem dX3_seal_32 : decode cX3_seal 32 = .ok (.aload_n 0, 1) := by decide +kernel
theorem dX3_seal_33 : decode cX3_seal 33 = .ok (.iconst 1, 1) := by decide +kernel
theorem dX3_seal_34 : decode cX3_seal 34 = .ok (.putfield 85, 3) := by decide +kernel
theorem dX3_seal_37 : decode cX3_seal 37 = .ok (.aload_n 0, 1) := by decide +kernel
theorem dX3_seal_38 : decode cX3_seal 38 = .ok (.aload_n 0, 1) := by decide +kernel
theorem dX3_seal_39 : decode cX3_seal 39 = .ok (.getfield 46, 3) := by decide +kernel
theorem dX3_seal_42 : decode cX3_seal 42 = .ok (.iconst 0, 1) := by decide +kernel
theorem dX3_seal_43 : decode cX3_seal 43 = .ok (.iaload, 1) := by decide +kernel
theorem dX3_seal_44 : decode cX3_seal 44 = .ok (.putfield 99, 3) := by decide +kernel
theorem dX3_seal_47 : decode cX3_seal 47 = .ok (.iconst 0, 1) := by decide +kernel
theorem dX3_seal_48 : decode cX3_seal 48 = .ok (.istore_n 1, 1) := by decide +kernel
theorem dX3_seal_49 : decode cX3_seal 49 = .ok (.iconst 0, 1) := by decide +kernel
theorem dX3_seal_50 : decode cX3_seal 50 = .ok (.istore_n 2, 1) := by decide +kernel
theorem dX3_seal_51 : decode cX3_seal 51 = .ok (.iload_n 2, 1) := by decide +kernel
theorem dX3_seal_52 : decode cX3_seal 52 = .ok (.aload_n 0, 1) := by decide +kernel
theorem dX3_seal_53 : decode cX3_seal 53 = .ok (.getfield 93, 3) := by decide +kernel
theorem dX3_seal_56 : decode cX3_seal 56 = .ok (.if_icmp .ge 18, 3) := by decide +kernel
theorem dX3_seal_59 : decode cX3_seal 59 = .ok (.iload_n 1, 1) := by decide +kernel
theorem dX3_seal_60 : decode cX3_seal 60 = .ok (.aload_n 0, 1) := by decide +kernel
theorem dX3_seal_61 : decode cX3_seal 61 = .ok (.getfield 46, 3) := by decide +kernel
theorem dX3_seal_64 : decode cX3_seal 64 = .ok (.iload_n 2, 1) := by decide +kernel
theorem dX3_seal_65 : decode cX3_seal 65 = .ok (.iaload, 1) := by decide +kernel
theorem dX3_seal_66 : decode cX3_seal 66 = .ok (.iadd, 1) := by decide +kernel
theorem dX3_seal_67 : decode cX3_seal 67 = .ok (.istore_n 1, 1) := by decide +kernel
theorem dX3_seal_68 : decode cX3_seal 68 = .ok (.iinc 2 1, 3) := by decide +kernel
theorem dX3_seal_71 : decode cX3_seal 71 = .ok (.goto (-20), 3) := by decide +kernel
theorem dX3_seal_74 : decode cX3_seal 74 = .ok (.iload_n 1, 1) := by decide +kernel
theorem dX3_seal_75 : decode cX3_seal 75 = .ok (.ireturn, 1) := by decide +kernel
theorem dX3_send_0 : decode cX3_send 0 = .ok (.iload 4, 2) := by decide +kernel
theorem dX3_send_2 : decode cX3_send 2 = .ok (.ifCond .lt 31, 3) := by decide +kernel
theorem dX3_send_5 : decode cX3_send 5 = .ok (.iload 4, 2) := by decide +kernel
theorem dX3_send_7 : decode cX3_send 7 = .ok (.bipush 7, 2) := by decide +kernel
theorem dX3_send_9 : decode cX3_send 9 = .ok (.if_icmp .gt 24, 3) := by decide +kernel
theorem dX3_send_12 : decode cX3_send 12 = .ok (.aload_n 0, 1) := by decide +kernel
theorem dX3_send_13 : decode cX3_send 13 = .ok (.getfield 49, 3) := by decide +kernel
theorem dX3_send_16 : decode cX3_send 16 = .ok (.iload 4, 2) := by decide +kernel
theorem dX3_send_18 : decode cX3_send 18 = .ok (.baload, 1) := by decide +kernel
theorem dX3_send_19 : decode cX3_send 19 = .ok (.ifCond .eq 14, 3) := by decide +kernel
theorem dX3_send_22 : decode cX3_send 22 = .ok (.aload_n 0, 1) := by decide +kernel
theorem dX3_send_23 : decode cX3_send 23 = .ok (.getfield 53, 3) := by decide +kernel
theorem dX3_send_26 : decode cX3_send 26 = .ok (.iload 4, 2) := by decide +kernel
theorem dX3_send_28 : decode cX3_send 28 = .ok (.iaload, 1) := by decide +kernel
theorem dX3_send_29 : decode cX3_send 29 = .ok (.iload_n 1, 1) := by decide +kernel
theorem dX3_send_30 : decode cX3_send 30 = .ok (.if_icmp .eq 9, 3) := by decide +kernel
theorem dX3_send_33 : decode cX3_send 33 = .ok (.aload_n 0, 1) := by decide +kernel
theorem dX3_send_34 : decode cX3_send 34 = .ok (.iconst 3, 1) := by decide +kernel
theorem dX3_send_35 : decode cX3_send 35 = .ok (.putfield 102, 3) := by decide +kernel
theorem dX3_send_38 : decode cX3_send 38 = .ok (.return_, 1) := by decide +kernel
theorem dX3_send_39 : decode cX3_send 39 = .ok (.aload_n 0, 1) := by decide +kernel
theorem dX3_send_40 : decode cX3_send 40 = .ok (.getfield 59, 3) := by decide +kernel
theorem dX3_send_43 : decode cX3_send 43 = .ok (.iload 4, 2) := by decide +kernel
theorem dX3_send_45 : decode cX3_send 45 = .ok (.iaload, 1) := by decide +kernel
theorem dX3_send_46 : decode cX3_send 46 = .ok (.ifCond .ne 64, 3) := by decide +kernel
theorem dX3_send_49 : decode cX3_send 49 = .ok (.aload_n 0, 1) := by decide +kernel
theorem dX3_send_50 : decode cX3_send 50 = .ok (.getfield 62, 3) := by decide +kernel
theorem dX3_send_53 : decode cX3_send 53 = .ok (.bipush 8, 2) := by decide +kernel
theorem dX3_send_55 : decode cX3_send 55 = .ok (.iload 4, 2) := by decide +kernel
theorem dX3_send_57 : decode cX3_send 57 = .ok (.imul, 1) := by decide +kernel
theorem dX3_send_58 : decode cX3_send 58 = .ok (.aload_n 0, 1) := by decide +kernel
theorem dX3_send_59 : decode cX3_send 59 = .ok (.getfield 28, 3) := by decide +kernel
theorem dX3_send_62 : decode cX3_send 62 = .ok (.iconst 4, 1) := by decide +kernel
theorem dX3_send_63 : decode cX3_send 63 = .ok (.iload_n 1, 1) := by decide +kernel
theorem dX3_send_64 : decode cX3_send 64 = .ok (.imul, 1) := by decide +kernel
theorem dX3_send_65 : decode cX3_send 65 = .ok (.iload_n 2, 1) := by decide +kernel
theorem dX3_send_66 : decode cX3_send 66 = .ok (.iadd, 1) := by decide +kernel
theorem dX3_send_67 : decode cX3_send 67 = .ok (.iaload, 1) := by decide +kernel
theorem dX3_send_68 : decode cX3_send 68 = .ok (.iastore, 1) := by decide +kernel
theorem dX3_send_69 : decode cX3_send 69 = .ok (.aload_n 0, 1) := by decide +kernel
theorem dX3_send_70 : decode cX3_send 70 = .ok (.getfield 65, 3) := by decide +kernel
theorem dX3_send_73 : decode cX3_send 73 = .ok (.iload 4, 2) := by decide +kernel
theorem dX3_send_75 : decode cX3_send 75 = .ok (.iconst 1, 1) := by decide +kernel
theorem dX3_send_76 : decode cX3_send 76 = .ok (.iastore, 1) := by decide +kernel
theorem dX3_send_77 : decode cX3_send 77 = .ok (.aload_n 0, 1) := by decide +kernel
theorem dX3_send_78 : decode cX3_send 78 = .ok (.getfield 68, 3) := by decide +kernel
theorem dX3_send_81 : decode cX3_send 81 = .ok (.iload 4, 2) := by decide +kernel
theorem dX3_send_83 : decode cX3_send 83 = .ok (.iconst 0, 1) := by decide +kernel
theorem dX3_send_84 : decode cX3_send 84 = .ok (.iastore, 1) := by decide +kernel
theorem dX3_send_85 : decode cX3_send 85 = .ok (.aload_n 0, 1) := by decide +kernel
theorem dX3_send_86 : decode cX3_send 86 = .ok (.getfield 71, 3) := by decide +kernel
theorem dX3_send_89 : decode cX3_send 89 = .ok (.iload 4, 2) := by decide +kernel
theorem dX3_send_91 : decode cX3_send 91 = .ok (.dup2, 1) := by decide +kernel
theorem dX3_send_92 : decode cX3_send 92 = .ok (.iaload, 1) := by decide +kernel
theorem dX3_send_93 : decode cX3_send 93 = .ok (.iconst 1, 1) := by decide +kernel
theorem dX3_send_94 : decode cX3_send 94 = .ok (.iadd, 1) := by decide +kernel
theorem dX3_send_95 : decode cX3_send 95 = .ok (.iastore, 1) := by decide +kernel
theorem dX3_send_96 : decode cX3_send 96 = .ok (.aload_n 0, 1) := by decide +kernel
theorem dX3_send_97 : decode cX3_send 97 = .ok (.getfield 28, 3) := by decide +kernel
theorem dX3_send_100 : decode cX3_send 100 = .ok (.iconst 4, 1) := by decide +kernel
theorem dX3_send_101 : decode cX3_send 101 = .ok (.iload_n 1, 1) := by decide +kernel
theorem dX3_send_102 : decode cX3_send 102 = .ok (.imul, 1) := by decide +kernel
theorem dX3_send_103 : decode cX3_send 103 = .ok (.iload_n 3, 1) := by decide +kernel
theorem dX3_send_104 : decode cX3_send 104 = .ok (.iadd, 1) := by decide +kernel
theorem dX3_send_105 : decode cX3_send 105 = .ok (.iconst 1, 1) := by decide +kernel
theorem dX3_send_106 : decode cX3_send 106 = .ok (.iastore, 1) := by decide +kernel
theorem dX3_send_107 : decode cX3_send 107 = .ok (.goto 106, 3) := by decide +kernel
theorem dX3_send_110 : decode cX3_send 110 = .ok (.aload_n 0, 1) := by decide +kernel
theorem dX3_send_111 : decode cX3_send 111 = .ok (.getfield 65, 3) := by decide +kernel
theorem dX3_send_114 : decode cX3_send 114 = .ok (.iload 4, 2) := by decide +kernel
theorem dX3_send_116 : decode cX3_send 116 = .ok (.iaload, 1) := by decide +kernel
theorem dX3_send_117 : decode cX3_send 117 = .ok (.aload_n 0, 1) := by decide +kernel
theorem dX3_send_118 : decode cX3_send 118 = .ok (.getfield 59, 3) := by decide +kernel
theorem dX3_send_121 : decode cX3_send 121 = .ok (.iload 4, 2) := by decide +kernel
theorem dX3_send_123 : decode cX3_send 123 = .ok (.iaload, 1) := by decide +kernel
theorem dX3_send_124 : decode cX3_send 124 = .ok (.if_icmp .ne 28, 3) := by decide +kernel
theorem dX3_send_127 : decode cX3_send 127 = .ok (.aload_n 0, 1) := by decide +kernel
theorem dX3_send_128 : decode cX3_send 128 = .ok (.getfield 74, 3) := by decide +kernel
theorem dX3_send_131 : decode cX3_send 131 = .ok (.iload 4, 2) := by decide +kernel
theorem dX3_send_133 : decode cX3_send 133 = .ok (.dup2, 1) := by decide +kernel
theorem dX3_send_134 : decode cX3_send 134 = .ok (.iaload, 1) := by decide +kernel
theorem dX3_send_135 : decode cX3_send 135 = .ok (.iconst 1, 1) := by decide +kernel
theorem dX3_send_136 : decode cX3_send 136 = .ok (.iadd, 1) := by decide +kernel
theorem dX3_send_137 : decode cX3_send 137 = .ok (.iastore, 1) := by decide +kernel
theorem dX3_send_138 : decode cX3_send 138 = .ok (.aload_n 0, 1) := by decide +kernel
theorem dX3_send_139 : decode cX3_send 139 = .ok (.getfield 28, 3) := by decide +kernel
theorem dX3_send_142 : decode cX3_send 142 = .ok (.iconst 4, 1) := by decide +kernel
theorem dX3_send_143 : decode cX3_send 143 = .ok (.iload_n 1, 1) := by decide +kernel
theorem dX3_send_144 : decode cX3_send 144 = .ok (.imul, 1) := by decide +kernel
theorem dX3_send_145 : decode cX3_send 145 = .ok (.iload_n 3, 1) := by decide +kernel
theorem dX3_send_146 : decode cX3_send 146 = .ok (.iadd, 1) := by decide +kernel
theorem dX3_send_147 : decode cX3_send 147 = .ok (.iconst 0, 1) := by decide +kernel
theorem dX3_send_148 : decode cX3_send 148 = .ok (.iastore, 1) := by decide +kernel
theorem dX3_send_149 : decode cX3_send 149 = .ok (.goto 64, 3) := by decide +kernel
theorem dX3_send_152 : decode cX3_send 152 = .ok (.aload_n 0, 1) := by decide +kernel
theorem dX3_send_153 : decode cX3_send 153 = .ok (.getfield 62, 3) := by decide +kernel
theorem dX3_send_156 : decode cX3_send 156 = .ok (.bipush 8, 2) := by decide +kernel
theorem dX3_send_158 : decode cX3_send 158 = .ok (.iload 4, 2) := by decide +kernel
theorem dX3_send_160 : decode cX3_send 160 = .ok (.imul, 1) := by decide +kernel
theorem dX3_send_161 : decode cX3_send 161 = .ok (.aload_n 0, 1) := by decide +kernel
theorem dX3_send_162 : decode cX3_send 162 = .ok (.getfield 65, 3) := by decide +kernel
theorem dX3_send_165 : decode cX3_send 165 = .ok (.iload 4, 2) := by decide +kernel
theorem dX3_send_167 : decode cX3_send 167 = .ok (.iaload, 1) := by decide +kernel
theorem dX3_send_168 : decode cX3_send 168 = .ok (.iadd, 1) := by decide +kernel
theorem dX3_send_169 : decode cX3_send 169 = .ok (.aload_n 0, 1) := by decide +kernel
theorem dX3_send_170 : decode cX3_send 170 = .ok (.getfield 28, 3) := by decide +kernel
theorem dX3_send_173 : decode cX3_send 173 = .ok (.iconst 4, 1) := by decide +kernel
theorem dX3_send_174 : decode cX3_send 174 = .ok (.iload_n 1, 1) := by decide +kernel
theorem dX3_send_175 : decode cX3_send 175 = .ok (.imul, 1) := by decide +kernel
theorem dX3_send_176 : decode cX3_send 176 = .ok (.iload_n 2, 1) := by decide +kernel
theorem dX3_send_177 : decode cX3_send 177 = .ok (.iadd, 1) := by decide +kernel
theorem dX3_send_178 : decode cX3_send 178 = .ok (.iaload, 1) := by decide +kernel
theorem dX3_send_179 : decode cX3_send 179 = .ok (.iastore, 1) := by decide +kernel
theorem dX3_send_180 : decode cX3_send 180 = .ok (.aload_n 0, 1) := by decide +kernel
theorem dX3_send_181 : decode cX3_send 181 = .ok (.getfield 65, 3) := by decide +kernel
theorem dX3_send_184 : decode cX3_send 184 = .ok (.iload 4, 2) := by decide +kernel
theorem dX3_send_186 : decode cX3_send 186 = .ok (.dup2, 1) := by decide +kernel
theorem dX3_send_187 : decode cX3_send 187 = .ok (.iaload, 1) := by decide +kernel
theorem dX3_send_188 : decode cX3_send 188 = .ok (.iconst 1, 1) := by decide +kernel
theorem dX3_send_189 : decode cX3_send 189 = .ok (.iadd, 1) := by decide +kernel
theorem dX3_send_190 : decode cX3_send 190 = .ok (.iastore, 1) := by decide +kernel
theorem dX3_send_191 : decode cX3_send 191 = .ok (.aload_n 0, 1) := by decide +kernel
theorem dX3_send_192 : decode cX3_send 192 = .ok (.getfield 71, 3) := by decide +kernel
theorem dX3_send_195 : decode cX3_send 195 = .ok (.iload 4, 2) := by decide +kernel
theorem dX3_send_197 : decode cX3_send 197 = .ok (.dup2, 1) := by decide +kernel
theorem dX3_send_198 : decode cX3_send 198 = .ok (.iaload, 1) := by decide +kernel
theorem dX3_send_199 : decode cX3_send 199 = .ok (.iconst 1, 1) := by decide +kernel
theorem dX3_send_200 : decode cX3_send 200 = .ok (.iadd, 1) := by decide +kernel
theorem dX3_send_201 : decode cX3_send 201 = .ok (.iastore, 1) := by decide +kernel
theorem dX3_send_202 : decode cX3_send 202 = .ok (.aload_n 0, 1) := by decide +kernel
theorem dX3_send_203 : decode cX3_send 203 = .ok (.getfield 28, 3) := by decide +kernel
theorem dX3_send_206 : decode cX3_send 206 = .ok (.iconst 4, 1) := by decide +kernel
theorem dX3_send_207 : decode cX3_send 207 = .ok (.iload_n 1, 1) := by decide +kernel
theorem dX3_send_208 : decode cX3_send 208 = .ok (.imul, 1) := by decide +kernel
theorem dX3_send_209 : decode cX3_send 209 = .ok (.iload_n 3, 1) := by decide +kernel
theorem dX3_send_210 : decode cX3_send 210 = .ok (.iadd, 1) := by decide +kernel
theorem dX3_send_211 : decode cX3_send 211 = .ok (.iconst 1, 1) := by decide +kernel
theorem dX3_send_212 : decode cX3_send 212 = .ok (.iastore, 1) := by decide +kernel
theorem dX3_send_213 : decode cX3_send 213 = .ok (.return_, 1) := by decide +kernel
theorem dX3_take_0 : decode cX3_take 0 = .ok (.iload 4, 2) := by decide +kernel
theorem dX3_take_2 : decode cX3_take 2 = .ok (.ifCond .lt 31, 3) := by decide +kernel
theorem dX3_take_5 : decode cX3_take 5 = .ok (.iload 4, 2) := by decide +kernel
theorem dX3_take_7 : decode cX3_take 7 = .ok (.bipush 7, 2) := by decide +kernel
theorem dX3_take_9 : decode cX3_take 9 = .ok (.if_icmp .gt 24, 3) := by decide +kernel
theorem dX3_take_12 : decode cX3_take 12 = .ok (.aload_n 0, 1) := by decide +kernel
theorem dX3_take_13 : decode cX3_take 13 = .ok (.getfield 49, 3) := by decide +kernel
theorem dX3_take_16 : decode cX3_take 16 = .ok (.iload 4, 2) := by decide +kernel
theorem dX3_take_18 : decode cX3_take 18 = .ok (.baload, 1) := by decide +kernel
theorem dX3_take_19 : decode cX3_take 19 = .ok (.ifCond .eq 14, 3) := by decide +kernel
theorem dX3_take_22 : decode cX3_take 22 = .ok (.aload_n 0, 1) := by decide +kernel
theorem dX3_take_23 : decode cX3_take 23 = .ok (.getfield 56, 3) := by decide +kernel
theorem dX3_take_26 : decode cX3_take 26 = .ok (.iload 4, 2) := by decide +kernel
theorem dX3_take_28 : decode cX3_take 28 = .ok (.iaload, 1) := by decide +kernel
theorem dX3_take_29 : decode cX3_take 29 = .ok (.iload_n 1, 1) := by decide +kernel
theorem dX3_take_30 : decode cX3_take 30 = .ok (.if_icmp .eq 9, 3) := by decide +kernel
theorem dX3_take_33 : decode cX3_take 33 = .ok (.aload_n 0, 1) := by decide +kernel
theorem dX3_take_34 : decode cX3_take 34 = .ok (.iconst 3, 1) := by decide +kernel
theorem dX3_take_35 : decode cX3_take 35 = .ok (.putfield 102, 3) := by decide +kernel
theorem dX3_take_38 : decode cX3_take 38 = .ok (.return_, 1) := by decide +kernel
theorem dX3_take_39 : decode cX3_take 39 = .ok (.aload_n 0, 1) := by decide +kernel
theorem dX3_take_40 : decode cX3_take 40 = .ok (.getfield 65, 3) := by decide +kernel
theorem dX3_take_43 : decode cX3_take 43 = .ok (.iload 4, 2) := by decide +kernel
theorem dX3_take_45 : decode cX3_take 45 = .ok (.iaload, 1) := by decide +kernel
theorem dX3_take_46 : decode cX3_take 46 = .ok (.ifCond .ne 15, 3) := by decide +kernel
theorem dX3_take_49 : decode cX3_take 49 = .ok (.aload_n 0, 1) := by decide +kernel
theorem dX3_take_50 : decode cX3_take 50 = .ok (.getfield 28, 3) := by decide +kernel
theorem dX3_take_53 : decode cX3_take 53 = .ok (.iconst 4, 1) := by decide +kernel
theorem dX3_take_54 : decode cX3_take 54 = .ok (.iload_n 1, 1) := by decide +kernel
theorem dX3_take_55 : decode cX3_take 55 = .ok (.imul, 1) := by decide +kernel
theorem dX3_take_56 : decode cX3_take 56 = .ok (.iload_n 3, 1) := by decide +kernel
theorem dX3_take_57 : decode cX3_take 57 = .ok (.iadd, 1) := by decide +kernel
theorem dX3_take_58 : decode cX3_take 58 = .ok (.iconst 0, 1) := by decide +kernel
theorem dX3_take_59 : decode cX3_take 59 = .ok (.iastore, 1) := by decide +kernel
theorem dX3_take_60 : decode cX3_take 60 = .ok (.return_, 1) := by decide +kernel
theorem dX3_take_61 : decode cX3_take 61 = .ok (.aload_n 0, 1) := by decide +kernel
theorem dX3_take_62 : decode cX3_take 62 = .ok (.getfield 28, 3) := by decide +kernel
theorem dX3_take_65 : decode cX3_take 65 = .ok (.iconst 4, 1) := by decide +kernel
theorem dX3_take_66 : decode cX3_take 66 = .ok (.iload_n 1, 1) := by decide +kernel
theorem dX3_take_67 : decode cX3_take 67 = .ok (.imul, 1) := by decide +kernel
theorem dX3_take_68 : decode cX3_take 68 = .ok (.iload_n 2, 1) := by decide +kernel
theorem dX3_take_69 : decode cX3_take 69 = .ok (.iadd, 1) := by decide +kernel
theorem dX3_take_70 : decode cX3_take 70 = .ok (.aload_n 0, 1) := by decide +kernel
theorem dX3_take_71 : decode cX3_take 71 = .ok (.getfield 62, 3) := by decide +kernel
theorem dX3_take_74 : decode cX3_take 74 = .ok (.bipush 8, 2) := by decide +kernel
theorem dX3_take_76 : decode cX3_take 76 = .ok (.iload 4, 2) := by decide +kernel
theorem dX3_take_78 : decode cX3_take 78 = .ok (.imul, 1) := by decide +kernel
theorem dX3_take_79 : decode cX3_take 79 = .ok (.iaload, 1) := by decide +kernel
theorem dX3_take_80 : decode cX3_take 80 = .ok (.iastore, 1) := by decide +kernel
theorem dX3_take_81 : decode cX3_take 81 = .ok (.aload_n 0, 1) := by decide +kernel
theorem dX3_take_82 : decode cX3_take 82 = .ok (.getfield 59, 3) := by decide +kernel
theorem dX3_take_85 : decode cX3_take 85 = .ok (.iload 4, 2) := by decide +kernel
theorem dX3_take_87 : decode cX3_take 87 = .ok (.iaload, 1) := by decide +kernel
theorem dX3_take_88 : decode cX3_take 88 = .ok (.ifCond .ne 23, 3) := by decide +kernel
theorem dX3_take_91 : decode cX3_take 91 = .ok (.aload_n 0, 1) := by decide +kernel
theorem dX3_take_92 : decode cX3_take 92 = .ok (.getfield 28, 3) := by decide +kernel
theorem dX3_take_95 : decode cX3_take 95 = .ok (.iconst 4, 1) := by decide +kernel
theorem dX3_take_96 : decode cX3_take 96 = .ok (.iload_n 1, 1) := by decide +kernel
theorem dX3_take_97 : decode cX3_take 97 = .ok (.imul, 1) := by decide +kernel
theorem dX3_take_98 : decode cX3_take 98 = .ok (.iload_n 3, 1) := by decide +kernel
theorem dX3_take_99 : decode cX3_take 99 = .ok (.iadd, 1) := by decide +kernel
theorem dX3_take_100 : decode cX3_take 100 = .ok (.aload_n 0, 1) := by decide +kernel
theorem dX3_take_101 : decode cX3_take 101 = .ok (.getfield 68, 3) := by decide +kernel
theorem dX3_take_104 : decode cX3_take 104 = .ok (.iload 4, 2) := by decide +kernel
theorem dX3_take_106 : decode cX3_take 106 = .ok (.iaload, 1) := by decide +kernel
theorem dX3_take_107 : decode cX3_take 107 = .ok (.iconst 1, 1) := by decide +kernel
theorem dX3_take_108 : decode cX3_take 108 = .ok (.iadd, 1) := by decide +kernel
theorem dX3_take_109 : decode cX3_take 109 = .ok (.iastore, 1) := by decide +kernel
theorem dX3_take_110 : decode cX3_take 110 = .ok (.return_, 1) := by decide +kernel
theorem dX3_take_111 : decode cX3_take 111 = .ok (.aload_n 0, 1) := by decide +kernel
theorem dX3_take_112 : decode cX3_take 112 = .ok (.getfield 28, 3) := by decide +kernel
theorem dX3_take_115 : decode cX3_take 115 = .ok (.iconst 4, 1) := by decide +kernel
theorem dX3_take_116 : decode cX3_take 116 = .ok (.iload_n 1, 1) := by decide +kernel
theorem dX3_take_117 : decode cX3_take 117 = .ok (.imul, 1) := by decide +kernel
theorem dX3_take_118 : decode cX3_take 118 = .ok (.iload_n 3, 1) := by decide +kernel
theorem dX3_take_119 : decode cX3_take 119 = .ok (.iadd, 1) := by decide +kernel
theorem dX3_take_120 : decode cX3_take 120 = .ok (.iconst 1, 1) := by decide +kernel
theorem dX3_take_121 : decode cX3_take 121 = .ok (.iastore, 1) := by decide +kernel
theorem dX3_take_122 : decode cX3_take 122 = .ok (.aload_n 0, 1) := by decide +kernel
theorem dX3_take_123 : decode cX3_take 123 = .ok (.getfield 65, 3) := by decide +kernel
theorem dX3_take_126 : decode cX3_take 126 = .ok (.iload 4, 2) := by decide +kernel
theorem dX3_take_128 : decode cX3_take 128 = .ok (.dup2, 1) := by decide +kernel
theorem dX3_take_129 : decode cX3_take 129 = .ok (.iaload, 1) := by decide +kernel
theorem dX3_take_130 : decode cX3_take 130 = .ok (.iconst 1, 1) := by decide +kernel
theorem dX3_take_131 : decode cX3_take 131 = .ok (.isub, 1) := by decide +kernel
theorem dX3_take_132 : decode cX3_take 132 = .ok (.iastore, 1) := by decide +kernel
theorem dX3_take_133 : decode cX3_take 133 = .ok (.iconst 0, 1) := by decide +kernel
theorem dX3_take_134 : decode cX3_take 134 = .ok (.istore 5, 2) := by decide +kernel
theorem dX3_take_136 : decode cX3_take 136 = .ok (.iload 5, 2) := by decide +kernel
theorem dX3_take_138 : decode cX3_take 138 = .ok (.aload_n 0, 1) := by decide +kernel
theorem dX3_take_139 : decode cX3_take 139 = .ok (.getfield 65, 3) := by decide +kernel
theorem dX3_take_142 : decode cX3_take 142 = .ok (.iload 4, 2) := by decide +kernel
theorem dX3_take_144 : decode cX3_take 144 = .ok (.iaload, 1) := by decide +kernel
theorem dX3_take_145 : decode cX3_take 145 = .ok (.if_icmp .ge 37, 3) := by decide +kernel
theorem dX3_take_148 : decode cX3_take 148 = .ok (.aload_n 0, 1) := by decide +kernel
theorem dX3_take_149 : decode cX3_take 149 = .ok (.getfield 62, 3) := by decide +kernel
theorem dX3_take_152 : decode cX3_take 152 = .ok (.bipush 8, 2) := by decide +kernel
theorem dX3_take_154 : decode cX3_take 154 = .ok (.iload 4, 2) := by decide +kernel
theorem dX3_take_156 : decode cX3_take 156 = .ok (.imul, 1) := by decide +kernel
theorem dX3_take_157 : decode cX3_take 157 = .ok (.iload 5, 2) := by decide +kernel
theorem dX3_take_159 : decode cX3_take 159 = .ok (.iadd, 1) := by decide +kernel
theorem dX3_take_160 : decode cX3_take 160 = .ok (.aload_n 0, 1) := by decide +kernel
theorem dX3_take_161 : decode cX3_take 161 = .ok (.getfield 62, 3) := by decide +kernel
theorem dX3_take_164 : decode cX3_take 164 = .ok (.bipush 8, 2) := by decide +kernel
theorem dX3_take_166 : decode cX3_take 166 = .ok (.iload 4, 2) := by decide +kernel
theorem dX3_take_168 : decode cX3_take 168 = .ok (.imul, 1) := by decide +kernel
theorem dX3_take_169 : decode cX3_take 169 = .ok (.iload 5, 2) := by decide +kernel
theorem dX3_take_171 : decode cX3_take 171 = .ok (.iadd, 1) := by decide +kernel
theorem dX3_take_172 : decode cX3_take 172 = .ok (.iconst 1, 1) := by decide +kernel
theorem dX3_take_173 : decode cX3_take 173 = .ok (.iadd, 1) := by decide +kernel
theorem dX3_take_174 : decode cX3_take 174 = .ok (.iaload, 1) := by decide +kernel
theorem dX3_take_175 : decode cX3_take 175 = .ok (.iastore, 1) := by decide +kernel
theorem dX3_take_176 : decode cX3_take 176 = .ok (.iinc 5 1, 3) := by decide +kernel
theorem dX3_take_179 : decode cX3_take 179 = .ok (.goto (-43), 3) := by decide +kernel
theorem dX3_take_182 : decode cX3_take 182 = .ok (.return_, 1) := by decide +kernel
set_option maxRecDepth 20000 in
theorem ggX3_act_X3_noWord : GoodIn wsX3_act wsX3_noWord := goodIn_r _ [13, 14, 32, 33, 34, 35, 36, 37, 38, 39, 40, 41, 42, 43, 44, 45, 46, 47, 48, 49, 50, 51, 52, 53, 54, 55, 56, 57, 58, 59, 60, 61] (by decide +kernel) (by decide +kernel)
set_option maxRecDepth 20000 in
theorem gX3_act_X3_noWord : GoodIn wsX3_act (wsV RX3 96 RX3 yX3_noWord wsX3_noWord) := goodIn_app (goodIn_of _ (by decide +kernel)) ggX3_act_X3_noWord
set_option maxRecDepth 20000 in
theorem ggX3_act_X3_send : GoodIn wsX3_act wsX3_send := goodIn_r _ [18, 19, 20, 4, 21, 22, 1, 23, 24, 25, 26, 32, 33, 34, 35, 36, 37, 38, 39, 40, 41, 42, 43, 44, 45, 46, 47, 48, 49, 50, 51, 52, 53, 54, 55, 56, 57, 58, 59, 60, 61] (by decide +kernel) (by decide +kernel)
set_option maxRecDepth 20000 in
theorem gX3_act_X3_send : GoodIn wsX3_act (wsV RX3 105 RX3 yX3_send wsX3_send) := goodIn_app (goodIn_of _ (by decide +kernel)) ggX3_act_X3_send
set_option maxRecDepth 20000 in
theorem ggX3_act_X3_take : GoodIn wsX3_act wsX3_take := goodIn_r _ [30, 19, 31, 4, 23, 1, 22, 21, 24, 32, 33, 34, 35, 36, 37, 38, 39, 40, 41, 42, 43, 44, 45, 46, 47, 48, 49, 50, 51, 52, 53, 54, 55, 56, 57, 58, 59, 60, 61] (by decide +kernel) (by decide +kernel)
set_option maxRecDepth 20000 in
theorem gX3_act_X3_take : GoodIn wsX3_act (wsV RX3 109 RX3 yX3_take wsX3_take) := goodIn_app (goodIn_of _ (by decide +kernel)) ggX3_act_X3_take
theorem dX3_act_0 : decode cX3_act 0 = .ok (.iload_n 2, 1) := by decide +kernel
theorem dX3_act_1 : decode cX3_act 1 = .ok (.bipush 15, 2) := by decide +kernel
theorem dX3_act_3 : decode cX3_act 3 = .ok (.iand, 1) := by decide +kernel
theorem dX3_act_4 : decode cX3_act 4 = .ok (.istore_n 3, 1) := by decide +kernel
theorem dX3_act_5 : decode cX3_act 5 = .ok (.iload_n 2, 1) := by decide +kernel
theorem dX3_act_6 : decode cX3_act 6 = .ok (.iconst 4, 1) := by decide +kernel
theorem dX3_act_7 : decode cX3_act 7 = .ok (.ishr, 1) := by decide +kernel
theorem dX3_act_8 : decode cX3_act 8 = .ok (.iconst 3, 1) := by decide +kernel
theorem dX3_act_9 : decode cX3_act 9 = .ok (.iand, 1) := by decide +kernel
theorem dX3_act_10 : decode cX3_act 10 = .ok (.istore 4, 2) := by decide +kernel
theorem dX3_act_12 : decode cX3_act 12 = .ok (.iload_n 2, 1) := by decide +kernel
theorem dX3_act_13 : decode cX3_act 13 = .ok (.bipush 6, 2) := by decide +kernel
theorem dX3_act_15 : decode cX3_act 15 = .ok (.ishr, 1) := by decide +kernel
theorem dX3_act_16 : decode cX3_act 16 = .ok (.iconst 3, 1) := by decide +kernel
theorem dX3_act_17 : decode cX3_act 17 = .ok (.iand, 1) := by decide +kernel
theorem dX3_act_18 : decode cX3_act 18 = .ok (.istore 5, 2) := by decide +kernel
theorem dX3_act_20 : decode cX3_act 20 = .ok (.iload_n 2, 1) := by decide +kernel
theorem dX3_act_21 : decode cX3_act 21 = .ok (.bipush 8, 2) := by decide +kernel
theorem dX3_act_23 : decode cX3_act 23 = .ok (.ishr, 1) := by decide +kernel
theorem dX3_act_24 : decode cX3_act 24 = .ok (.istore 6, 2) := by decide +kernel
theorem dX3_act_26 : decode cX3_act 26 = .ok (.aload_n 0, 1) := by decide +kernel
theorem dX3_act_27 : decode cX3_act 27 = .ok (.getfield 28, 3) := by decide +kernel
theorem dX3_act_30 : decode cX3_act 30 = .ok (.iconst 4, 1) := by decide +kernel
theorem dX3_act_31 : decode cX3_act 31 = .ok (.iload_n 1, 1) := by decide +kernel
theorem dX3_act_32 : decode cX3_act 32 = .ok (.imul, 1) := by decide +kernel
theorem dX3_act_33 : decode cX3_act 33 = .ok (.iload 4, 2) := by decide +kernel
theorem dX3_act_35 : decode cX3_act 35 = .ok (.iadd, 1) := by decide +kernel
theorem dX3_act_36 : decode cX3_act 36 = .ok (.iaload, 1) := by decide +kernel
theorem dX3_act_37 : decode cX3_act 37 = .ok (.istore 7, 2) := by decide +kernel
theorem dX3_act_39 : decode cX3_act 39 = .ok (.aload_n 0, 1) := by decide +kernel
theorem dX3_act_40 : decode cX3_act 40 = .ok (.getfield 28, 3) := by decide +kernel
theorem dX3_act_43 : decode cX3_act 43 = .ok (.iconst 4, 1) := by decide +kernel
theorem dX3_act_44 : decode cX3_act 44 = .ok (.iload_n 1, 1) := by decide +kernel
theorem dX3_act_45 : decode cX3_act 45 = .ok (.imul, 1) := by decide +kernel
theorem dX3_act_46 : decode cX3_act 46 = .ok (.iload 5, 2) := by decide +kernel
theorem dX3_act_48 : decode cX3_act 48 = .ok (.iadd, 1) := by decide +kernel
theorem dX3_act_49 : decode cX3_act 49 = .ok (.iaload, 1) := by decide +kernel
theorem dX3_act_50 : decode cX3_act 50 = .ok (.istore 8, 2) := by decide +kernel
theorem dX3_act_52 : decode cX3_act 52 = .ok (.aload_n 0, 1) := by decide +kernel
theorem dX3_act_53 : decode cX3_act 53 = .ok (.getfield 25, 3) := by decide +kernel
theorem dX3_act_56 : decode cX3_act 56 = .ok (.iload_n 1, 1) := by decide +kernel
theorem dX3_act_57 : decode cX3_act 57 = .ok (.iaload, 1) := by decide +kernel
theorem dX3_act_58 : decode cX3_act 58 = .ok (.iconst 1, 1) := by decide +kernel
theorem dX3_act_59 : decode cX3_act 59 = .ok (.iadd, 1) := by decide +kernel
theorem dX3_act_60 : decode cX3_act 60 = .ok (.istore 9, 2) := by decide +kernel
theorem dX3_act_62 : decode cX3_act 62 = .ok (.iload 8, 2) := by decide +kernel
theorem dX3_act_64 : decode cX3_act 64 = .ok (.iload 6, 2) := by decide +kernel
theorem dX3_act_66 : decode cX3_act 66 = .ok (.iadd, 1) := by decide +kernel
theorem dX3_act_67 : decode cX3_act 67 = .ok (.istore 10, 2) := by decide +kernel
theorem dX3_act_69 : decode cX3_act 69 = .ok (.iload_n 3, 1) := by decide +kernel
theorem dX3_act_70 : decode cX3_act 70 = .ok (.ifCond .ne 13, 3) := by decide +kernel
theorem dX3_act_73 : decode cX3_act 73 = .ok (.aload_n 0, 1) := by decide +kernel
theorem dX3_act_74 : decode cX3_act 74 = .ok (.getfield 22, 3) := by decide +kernel
theorem dX3_act_77 : decode cX3_act 77 = .ok (.iload_n 1, 1) := by decide +kernel
theorem dX3_act_78 : decode cX3_act 78 = .ok (.iconst 2, 1) := by decide +kernel
theorem dX3_act_79 : decode cX3_act 79 = .ok (.iastore, 1) := by decide +kernel
theorem dX3_act_80 : decode cX3_act 80 = .ok (.goto 304, 3) := by decide +kernel
theorem dX3_act_83 : decode cX3_act 83 = .ok (.iload_n 3, 1) := by decide +kernel
theorem dX3_act_84 : decode cX3_act 84 = .ok (.bipush 6, 2) := by decide +kernel
theorem dX3_act_86 : decode cX3_act 86 = .ok (.if_icmp .ge 75, 3) := by decide +kernel
theorem dX3_act_89 : decode cX3_act 89 = .ok (.iload_n 3, 1) := by decide +kernel
theorem dX3_act_90 : decode cX3_act 90 = .ok (.iconst 1, 1) := by decide +kernel
theorem dX3_act_91 : decode cX3_act 91 = .ok (.if_icmp .ne 8, 3) := by decide +kernel
theorem dX3_act_94 : decode cX3_act 94 = .ok (.iload 6, 2) := by decide +kernel
theorem dX3_act_96 : decode cX3_act 96 = .ok (.goto 47, 3) := by decide +kernel
theorem dX3_act_99 : decode cX3_act 99 = .ok (.iload_n 3, 1) := by decide +kernel
theorem dX3_act_100 : decode cX3_act 100 = .ok (.iconst 2, 1) := by decide +kernel
theorem dX3_act_101 : decode cX3_act 101 = .ok (.if_icmp .ne 11, 3) := by decide +kernel
theorem dX3_act_104 : decode cX3_act 104 = .ok (.iload 7, 2) := by decide +kernel
theorem dX3_act_106 : decode cX3_act 106 = .ok (.iload 8, 2) := by decide +kernel
theorem dX3_act_108 : decode cX3_act 108 = .ok (.iadd, 1) := by decide +kernel
theorem dX3_act_109 : decode cX3_act 109 = .ok (.goto 34, 3) := by decide +kernel
theorem dX3_act_112 : decode cX3_act 112 = .ok (.iload_n 3, 1) := by decide +kernel
theorem dX3_act_113 : decode cX3_act 113 = .ok (.iconst 3, 1) := by decide +kernel
theorem dX3_act_114 : decode cX3_act 114 = .ok (.if_icmp .ne 11, 3) := by decide +kernel
theorem dX3_act_117 : decode cX3_act 117 = .ok (.iload 7, 2) := by decide +kernel
theorem dX3_act_119 : decode cX3_act 119 = .ok (.iload 8, 2) := by decide +kernel
theorem dX3_act_121 : decode cX3_act 121 = .ok (.isub, 1) := by decide +kernel
theorem dX3_act_122 : decode cX3_act 122 = .ok (.goto 21, 3) := by decide +kernel
theorem dX3_act_125 : decode cX3_act 125 = .ok (.iload_n 3, 1) := by decide +kernel
theorem dX3_act_126 : decode cX3_act 126 = .ok (.iconst 4, 1) := by decide +kernel
theorem dX3_act_127 : decode cX3_act 127 = .ok (.if_icmp .ne 11, 3) := by decide +kernel
theorem dX3_act_130 : decode cX3_act 130 = .ok (.iload 7, 2) := by decide +kernel
theorem dX3_act_132 : decode cX3_act 132 = .ok (.iload 8, 2) := by decide +kernel
theorem dX3_act_134 : decode cX3_act 134 = .ok (.imul, 1) := by decide +kernel
theorem dX3_act_135 : decode cX3_act 135 = .ok (.goto 8, 3) := by decide +kernel
theorem dX3_act_138 : decode cX3_act 138 = .ok (.iload 7, 2) := by decide +kernel
theorem dX3_act_140 : decode cX3_act 140 = .ok (.iload 8, 2) := by decide +kernel
theorem dX3_act_142 : decode cX3_act 142 = .ok (.ixor, 1) := by decide +kernel
theorem dX3_act_143 : decode cX3_act 143 = .ok (.istore 11, 2) := by decide +kernel
theorem dX3_act_145 : decode cX3_act 145 = .ok (.aload_n 0, 1) := by decide +kernel
theorem dX3_act_146 : decode cX3_act 146 = .ok (.getfield 28, 3) := by decide +kernel
theorem dX3_act_149 : decode cX3_act 149 = .ok (.iconst 4, 1) := by decide +kernel
theorem dX3_act_150 : decode cX3_act 150 = .ok (.iload_n 1, 1) := by decide +kernel
theorem dX3_act_151 : decode cX3_act 151 = .ok (.imul, 1) := by decide +kernel
theorem dX3_act_152 : decode cX3_act 152 = .ok (.iload 4, 2) := by decide +kernel
theorem dX3_act_154 : decode cX3_act 154 = .ok (.iadd, 1) := by decide +kernel
theorem dX3_act_155 : decode cX3_act 155 = .ok (.iload 11, 2) := by decide +kernel
theorem dX3_act_157 : decode cX3_act 157 = .ok (.iastore, 1) := by decide +kernel
theorem dX3_act_158 : decode cX3_act 158 = .ok (.goto 226, 3) := by decide +kernel
theorem dX3_act_161 : decode cX3_act 161 = .ok (.iload_n 3, 1) := by decide +kernel
theorem dX3_act_162 : decode cX3_act 162 = .ok (.bipush 8, 2) := by decide +kernel
theorem dX3_act_164 : decode cX3_act 164 = .ok (.if_icmp .ge 74, 3) := by decide +kernel
theorem dX3_act_167 : decode cX3_act 167 = .ok (.aload_n 0, 1) := by decide +kernel
theorem dX3_act_168 : decode cX3_act 168 = .ok (.iload_n 1, 1) := by decide +kernel
theorem dX3_act_169 : decode cX3_act 169 = .ok (.iload 10, 2) := by decide +kernel
theorem dX3_act_171 : decode cX3_act 171 = .ok (.invokevirtual 96, 3) := by decide +kernel
theorem dX3_act_174 : decode cX3_act 174 = .ok (.ifCond .eq 11, 3) := by decide +kernel
theorem dX3_act_177 : decode cX3_act 177 = .ok (.aload_n 0, 1) := by decide +kernel
theorem dX3_act_178 : decode cX3_act 178 = .ok (.iconst 2, 1) := by decide +kernel
theorem dX3_act_179 : decode cX3_act 179 = .ok (.putfield 102, 3) := by decide +kernel
theorem dX3_act_182 : decode cX3_act 182 = .ok (.goto 202, 3) := by decide +kernel
theorem dX3_act_185 : decode cX3_act 185 = .ok (.iload_n 3, 1) := by decide +kernel
theorem dX3_act_186 : decode cX3_act 186 = .ok (.bipush 6, 2) := by decide +kernel
theorem dX3_act_188 : decode cX3_act 188 = .ok (.if_icmp .ne 31, 3) := by decide +kernel
theorem dX3_act_191 : decode cX3_act 191 = .ok (.aload_n 0, 1) := by decide +kernel
theorem dX3_act_192 : decode cX3_act 192 = .ok (.getfield 28, 3) := by decide +kernel
theorem dX3_act_195 : decode cX3_act 195 = .ok (.iconst 4, 1) := by decide +kernel
theorem dX3_act_196 : decode cX3_act 196 = .ok (.iload_n 1, 1) := by decide +kernel
theorem dX3_act_197 : decode cX3_act 197 = .ok (.imul, 1) := by decide +kernel
theorem dX3_act_198 : decode cX3_act 198 = .ok (.iload 4, 2) := by decide +kernel
theorem dX3_act_200 : decode cX3_act 200 = .ok (.iadd, 1) := by decide +kernel
theorem dX3_act_201 : decode cX3_act 201 = .ok (.aload_n 0, 1) := by decide +kernel
theorem dX3_act_202 : decode cX3_act 202 = .ok (.getfield 7, 3) := by decide +kernel
theorem dX3_act_205 : decode cX3_act 205 = .ok (.aload_n 0, 1) := by decide +kernel
theorem dX3_act_206 : decode cX3_act 206 = .ok (.getfield 13, 3) := by decide +kernel
theorem dX3_act_209 : decode cX3_act 209 = .ok (.iload_n 1, 1) := by decide +kernel
theorem dX3_act_210 : decode cX3_act 210 = .ok (.iaload, 1) := by decide +kernel
theorem dX3_act_211 : decode cX3_act 211 = .ok (.iload 10, 2) := by decide +kernel
theorem dX3_act_213 : decode cX3_act 213 = .ok (.iadd, 1) := by decide +kernel
theorem dX3_act_214 : decode cX3_act 214 = .ok (.iaload, 1) := by decide +kernel
theorem dX3_act_215 : decode cX3_act 215 = .ok (.iastore, 1) := by decide +kernel
theorem dX3_act_216 : decode cX3_act 216 = .ok (.goto 168, 3) := by decide +kernel
theorem dX3_act_219 : decode cX3_act 219 = .ok (.aload_n 0, 1) := by decide +kernel
theorem dX3_act_220 : decode cX3_act 220 = .ok (.getfield 7, 3) := by decide +kernel
theorem dX3_act_223 : decode cX3_act 223 = .ok (.aload_n 0, 1) := by decide +kernel
theorem dX3_act_224 : decode cX3_act 224 = .ok (.getfield 13, 3) := by decide +kernel
theorem dX3_act_227 : decode cX3_act 227 = .ok (.iload_n 1, 1) := by decide +kernel
theorem dX3_act_228 : decode cX3_act 228 = .ok (.iaload, 1) := by decide +kernel
theorem dX3_act_229 : decode cX3_act 229 = .ok (.iload 10, 2) := by decide +kernel
theorem dX3_act_231 : decode cX3_act 231 = .ok (.iadd, 1) := by decide +kernel
theorem dX3_act_232 : decode cX3_act 232 = .ok (.iload 7, 2) := by decide +kernel
theorem dX3_act_234 : decode cX3_act 234 = .ok (.iastore, 1) := by decide +kernel
theorem dX3_act_235 : decode cX3_act 235 = .ok (.goto 149, 3) := by decide +kernel
theorem dX3_act_238 : decode cX3_act 238 = .ok (.iload_n 3, 1) := by decide +kernel
theorem dX3_act_239 : decode cX3_act 239 = .ok (.bipush 11, 2) := by decide +kernel
theorem dX3_act_241 : decode cX3_act 241 = .ok (.if_icmp .ge 58, 3) := by decide +kernel
theorem dX3_act_244 : decode cX3_act 244 = .ok (.iload_n 3, 1) := by decide +kernel
theorem dX3_act_245 : decode cX3_act 245 = .ok (.bipush 8, 2) := by decide +kernel
theorem dX3_act_247 : decode cX3_act 247 = .ok (.if_icmp .ne 21, 3) := by decide +kernel
theorem dX3_act_250 : decode cX3_act 250 = .ok (.iload 7, 2) := by decide +kernel
theorem dX3_act_252 : decode cX3_act 252 = .ok (.ifCond .ne 11, 3) := by decide +kernel
theorem dX3_act_255 : decode cX3_act 255 = .ok (.iload 9, 2) := by decide +kernel
theorem dX3_act_257 : decode cX3_act 257 = .ok (.iload 6, 2) := by decide +kernel
theorem dX3_act_259 : decode cX3_act 259 = .ok (.iadd, 1) := by decide +kernel
theorem dX3_act_260 : decode cX3_act 260 = .ok (.goto 34, 3) := by decide +kernel
theorem dX3_act_263 : decode cX3_act 263 = .ok (.iload 9, 2) := by decide +kernel
theorem dX3_act_265 : decode cX3_act 265 = .ok (.goto 29, 3) := by decide +kernel
theorem dX3_act_268 : decode cX3_act 268 = .ok (.iload_n 3, 1) := by decide +kernel
theorem dX3_act_269 : decode cX3_act 269 = .ok (.bipush 9, 2) := by decide +kernel
theorem dX3_act_271 : decode cX3_act 271 = .ok (.if_icmp .ne 21, 3) := by decide +kernel
theorem dX3_act_274 : decode cX3_act 274 = .ok (.iload 7, 2) := by decide +kernel
theorem dX3_act_276 : decode cX3_act 276 = .ok (.ifCond .ge 11, 3) := by decide +kernel
theorem dX3_act_279 : decode cX3_act 279 = .ok (.iload 9, 2) := by decide +kernel
theorem dX3_act_281 : decode cX3_act 281 = .ok (.iload 6, 2) := by decide +kernel
theorem dX3_act_283 : decode cX3_act 283 = .ok (.iadd, 1) := by decide +kernel
theorem dX3_act_284 : decode cX3_act 284 = .ok (.goto 10, 3) := by decide +kernel
theorem dX3_act_287 : decode cX3_act 287 = .ok (.iload 9, 2) := by decide +kernel
theorem dX3_act_289 : decode cX3_act 289 = .ok (.goto 5, 3) := by decide +kernel
theorem dX3_act_292 : decode cX3_act 292 = .ok (.iload 7, 2) := by decide +kernel
theorem dX3_act_294 : decode cX3_act 294 = .ok (.istore 9, 2) := by decide +kernel
theorem dX3_act_296 : decode cX3_act 296 = .ok (.goto 88, 3) := by decide +kernel
theorem dX3_act_299 : decode cX3_act 299 = .ok (.iload_n 3, 1) := by decide +kernel
theorem dX3_act_300 : decode cX3_act 300 = .ok (.bipush 11, 2) := by decide +kernel
theorem dX3_act_302 : decode cX3_act 302 = .ok (.if_icmp .ne 17, 3) := by decide +kernel
theorem dX3_act_305 : decode cX3_act 305 = .ok (.aload_n 0, 1) := by decide +kernel
theorem dX3_act_306 : decode cX3_act 306 = .ok (.iload_n 1, 1) := by decide +kernel
theorem dX3_act_307 : decode cX3_act 307 = .ok (.iload 4, 2) := by decide +kernel
theorem dX3_act_309 : decode cX3_act 309 = .ok (.iload 5, 2) := by decide +kernel
theorem dX3_act_311 : decode cX3_act 311 = .ok (.iload 6, 2) := by decide +kernel
theorem dX3_act_313 : decode cX3_act 313 = .ok (.invokevirtual 105, 3) := by decide +kernel
theorem dX3_act_316 : decode cX3_act 316 = .ok (.goto 68, 3) := by decide +kernel
theorem dX3_act_319 : decode cX3_act 319 = .ok (.iload_n 3, 1) := by decide +kernel
theorem dX3_act_320 : decode cX3_act 320 = .ok (.bipush 12, 2) := by decide +kernel
theorem dX3_act_322 : decode cX3_act 322 = .ok (.if_icmp .ne 17, 3) := by decide +kernel
theorem dX3_act_325 : decode cX3_act 325 = .ok (.aload_n 0, 1) := by decide +kernel
theorem dX3_act_326 : decode cX3_act 326 = .ok (.iload_n 1, 1) := by decide +kernel
theorem dX3_act_327 : decode cX3_act 327 = .ok (.iload 4, 2) := by decide +kernel
theorem dX3_act_329 : decode cX3_act 329 = .ok (.iload 5, 2) := by decide +kernel
theorem dX3_act_331 : decode cX3_act 331 = .ok (.iload 6, 2) := by decide +kernel
theorem dX3_act_333 : decode cX3_act 333 = .ok (.invokevirtual 109, 3) := by decide +kernel
theorem dX3_act_336 : decode cX3_act 336 = .ok (.goto 48, 3) := by decide +kernel
theorem dX3_act_339 : decode cX3_act 339 = .ok (.iload_n 3, 1) := by decide +kernel
theorem dX3_act_340 : decode cX3_act 340 = .ok (.bipush 13, 2) := by decide +kernel
theorem dX3_act_342 : decode cX3_act 342 = .ok (.if_icmp .ne 11, 3) := by decide +kernel
theorem dX3_act_345 : decode cX3_act 345 = .ok (.aload_n 0, 1) := by decide +kernel
theorem dX3_act_346 : decode cX3_act 346 = .ok (.iconst 1, 1) := by decide +kernel
theorem dX3_act_347 : decode cX3_act 347 = .ok (.putfield 112, 3) := by decide +kernel
theorem dX3_act_350 : decode cX3_act 350 = .ok (.goto 34, 3) := by decide +kernel
theorem dX3_act_353 : decode cX3_act 353 = .ok (.iload_n 3, 1) := by decide +kernel
theorem dX3_act_354 : decode cX3_act 354 = .ok (.bipush 14, 2) := by decide +kernel
theorem dX3_act_356 : decode cX3_act 356 = .ok (.if_icmp .ne 23, 3) := by decide +kernel
theorem dX3_act_359 : decode cX3_act 359 = .ok (.aload_n 0, 1) := by decide +kernel
theorem dX3_act_360 : decode cX3_act 360 = .ok (.getfield 28, 3) := by decide +kernel
theorem dX3_act_363 : decode cX3_act 363 = .ok (.iconst 4, 1) := by decide +kernel
theorem dX3_act_364 : decode cX3_act 364 = .ok (.iload_n 1, 1) := by decide +kernel
theorem dX3_act_365 : decode cX3_act 365 = .ok (.imul, 1) := by decide +kernel
theorem dX3_act_366 : decode cX3_act 366 = .ok (.iload 4, 2) := by decide +kernel
theorem dX3_act_368 : decode cX3_act 368 = .ok (.iadd, 1) := by decide +kernel
theorem dX3_act_369 : decode cX3_act 369 = .ok (.aload_n 0, 1) := by decide +kernel
theorem dX3_act_370 : decode cX3_act 370 = .ok (.getfield 31, 3) := by decide +kernel
theorem dX3_act_373 : decode cX3_act 373 = .ok (.iload_n 1, 1) := by decide +kernel
theorem dX3_act_374 : decode cX3_act 374 = .ok (.iaload, 1) := by decide +kernel
theorem dX3_act_375 : decode cX3_act 375 = .ok (.iastore, 1) := by decide +kernel
theorem dX3_act_376 : decode cX3_act 376 = .ok (.goto 8, 3) := by decide +kernel
theorem dX3_act_379 : decode cX3_act 379 = .ok (.aload_n 0, 1) := by decide +kernel
theorem dX3_act_380 : decode cX3_act 380 = .ok (.iconst 4, 1) := by decide +kernel
theorem dX3_act_381 : decode cX3_act 381 = .ok (.putfield 102, 3) := by decide +kernel
theorem dX3_act_384 : decode cX3_act 384 = .ok (.aload_n 0, 1) := by decide +kernel
theorem dX3_act_385 : decode cX3_act 385 = .ok (.getfield 25, 3) := by decide +kernel
theorem dX3_act_388 : decode cX3_act 388 = .ok (.iload_n 1, 1) := by decide +kernel
theorem dX3_act_389 : decode cX3_act 389 = .ok (.aload_n 0, 1) := by decide +kernel
theorem dX3_act_390 : decode cX3_act 390 = .ok (.getfield 102, 3) := by decide +kernel
theorem dX3_act_393 : decode cX3_act 393 = .ok (.ifCond .le 12, 3) := by decide +kernel
theorem dX3_act_396 : decode cX3_act 396 = .ok (.aload_n 0, 1) := by decide +kernel
theorem dX3_act_397 : decode cX3_act 397 = .ok (.getfield 25, 3) := by decide +kernel
theorem dX3_act_400 : decode cX3_act 400 = .ok (.iload_n 1, 1) := by decide +kernel
theorem dX3_act_401 : decode cX3_act 401 = .ok (.iaload, 1) := by decide +kernel
theorem dX3_act_402 : decode cX3_act 402 = .ok (.goto 5, 3) := by decide +kernel
theorem dX3_act_405 : decode cX3_act 405 = .ok (.iload 9, 2) := by decide +kernel
theorem dX3_act_407 : decode cX3_act 407 = .ok (.iastore, 1) := by decide +kernel
theorem dX3_act_408 : decode cX3_act 408 = .ok (.return_, 1) := by decide +kernel
set_option maxRecDepth 20000 in
theorem ggX3_instruction_X3_noWord : GoodIn wsX3_instruction wsX3_noWord := goodIn_r _ [17, 18, 40, 41, 42, 43, 44, 45, 46, 47, 48, 49, 50, 51, 52, 53, 54, 55, 56, 57, 58, 59, 60, 61, 62, 63, 64, 65, 66, 67, 68, 69] (by decide +kernel) (by decide +kernel)
set_option maxRecDepth 20000 in
theorem gX3_instruction_X3_noWord : GoodIn wsX3_instruction (wsV RX3 96 RX3 yX3_noWord wsX3_noWord) := goodIn_app (goodIn_of _ (by decide +kernel)) ggX3_instruction_X3_noWord
set_option maxRecDepth 20000 in
theorem ggX3_instruction_X3_act : GoodIn wsX3_instruction wsX3_act := goodIn_r _ [22, 10, 2, 9, 1, 3, 4, 12, 5, 13, 14, 15, 16, 17, 18, 23, 24, 25, 26, 27, 28, 29, 30, 31, 32, 33, 34, 35, 36, 37, 38, 39, 40, 41, 42, 43, 44, 45, 46, 47, 48, 49, 50, 51, 52, 53, 54, 55, 56, 57, 58, 59, 60, 61, 62, 63, 64, 65, 66, 67, 68, 69] (by decide +kernel) (by decide +kernel)
set_option maxRecDepth 20000 in
theorem gX3_instruction_X3_act : GoodIn wsX3_instruction (wsV RX3 115 RX3 yX3_act wsX3_act) := goodIn_app (goodIn_of _ (by decide +kernel)) ggX3_instruction_X3_act
theorem dX3_instruction_0 : decode cX3_instruction 0 = .ok (.aload_n 0, 1) := by decide +kernel
theorem dX3_instruction_1 : decode cX3_instruction 1 = .ok (.iconst 0, 1) := by decide +kernel
theorem dX3_instruction_2 : decode cX3_instruction 2 = .ok (.putfield 102, 3) := by decide +kernel
theorem dX3_instruction_5 : decode cX3_instruction 5 = .ok (.aload_n 0, 1) := by decide +kernel
theorem dX3_instruction_6 : decode cX3_instruction 6 = .ok (.iload_n 1, 1) := by decide +kernel
theorem dX3_instruction_7 : decode cX3_instruction 7 = .ok (.aload_n 0, 1) := by decide +kernel
theorem dX3_instruction_8 : decode cX3_instruction 8 = .ok (.getfield 25, 3) := by decide +kernel
theorem dX3_instruction_11 : decode cX3_instruction 11 = .ok (.iload_n 1, 1) := by decide +kernel
theorem dX3_instruction_12 : decode cX3_instruction 12 = .ok (.iaload, 1) := by decide +kernel
theorem dX3_instruction_13 : decode cX3_instruction 13 = .ok (.invokevirtual 96, 3) := by decide +kernel
theorem dX3_instruction_16 : decode cX3_instruction 16 = .ok (.ifCond .eq 11, 3) := by decide +kernel
theorem dX3_instruction_19 : decode cX3_instruction 19 = .ok (.aload_n 0, 1) := by decide +kernel
theorem dX3_instruction_20 : decode cX3_instruction 20 = .ok (.iconst 1, 1) := by decide +kernel
theorem dX3_instruction_21 : decode cX3_instruction 21 = .ok (.putfield 102, 3) := by decide +kernel
theorem dX3_instruction_24 : decode cX3_instruction 24 = .ok (.goto 26, 3) := by decide +kernel
theorem dX3_instruction_27 : decode cX3_instruction 27 = .ok (.aload_n 0, 1) := by decide +kernel
theorem dX3_instruction_28 : decode cX3_instruction 28 = .ok (.iload_n 1, 1) := by decide +kernel
theorem dX3_instruction_29 : decode cX3_instruction 29 = .ok (.aload_n 0, 1) := by decide +kernel
theorem dX3_instruction_30 : decode cX3_instruction 30 = .ok (.getfield 7, 3) := by decide +kernel
theorem dX3_instruction_33 : decode cX3_instruction 33 = .ok (.aload_n 0, 1) := by decide +kernel
theorem dX3_instruction_34 : decode cX3_instruction 34 = .ok (.getfield 13, 3) := by decide +kernel
theorem dX3_instruction_37 : decode cX3_instruction 37 = .ok (.iload_n 1, 1) := by decide +kernel
theorem dX3_instruction_38 : decode cX3_instruction 38 = .ok (.iaload, 1) := by decide +kernel
theorem dX3_instruction_39 : decode cX3_instruction 39 = .ok (.aload_n 0, 1) := by decide +kernel
theorem dX3_instruction_40 : decode cX3_instruction 40 = .ok (.getfield 25, 3) := by decide +kernel
theorem dX3_instruction_43 : decode cX3_instruction 43 = .ok (.iload_n 1, 1) := by decide +kernel
theorem dX3_instruction_44 : decode cX3_instruction 44 = .ok (.iaload, 1) := by decide +kernel
theorem dX3_instruction_45 : decode cX3_instruction 45 = .ok (.iadd, 1) := by decide +kernel
theorem dX3_instruction_46 : decode cX3_instruction 46 = .ok (.iaload, 1) := by decide +kernel
theorem dX3_instruction_47 : decode cX3_instruction 47 = .ok (.invokevirtual 115, 3) := by decide +kernel
theorem dX3_instruction_50 : decode cX3_instruction 50 = .ok (.aload_n 0, 1) := by decide +kernel
theorem dX3_instruction_51 : decode cX3_instruction 51 = .ok (.getfield 102, 3) := by decide +kernel
theorem dX3_instruction_54 : decode cX3_instruction 54 = .ok (.ifCond .ne 14, 3) := by decide +kernel
theorem dX3_instruction_57 : decode cX3_instruction 57 = .ok (.aload_n 0, 1) := by decide +kernel
theorem dX3_instruction_58 : decode cX3_instruction 58 = .ok (.getfield 31, 3) := by decide +kernel
theorem dX3_instruction_61 : decode cX3_instruction 61 = .ok (.iload_n 1, 1) := by decide +kernel
theorem dX3_instruction_62 : decode cX3_instruction 62 = .ok (.dup2, 1) := by decide +kernel
theorem dX3_instruction_63 : decode cX3_instruction 63 = .ok (.iaload, 1) := by decide +kernel
theorem dX3_instruction_64 : decode cX3_instruction 64 = .ok (.iconst 1, 1) := by decide +kernel
theorem dX3_instruction_65 : decode cX3_instruction 65 = .ok (.iadd, 1) := by decide +kernel
theorem dX3_instruction_66 : decode cX3_instruction 66 = .ok (.iastore, 1) := by decide +kernel
theorem dX3_instruction_67 : decode cX3_instruction 67 = .ok (.return_, 1) := by decide +kernel
theorem dX3_instruction_68 : decode cX3_instruction 68 = .ok (.aload_n 0, 1) := by decide +kernel
theorem dX3_instruction_69 : decode cX3_instruction 69 = .ok (.getfield 37, 3) := by decide +kernel
theorem dX3_instruction_72 : decode cX3_instruction 72 = .ok (.iload_n 1, 1) := by decide +kernel
theorem dX3_instruction_73 : decode cX3_instruction 73 = .ok (.aload_n 0, 1) := by decide +kernel
theorem dX3_instruction_74 : decode cX3_instruction 74 = .ok (.getfield 102, 3) := by decide +kernel
theorem dX3_instruction_77 : decode cX3_instruction 77 = .ok (.iastore, 1) := by decide +kernel
theorem dX3_instruction_78 : decode cX3_instruction 78 = .ok (.aload_n 0, 1) := by decide +kernel
theorem dX3_instruction_79 : decode cX3_instruction 79 = .ok (.getfield 40, 3) := by decide +kernel
theorem dX3_instruction_82 : decode cX3_instruction 82 = .ok (.iload_n 1, 1) := by decide +kernel
theorem dX3_instruction_83 : decode cX3_instruction 83 = .ok (.dup2, 1) := by decide +kernel
theorem dX3_instruction_84 : decode cX3_instruction 84 = .ok (.iaload, 1) := by decide +kernel
theorem dX3_instruction_85 : decode cX3_instruction 85 = .ok (.iconst 1, 1) := by decide +kernel
theorem dX3_instruction_86 : decode cX3_instruction 86 = .ok (.iadd, 1) := by decide +kernel
theorem dX3_instruction_87 : decode cX3_instruction 87 = .ok (.iastore, 1) := by decide +kernel
theorem dX3_instruction_88 : decode cX3_instruction 88 = .ok (.aload_n 0, 1) := by decide +kernel
theorem dX3_instruction_89 : decode cX3_instruction 89 = .ok (.getfield 34, 3) := by decide +kernel
theorem dX3_instruction_92 : decode cX3_instruction 92 = .ok (.iload_n 1, 1) := by decide +kernel
theorem dX3_instruction_93 : decode cX3_instruction 93 = .ok (.iaload, 1) := by decide +kernel
theorem dX3_instruction_94 : decode cX3_instruction 94 = .ok (.ifCond .ne 11, 3) := by decide +kernel
theorem dX3_instruction_97 : decode cX3_instruction 97 = .ok (.aload_n 0, 1) := by decide +kernel
theorem dX3_instruction_98 : decode cX3_instruction 98 = .ok (.getfield 22, 3) := by decide +kernel
theorem dX3_instruction_101 : decode cX3_instruction 101 = .ok (.iload_n 1, 1) := by decide +kernel
theorem dX3_instruction_102 : decode cX3_instruction 102 = .ok (.iconst 3, 1) := by decide +kernel
theorem dX3_instruction_103 : decode cX3_instruction 103 = .ok (.iastore, 1) := by decide +kernel
theorem dX3_instruction_104 : decode cX3_instruction 104 = .ok (.return_, 1) := by decide +kernel
theorem dX3_instruction_105 : decode cX3_instruction 105 = .ok (.aload_n 0, 1) := by decide +kernel
theorem dX3_instruction_106 : decode cX3_instruction 106 = .ok (.getfield 34, 3) := by decide +kernel
theorem dX3_instruction_109 : decode cX3_instruction 109 = .ok (.iload_n 1, 1) := by decide +kernel
theorem dX3_instruction_110 : decode cX3_instruction 110 = .ok (.dup2, 1) := by decide +kernel
theorem dX3_instruction_111 : decode cX3_instruction 111 = .ok (.iaload, 1) := by decide +kernel
theorem dX3_instruction_112 : decode cX3_instruction 112 = .ok (.iconst 1, 1) := by decide +kernel
theorem dX3_instruction_113 : decode cX3_instruction 113 = .ok (.isub, 1) := by decide +kernel
theorem dX3_instruction_114 : decode cX3_instruction 114 = .ok (.iastore, 1) := by decide +kernel
theorem dX3_instruction_115 : decode cX3_instruction 115 = .ok (.iconst 0, 1) := by decide +kernel
theorem dX3_instruction_116 : decode cX3_instruction 116 = .ok (.istore_n 2, 1) := by decide +kernel
theorem dX3_instruction_117 : decode cX3_instruction 117 = .ok (.iload_n 2, 1) := by decide +kernel
theorem dX3_instruction_118 : decode cX3_instruction 118 = .ok (.iconst 4, 1) := by decide +kernel
theorem dX3_instruction_119 : decode cX3_instruction 119 = .ok (.if_icmp .ge 20, 3) := by decide +kernel
theorem dX3_instruction_122 : decode cX3_instruction 122 = .ok (.aload_n 0, 1) := by decide +kernel
theorem dX3_instruction_123 : decode cX3_instruction 123 = .ok (.getfield 28, 3) := by decide +kernel
theorem dX3_instruction_126 : decode cX3_instruction 126 = .ok (.iconst 4, 1) := by decide +kernel
theorem dX3_instruction_127 : decode cX3_instruction 127 = .ok (.iload_n 1, 1) := by decide +kernel
theorem dX3_instruction_128 : decode cX3_instruction 128 = .ok (.imul, 1) := by decide +kernel
theorem dX3_instruction_129 : decode cX3_instruction 129 = .ok (.iload_n 2, 1) := by decide +kernel
theorem dX3_instruction_130 : decode cX3_instruction 130 = .ok (.iadd, 1) := by decide +kernel
theorem dX3_instruction_131 : decode cX3_instruction 131 = .ok (.iconst 0, 1) := by decide +kernel
theorem dX3_instruction_132 : decode cX3_instruction 132 = .ok (.iastore, 1) := by decide +kernel
theorem dX3_instruction_133 : decode cX3_instruction 133 = .ok (.iinc 2 1, 3) := by decide +kernel
theorem dX3_instruction_136 : decode cX3_instruction 136 = .ok (.goto (-19), 3) := by decide +kernel
theorem dX3_instruction_139 : decode cX3_instruction 139 = .ok (.aload_n 0, 1) := by decide +kernel
theorem dX3_instruction_140 : decode cX3_instruction 140 = .ok (.getfield 25, 3) := by decide +kernel
theorem dX3_instruction_143 : decode cX3_instruction 143 = .ok (.iload_n 1, 1) := by decide +kernel
theorem dX3_instruction_144 : decode cX3_instruction 144 = .ok (.aload_n 0, 1) := by decide +kernel
theorem dX3_instruction_145 : decode cX3_instruction 145 = .ok (.getfield 19, 3) := by decide +kernel
theorem dX3_instruction_148 : decode cX3_instruction 148 = .ok (.iload_n 1, 1) := by decide +kernel
theorem dX3_instruction_149 : decode cX3_instruction 149 = .ok (.iaload, 1) := by decide +kernel
theorem dX3_instruction_150 : decode cX3_instruction 150 = .ok (.iastore, 1) := by decide +kernel
theorem dX3_instruction_151 : decode cX3_instruction 151 = .ok (.aload_n 0, 1) := by decide +kernel
theorem dX3_instruction_152 : decode cX3_instruction 152 = .ok (.iconst 1, 1) := by decide +kernel
theorem dX3_instruction_153 : decode cX3_instruction 153 = .ok (.putfield 112, 3) := by decide +kernel
theorem dX3_instruction_156 : decode cX3_instruction 156 = .ok (.return_, 1) := by decide +kernel
set_option maxRecDepth 20000 in
theorem ggX3_step_X3_instruction : GoodIn wsX3_step wsX3_instruction := goodIn_r _ [19, 20, 21, 22, 23, 24, 25, 26, 27, 9, 28, 29, 10, 30, 31, 32, 18, 33, 34, 35, 36, 37, 38, 39, 40, 41, 42, 43, 44, 4, 45, 5, 3, 46, 47, 48, 49, 50, 51, 52, 53, 54, 55, 56, 57, 58, 59, 60, 61, 62, 63, 64, 65, 66, 67, 68, 69, 70, 71, 72, 73, 74, 75, 76, 77, 78, 79, 80, 81, 82] (by decide +kernel) (by decide +kernel)
set_option maxRecDepth 20000 in
theorem gX3_step_X3_instruction : GoodIn wsX3_step (wsV RX3 123 RX3 yX3_instruction wsX3_instruction) := goodIn_app (goodIn_of _ (by decide +kernel)) ggX3_step_X3_instruction
theorem dX3_step_0 : decode cX3_step 0 = .ok (.aload_n 0, 1) := by decide +kernel
theorem dX3_step_1 : decode cX3_step 1 = .ok (.aload_n 0, 1) := by decide +kernel
theorem dX3_step_2 : decode cX3_step 2 = .ok (.getfield 85, 3) := by decide +kernel
theorem dX3_step_5 : decode cX3_step 5 = .ok (.ifCond .ne 7, 3) := by decide +kernel
theorem dX3_step_8 : decode cX3_step 8 = .ok (.iconst 1, 1) := by decide +kernel
theorem dX3_step_9 : decode cX3_step 9 = .ok (.goto 19, 3) := by decide +kernel
theorem dX3_step_12 : decode cX3_step 12 = .ok (.iload_n 1, 1) := by decide +kernel
theorem dX3_step_13 : decode cX3_step 13 = .ok (.ifCond .lt 10, 3) := by decide +kernel
theorem dX3_step_16 : decode cX3_step 16 = .ok (.iload_n 1, 1) := by decide +kernel
theorem dX3_step_17 : decode cX3_step 17 = .ok (.sipush 5000, 3) := by decide +kernel
theorem dX3_step_20 : decode cX3_step 20 = .ok (.if_icmp .le 7, 3) := by decide +kernel
theorem dX3_step_23 : decode cX3_step 23 = .ok (.iconst 2, 1) := by decide +kernel
theorem dX3_step_24 : decode cX3_step 24 = .ok (.goto 4, 3) := by decide +kernel
theorem dX3_step_27 : decode cX3_step 27 = .ok (.iconst 0, 1) := by decide +kernel
theorem dX3_step_28 : decode cX3_step 28 = .ok (.putfield 77, 3) := by decide +kernel
theorem dX3_step_31 : decode cX3_step 31 = .ok (.iconst 0, 1) := by decide +kernel
theorem dX3_step_32 : decode cX3_step 32 = .ok (.istore_n 2, 1) := by decide +kernel
theorem dX3_step_33 : decode cX3_step 33 = .ok (.iconst 0, 1) := by decide +kernel
theorem dX3_step_34 : decode cX3_step 34 = .ok (.istore_n 3, 1) := by decide +kernel
theorem dX3_step_35 : decode cX3_step 35 = .ok (.iload_n 3, 1) := by decide +kernel
theorem dX3_step_36 : decode cX3_step 36 = .ok (.iload_n 1, 1) := by decide +kernel
theorem dX3_step_37 : decode cX3_step 37 = .ok (.if_icmp .ge 193, 3) := by decide +kernel
theorem dX3_step_40 : decode cX3_step 40 = .ok (.aload_n 0, 1) := by decide +kernel
theorem dX3_step_41 : decode cX3_step 41 = .ok (.getfield 77, 3) := by decide +kernel
theorem dX3_step_44 : decode cX3_step 44 = .ok (.ifCond .ne 186, 3) := by decide +kernel
theorem dX3_step_47 : decode cX3_step 47 = .ok (.iconst 0, 1) := by decide +kernel
theorem dX3_step_48 : decode cX3_step 48 = .ok (.istore 4, 2) := by decide +kernel
theorem dX3_step_50 : decode cX3_step 50 = .ok (.iload 4, 2) := by decide +kernel
theorem dX3_step_52 : decode cX3_step 52 = .ok (.bipush 8, 2) := by decide +kernel
theorem dX3_step_54 : decode cX3_step 54 = .ok (.if_icmp .ge 67, 3) := by decide +kernel
theorem dX3_step_57 : decode cX3_step 57 = .ok (.aload_n 0, 1) := by decide +kernel
theorem dX3_step_58 : decode cX3_step 58 = .ok (.getfield 68, 3) := by decide +kernel
theorem dX3_step_61 : decode cX3_step 61 = .ok (.iload 4, 2) := by decide +kernel
theorem dX3_step_63 : decode cX3_step 63 = .ok (.aload_n 0, 1) := by decide +kernel
theorem dX3_step_64 : decode cX3_step 64 = .ok (.getfield 59, 3) := by decide +kernel
theorem dX3_step_67 : decode cX3_step 67 = .ok (.iload 4, 2) := by decide +kernel
theorem dX3_step_69 : decode cX3_step 69 = .ok (.iaload, 1) := by decide +kernel
theorem dX3_step_70 : decode cX3_step 70 = .ok (.ifCond .ne 37, 3) := by decide +kernel
theorem dX3_step_73 : decode cX3_step 73 = .ok (.aload_n 0, 1) := by decide +kernel
theorem dX3_step_74 : decode cX3_step 74 = .ok (.getfield 65, 3) := by decide +kernel
theorem dX3_step_77 : decode cX3_step 77 = .ok (.iload 4, 2) := by decide +kernel
theorem dX3_step_79 : decode cX3_step 79 = .ok (.iaload, 1) := by decide +kernel
theorem dX3_step_80 : decode cX3_step 80 = .ok (.ifCond .le 27, 3) := by decide +kernel
theorem dX3_step_83 : decode cX3_step 83 = .ok (.aload_n 0, 1) := by decide +kernel
theorem dX3_step_84 : decode cX3_step 84 = .ok (.getfield 68, 3) := by decide +kernel
theorem dX3_step_87 : decode cX3_step 87 = .ok (.iload 4, 2) := by decide +kernel
theorem dX3_step_89 : decode cX3_step 89 = .ok (.iaload, 1) := by decide +kernel
theorem dX3_step_90 : decode cX3_step 90 = .ok (.ldc 119, 2) := by decide +kernel
theorem dX3_step_92 : decode cX3_step 92 = .ok (.if_icmp .ge 15, 3) := by decide +kernel
theorem dX3_step_95 : decode cX3_step 95 = .ok (.aload_n 0, 1) := by decide +kernel
theorem dX3_step_96 : decode cX3_step 96 = .ok (.getfield 68, 3) := by decide +kernel
theorem dX3_step_99 : decode cX3_step 99 = .ok (.iload 4, 2) := by decide +kernel
theorem dX3_step_101 : decode cX3_step 101 = .ok (.iaload, 1) := by decide +kernel
theorem dX3_step_102 : decode cX3_step 102 = .ok (.iconst 1, 1) := by decide +kernel
theorem dX3_step_103 : decode cX3_step 103 = .ok (.iadd, 1) := by decide +kernel
theorem dX3_step_104 : decode cX3_step 104 = .ok (.goto 10, 3) := by decide +kernel
theorem dX3_step_107 : decode cX3_step 107 = .ok (.aload_n 0, 1) := by decide +kernel
theorem dX3_step_108 : decode cX3_step 108 = .ok (.getfield 68, 3) := by decide +kernel
theorem dX3_step_111 : decode cX3_step 111 = .ok (.iload 4, 2) := by decide +kernel
theorem dX3_step_113 : decode cX3_step 113 = .ok (.iaload, 1) := by decide +kernel
theorem dX3_step_114 : decode cX3_step 114 = .ok (.iastore, 1) := by decide +kernel
theorem dX3_step_115 : decode cX3_step 115 = .ok (.iinc 4 1, 3) := by decide +kernel
theorem dX3_step_118 : decode cX3_step 118 = .ok (.goto (-68), 3) := by decide +kernel
theorem dX3_step_121 : decode cX3_step 121 = .ok (.aload_n 0, 1) := by decide +kernel
theorem dX3_step_122 : decode cX3_step 122 = .ok (.getfield 43, 3) := by decide +kernel
theorem dX3_step_125 : decode cX3_step 125 = .ok (.aload_n 0, 1) := by decide +kernel
theorem dX3_step_126 : decode cX3_step 126 = .ok (.getfield 120, 3) := by decide +kernel
theorem dX3_step_129 : decode cX3_step 129 = .ok (.iaload, 1) := by decide +kernel
theorem dX3_step_130 : decode cX3_step 130 = .ok (.istore 4, 2) := by decide +kernel
theorem dX3_step_132 : decode cX3_step 132 = .ok (.iload 4, 2) := by decide +kernel
theorem dX3_step_134 : decode cX3_step 134 = .ok (.ifCond .lt 30, 3) := by decide +kernel
theorem dX3_step_137 : decode cX3_step 137 = .ok (.aload_n 0, 1) := by decide +kernel
theorem dX3_step_138 : decode cX3_step 138 = .ok (.getfield 22, 3) := by decide +kernel
theorem dX3_step_141 : decode cX3_step 141 = .ok (.iload 4, 2) := by decide +kernel
theorem dX3_step_143 : decode cX3_step 143 = .ok (.iaload, 1) := by decide +kernel
theorem dX3_step_144 : decode cX3_step 144 = .ok (.iconst 1, 1) := by decide +kernel
theorem dX3_step_145 : decode cX3_step 145 = .ok (.if_icmp .ne 19, 3) := by decide +kernel
theorem dX3_step_148 : decode cX3_step 148 = .ok (.aload_n 0, 1) := by decide +kernel
theorem dX3_step_149 : decode cX3_step 149 = .ok (.getfield 112, 3) := by decide +kernel
theorem dX3_step_152 : decode cX3_step 152 = .ok (.ifCond .ne 12, 3) := by decide +kernel
theorem dX3_step_155 : decode cX3_step 155 = .ok (.aload_n 0, 1) := by decide +kernel
theorem dX3_step_156 : decode cX3_step 156 = .ok (.iload 4, 2) := by decide +kernel
theorem dX3_step_158 : decode cX3_step 158 = .ok (.invokevirtual 123, 3) := by decide +kernel
theorem dX3_step_161 : decode cX3_step 161 = .ok (.iinc 2 1, 3) := by decide +kernel
theorem dX3_step_164 : decode cX3_step 164 = .ok (.aload_n 0, 1) := by decide +kernel
theorem dX3_step_165 : decode cX3_step 165 = .ok (.dup, 1) := by decide +kernel
theorem dX3_step_166 : decode cX3_step 166 = .ok (.getfield 99, 3) := by decide +kernel
theorem dX3_step_169 : decode cX3_step 169 = .ok (.iconst 1, 1) := by decide +kernel
theorem dX3_step_170 : decode cX3_step 170 = .ok (.isub, 1) := by decide +kernel
theorem dX3_step_171 : decode cX3_step 171 = .ok (.putfield 99, 3) := by decide +kernel
theorem dX3_step_174 : decode cX3_step 174 = .ok (.aload_n 0, 1) := by decide +kernel
theorem dX3_step_175 : decode cX3_step 175 = .ok (.getfield 99, 3) := by decide +kernel
theorem dX3_step_178 : decode cX3_step 178 = .ok (.ifCond .ne 36, 3) := by decide +kernel
theorem dX3_step_181 : decode cX3_step 181 = .ok (.aload_n 0, 1) := by decide +kernel
theorem dX3_step_182 : decode cX3_step 182 = .ok (.aload_n 0, 1) := by decide +kernel
theorem dX3_step_183 : decode cX3_step 183 = .ok (.getfield 120, 3) := by decide +kernel
theorem dX3_step_186 : decode cX3_step 186 = .ok (.iconst 1, 1) := by decide +kernel
theorem dX3_step_187 : decode cX3_step 187 = .ok (.iadd, 1) := by decide +kernel
theorem dX3_step_188 : decode cX3_step 188 = .ok (.aload_n 0, 1) := by decide +kernel
theorem dX3_step_189 : decode cX3_step 189 = .ok (.getfield 93, 3) := by decide +kernel
theorem dX3_step_192 : decode cX3_step 192 = .ok (.irem, 1) := by decide +kernel
theorem dX3_step_193 : decode cX3_step 193 = .ok (.putfield 120, 3) := by decide +kernel
theorem dX3_step_196 : decode cX3_step 196 = .ok (.aload_n 0, 1) := by decide +kernel
theorem dX3_step_197 : decode cX3_step 197 = .ok (.aload_n 0, 1) := by decide +kernel
theorem dX3_step_198 : decode cX3_step 198 = .ok (.getfield 46, 3) := by decide +kernel
theorem dX3_step_201 : decode cX3_step 201 = .ok (.aload_n 0, 1) := by decide +kernel
theorem dX3_step_202 : decode cX3_step 202 = .ok (.getfield 120, 3) := by decide +kernel
theorem dX3_step_205 : decode cX3_step 205 = .ok (.iaload, 1) := by decide +kernel
theorem dX3_step_206 : decode cX3_step 206 = .ok (.putfield 99, 3) := by decide +kernel
theorem dX3_step_209 : decode cX3_step 209 = .ok (.aload_n 0, 1) := by decide +kernel
theorem dX3_step_210 : decode cX3_step 210 = .ok (.iconst 0, 1) := by decide +kernel
theorem dX3_step_211 : decode cX3_step 211 = .ok (.putfield 112, 3) := by decide +kernel
theorem dX3_step_214 : decode cX3_step 214 = .ok (.aload_n 0, 1) := by decide +kernel
theorem dX3_step_215 : decode cX3_step 215 = .ok (.dup, 1) := by decide +kernel
theorem dX3_step_216 : decode cX3_step 216 = .ok (.getfield 127, 3) := by decide +kernel
theorem dX3_step_219 : decode cX3_step 219 = .ok (.iconst 1, 1) := by decide +kernel
theorem dX3_step_220 : decode cX3_step 220 = .ok (.iadd, 1) := by decide +kernel
theorem dX3_step_221 : decode cX3_step 221 = .ok (.putfield 127, 3) := by decide +kernel
theorem dX3_step_224 : decode cX3_step 224 = .ok (.iinc 3 1, 3) := by decide +kernel
theorem dX3_step_227 : decode cX3_step 227 = .ok (.goto (-192), 3) := by decide +kernel
theorem dX3_step_230 : decode cX3_step 230 = .ok (.iload_n 2, 1) := by decide +kernel
theorem dX3_step_231 : decode cX3_step 231 = .ok (.ireturn, 1) := by decide +kernel
theorem dX3_told_0 : decode cX3_told 0 = .ok (.aload_n 0, 1) := by decide +kernel
theorem dX3_told_1 : decode cX3_told 1 = .ok (.iload_n 1, 1) := by decide +kernel
theorem dX3_told_2 : decode cX3_told 2 = .ok (.ifCond .lt 18, 3) := by decide +kernel
theorem dX3_told_5 : decode cX3_told 5 = .ok (.iload_n 1, 1) := by decide +kernel
theorem dX3_told_6 : decode cX3_told 6 = .ok (.iconst 5, 1) := by decide +kernel
theorem dX3_told_7 : decode cX3_told 7 = .ok (.if_icmp .gt 13, 3) := by decide +kernel
theorem dX3_told_10 : decode cX3_told 10 = .ok (.iload_n 2, 1) := by decide +kernel
theorem dX3_told_11 : decode cX3_told 11 = .ok (.ifCond .lt 9, 3) := by decide +kernel
theorem dX3_told_14 : decode cX3_told 14 = .ok (.iload_n 2, 1) := by decide +kernel
theorem dX3_told_15 : decode cX3_told 15 = .ok (.bipush 9, 2) := by decide +kernel
theorem dX3_told_17 : decode cX3_told 17 = .ok (.if_icmp .le 7, 3) := by decide +kernel
theorem dX3_told_20 : decode cX3_told 20 = .ok (.iconst 1, 1) := by decide +kernel
theorem dX3_told_21 : decode cX3_told 21 = .ok (.goto 4, 3) := by decide +kernel
theorem dX3_told_24 : decode cX3_told 24 = .ok (.iconst 0, 1) := by decide +kernel
theorem dX3_told_25 : decode cX3_told 25 = .ok (.putfield 77, 3) := by decide +kernel
theorem dX3_told_28 : decode cX3_told 28 = .ok (.aload_n 0, 1) := by decide +kernel
theorem dX3_told_29 : decode cX3_told 29 = .ok (.getfield 77, 3) := by decide +kernel
theorem dX3_told_32 : decode cX3_told 32 = .ok (.ifCond .le 5, 3) := by decide +kernel
theorem dX3_told_35 : decode cX3_told 35 = .ok (.iconst 0, 1) := by decide +kernel
theorem dX3_told_36 : decode cX3_told 36 = .ok (.ireturn, 1) := by decide +kernel
theorem dX3_told_37 : decode cX3_told 37 = .ok (.iload_n 2, 1) := by decide +kernel
theorem dX3_told_38 : decode cX3_told 38 = .ok (.ifCond .ne 10, 3) := by decide +kernel
theorem dX3_told_41 : decode cX3_told 41 = .ok (.aload_n 0, 1) := by decide +kernel
theorem dX3_told_42 : decode cX3_told 42 = .ok (.getfield 22, 3) := by decide +kernel
theorem dX3_told_45 : decode cX3_told 45 = .ok (.iload_n 1, 1) := by decide +kernel
theorem dX3_told_46 : decode cX3_told 46 = .ok (.iaload, 1) := by decide +kernel
theorem dX3_told_47 : decode cX3_told 47 = .ok (.ireturn, 1) := by decide +kernel
theorem dX3_told_48 : decode cX3_told 48 = .ok (.iload_n 2, 1) := by decide +kernel
theorem dX3_told_49 : decode cX3_told 49 = .ok (.iconst 1, 1) := by decide +kernel
theorem dX3_told_50 : decode cX3_told 50 = .ok (.if_icmp .le 22, 3) := by decide +kernel
theorem dX3_told_53 : decode cX3_told 53 = .ok (.iload_n 2, 1) := by decide +kernel
theorem dX3_told_54 : decode cX3_told 54 = .ok (.bipush 6, 2) := by decide +kernel
theorem dX3_told_56 : decode cX3_told 56 = .ok (.if_icmp .ge 16, 3) := by decide +kernel
theorem dX3_told_59 : decode cX3_told 59 = .ok (.aload_n 0, 1) := by decide +kernel
theorem dX3_told_60 : decode cX3_told 60 = .ok (.getfield 28, 3) := by decide +kernel
theorem dX3_told_63 : decode cX3_told 63 = .ok (.iconst 4, 1) := by decide +kernel
theorem dX3_told_64 : decode cX3_told 64 = .ok (.iload_n 1, 1) := by decide +kernel
theorem dX3_told_65 : decode cX3_told 65 = .ok (.imul, 1) := by decide +kernel
theorem dX3_told_66 : decode cX3_told 66 = .ok (.iload_n 2, 1) := by decide +kernel
theorem dX3_told_67 : decode cX3_told 67 = .ok (.iadd, 1) := by decide +kernel
theorem dX3_told_68 : decode cX3_told 68 = .ok (.iconst 2, 1) := by decide +kernel
theorem dX3_told_69 : decode cX3_told 69 = .ok (.isub, 1) := by decide +kernel
theorem dX3_told_70 : decode cX3_told 70 = .ok (.iaload, 1) := by decide +kernel
theorem dX3_told_71 : decode cX3_told 71 = .ok (.ireturn, 1) := by decide +kernel
theorem dX3_told_72 : decode cX3_told 72 = .ok (.iload_n 2, 1) := by decide +kernel
theorem dX3_told_73 : decode cX3_told 73 = .ok (.iconst 1, 1) := by decide +kernel
theorem dX3_told_74 : decode cX3_told 74 = .ok (.if_icmp .ne 12, 3) := by decide +kernel
theorem dX3_told_77 : decode cX3_told 77 = .ok (.aload_n 0, 1) := by decide +kernel
theorem dX3_told_78 : decode cX3_told 78 = .ok (.getfield 25, 3) := by decide +kernel
theorem dX3_told_81 : decode cX3_told 81 = .ok (.iload_n 1, 1) := by decide +kernel
theorem dX3_told_82 : decode cX3_told 82 = .ok (.iaload, 1) := by decide +kernel
theorem dX3_told_83 : decode cX3_told 83 = .ok (.goto 54, 3) := by decide +kernel
theorem dX3_told_86 : decode cX3_told 86 = .ok (.iload_n 2, 1) := by decide +kernel
theorem dX3_told_87 : decode cX3_told 87 = .ok (.bipush 6, 2) := by decide +kernel
theorem dX3_told_89 : decode cX3_told 89 = .ok (.if_icmp .ne 12, 3) := by decide +kernel
theorem dX3_told_92 : decode cX3_told 92 = .ok (.aload_n 0, 1) := by decide +kernel
theorem dX3_told_93 : decode cX3_told 93 = .ok (.getfield 31, 3) := by decide +kernel
theorem dX3_told_96 : decode cX3_told 96 = .ok (.iload_n 1, 1) := by decide +kernel
theorem dX3_told_97 : decode cX3_told 97 = .ok (.iaload, 1) := by decide +kernel
theorem dX3_told_98 : decode cX3_told 98 = .ok (.goto 39, 3) := by decide +kernel
theorem dX3_told_101 : decode cX3_told 101 = .ok (.iload_n 2, 1) := by decide +kernel
theorem dX3_told_102 : decode cX3_told 102 = .ok (.bipush 7, 2) := by decide +kernel
theorem dX3_told_104 : decode cX3_told 104 = .ok (.if_icmp .ne 12, 3) := by decide +kernel
theorem dX3_told_107 : decode cX3_told 107 = .ok (.aload_n 0, 1) := by decide +kernel
theorem dX3_told_108 : decode cX3_told 108 = .ok (.getfield 34, 3) := by decide +kernel
theorem dX3_told_111 : decode cX3_told 111 = .ok (.iload_n 1, 1) := by decide +kernel
theorem dX3_told_112 : decode cX3_told 112 = .ok (.iaload, 1) := by decide +kernel
theorem dX3_told_113 : decode cX3_told 113 = .ok (.goto 24, 3) := by decide +kernel
theorem dX3_told_116 : decode cX3_told 116 = .ok (.iload_n 2, 1) := by decide +kernel
theorem dX3_told_117 : decode cX3_told 117 = .ok (.bipush 8, 2) := by decide +kernel
theorem dX3_told_119 : decode cX3_told 119 = .ok (.if_icmp .ne 12, 3) := by decide +kernel
theorem dX3_told_122 : decode cX3_told 122 = .ok (.aload_n 0, 1) := by decide +kernel
theorem dX3_told_123 : decode cX3_told 123 = .ok (.getfield 37, 3) := by decide +kernel
theorem dX3_told_126 : decode cX3_told 126 = .ok (.iload_n 1, 1) := by decide +kernel
theorem dX3_told_127 : decode cX3_told 127 = .ok (.iaload, 1) := by decide +kernel
theorem dX3_told_128 : decode cX3_told 128 = .ok (.goto 9, 3) := by decide +kernel
theorem dX3_told_131 : decode cX3_told 131 = .ok (.aload_n 0, 1) := by decide +kernel
theorem dX3_told_132 : decode cX3_told 132 = .ok (.getfield 40, 3) := by decide +kernel
theorem dX3_told_135 : decode cX3_told 135 = .ok (.iload_n 1, 1) := by decide +kernel
theorem dX3_told_136 : decode cX3_told 136 = .ok (.iaload, 1) := by decide +kernel
theorem dX3_told_137 : decode cX3_told 137 = .ok (.ireturn, 1) := by decide +kernel
theorem dX3_noChannel_0 : decode cX3_noChannel 0 = .ok (.iload_n 1, 1) := by decide +kernel
theorem dX3_noChannel_1 : decode cX3_noChannel 1 = .ok (.ifCond .lt 18, 3) := by decide +kernel
theorem dX3_noChannel_4 : decode cX3_noChannel 4 = .ok (.iload_n 1, 1) := by decide +kernel
theorem dX3_noChannel_5 : decode cX3_noChannel 5 = .ok (.bipush 7, 2) := by decide +kernel
theorem dX3_noChannel_7 : decode cX3_noChannel 7 = .ok (.if_icmp .gt 12, 3) := by decide +kernel
theorem dX3_noChannel_10 : decode cX3_noChannel 10 = .ok (.aload_n 0, 1) := by decide +kernel
theorem dX3_noChannel_11 : decode cX3_noChannel 11 = .ok (.getfield 49, 3) := by decide +kernel
theorem dX3_noChannel_14 : decode cX3_noChannel 14 = .ok (.iload_n 1, 1) := by decide +kernel
theorem dX3_noChannel_15 : decode cX3_noChannel 15 = .ok (.baload, 1) := by decide +kernel
theorem dX3_noChannel_16 : decode cX3_noChannel 16 = .ok (.ifCond .ne 7, 3) := by decide +kernel
theorem dX3_noChannel_19 : decode cX3_noChannel 19 = .ok (.iconst 1, 1) := by decide +kernel
theorem dX3_noChannel_20 : decode cX3_noChannel 20 = .ok (.goto 4, 3) := by decide +kernel
theorem dX3_noChannel_23 : decode cX3_noChannel 23 = .ok (.iconst 0, 1) := by decide +kernel
theorem dX3_noChannel_24 : decode cX3_noChannel 24 = .ok (.ireturn, 1) := by decide +kernel
set_option maxRecDepth 20000 in
theorem ggX3_has_X3_noChannel : GoodIn wsX3_has wsX3_noChannel := goodIn_r _ [12, 13, 14, 15, 16, 17, 18, 19, 20, 21, 22, 23, 24, 25, 26, 27, 28, 29, 30, 31, 32, 33, 34, 35, 36, 37, 38, 39, 40, 41, 42, 43] (by decide +kernel) (by decide +kernel)
set_option maxRecDepth 20000 in
theorem gX3_has_X3_noChannel : GoodIn wsX3_has (wsV RX3 130 RX3 yX3_noChannel wsX3_noChannel) := goodIn_app (goodIn_of _ (by decide +kernel)) ggX3_has_X3_noChannel
theorem dX3_has_0 : decode cX3_has 0 = .ok (.aload_n 0, 1) := by decide +kernel
theorem dX3_has_1 : decode cX3_has 1 = .ok (.aload_n 0, 1) := by decide +kernel
theorem dX3_has_2 : decode cX3_has 2 = .ok (.iload_n 1, 1) := by decide +kernel
theorem dX3_has_3 : decode cX3_has 3 = .ok (.invokevirtual 130, 3) := by decide +kernel
theorem dX3_has_6 : decode cX3_has 6 = .ok (.ifCond .ne 12, 3) := by decide +kernel
theorem dX3_has_9 : decode cX3_has 9 = .ok (.iload_n 2, 1) := by decide +kernel
theorem dX3_has_10 : decode cX3_has 10 = .ok (.ifCond .lt 8, 3) := by decide +kernel
theorem dX3_has_13 : decode cX3_has 13 = .ok (.iload_n 2, 1) := by decide +kernel
theorem dX3_has_14 : decode cX3_has 14 = .ok (.iconst 4, 1) := by decide +kernel
theorem dX3_has_15 : decode cX3_has 15 = .ok (.if_icmp .le 7, 3) := by decide +kernel
theorem dX3_has_18 : decode cX3_has 18 = .ok (.iconst 1, 1) := by decide +kernel
theorem dX3_has_19 : decode cX3_has 19 = .ok (.goto 4, 3) := by decide +kernel
theorem dX3_has_22 : decode cX3_has 22 = .ok (.iconst 0, 1) := by decide +kernel
theorem dX3_has_23 : decode cX3_has 23 = .ok (.putfield 77, 3) := by decide +kernel
theorem dX3_has_26 : decode cX3_has 26 = .ok (.aload_n 0, 1) := by decide +kernel
theorem dX3_has_27 : decode cX3_has 27 = .ok (.getfield 77, 3) := by decide +kernel
theorem dX3_has_30 : decode cX3_has 30 = .ok (.ifCond .le 5, 3) := by decide +kernel
theorem dX3_has_33 : decode cX3_has 33 = .ok (.iconst 0, 1) := by decide +kernel
theorem dX3_has_34 : decode cX3_has 34 = .ok (.ireturn, 1) := by decide +kernel
theorem dX3_has_35 : decode cX3_has 35 = .ok (.iload_n 2, 1) := by decide +kernel
theorem dX3_has_36 : decode cX3_has 36 = .ok (.ifCond .ne 12, 3) := by decide +kernel
theorem dX3_has_39 : decode cX3_has 39 = .ok (.aload_n 0, 1) := by decide +kernel
theorem dX3_has_40 : decode cX3_has 40 = .ok (.getfield 65, 3) := by decide +kernel
theorem dX3_has_43 : decode cX3_has 43 = .ok (.iload_n 1, 1) := by decide +kernel
theorem dX3_has_44 : decode cX3_has 44 = .ok (.iaload, 1) := by decide +kernel
theorem dX3_has_45 : decode cX3_has 45 = .ok (.goto 80, 3) := by decide +kernel
theorem dX3_has_48 : decode cX3_has 48 = .ok (.iload_n 2, 1) := by decide +kernel
theorem dX3_has_49 : decode cX3_has 49 = .ok (.iconst 1, 1) := by decide +kernel
theorem dX3_has_50 : decode cX3_has 50 = .ok (.if_icmp .ne 28, 3) := by decide +kernel
theorem dX3_has_53 : decode cX3_has 53 = .ok (.aload_n 0, 1) := by decide +kernel
theorem dX3_has_54 : decode cX3_has 54 = .ok (.getfield 65, 3) := by decide +kernel
theorem dX3_has_57 : decode cX3_has 57 = .ok (.iload_n 1, 1) := by decide +kernel
theorem dX3_has_58 : decode cX3_has 58 = .ok (.iaload, 1) := by decide +kernel
theorem dX3_has_59 : decode cX3_has 59 = .ok (.ifCond .le 15, 3) := by decide +kernel
theorem dX3_has_62 : decode cX3_has 62 = .ok (.aload_n 0, 1) := by decide +kernel
theorem dX3_has_63 : decode cX3_has 63 = .ok (.getfield 62, 3) := by decide +kernel
theorem dX3_has_66 : decode cX3_has 66 = .ok (.bipush 8, 2) := by decide +kernel
theorem dX3_has_68 : decode cX3_has 68 = .ok (.iload_n 1, 1) := by decide +kernel
theorem dX3_has_69 : decode cX3_has 69 = .ok (.imul, 1) := by decide +kernel
theorem dX3_has_70 : decode cX3_has 70 = .ok (.iaload, 1) := by decide +kernel
theorem dX3_has_71 : decode cX3_has 71 = .ok (.goto 54, 3) := by decide +kernel
theorem dX3_has_74 : decode cX3_has 74 = .ok (.iconst 0, 1) := by decide +kernel
theorem dX3_has_75 : decode cX3_has 75 = .ok (.goto 50, 3) := by decide +kernel
theorem dX3_has_78 : decode cX3_has 78 = .ok (.iload_n 2, 1) := by decide +kernel
theorem dX3_has_79 : decode cX3_has 79 = .ok (.iconst 2, 1) := by decide +kernel
theorem dX3_has_80 : decode cX3_has 80 = .ok (.if_icmp .ne 25, 3) := by decide +kernel
theorem dX3_has_83 : decode cX3_has 83 = .ok (.aload_n 0, 1) := by decide +kernel
theorem dX3_has_84 : decode cX3_has 84 = .ok (.getfield 59, 3) := by decide +kernel
theorem dX3_has_87 : decode cX3_has 87 = .ok (.iload_n 1, 1) := by decide +kernel
theorem dX3_has_88 : decode cX3_has 88 = .ok (.iaload, 1) := by decide +kernel
theorem dX3_has_89 : decode cX3_has 89 = .ok (.ifCond .ne 12, 3) := by decide +kernel
theorem dX3_has_92 : decode cX3_has 92 = .ok (.aload_n 0, 1) := by decide +kernel
theorem dX3_has_93 : decode cX3_has 93 = .ok (.getfield 68, 3) := by decide +kernel
theorem dX3_has_96 : decode cX3_has 96 = .ok (.iload_n 1, 1) := by decide +kernel
theorem dX3_has_97 : decode cX3_has 97 = .ok (.iaload, 1) := by decide +kernel
theorem dX3_has_98 : decode cX3_has 98 = .ok (.goto 27, 3) := by decide +kernel
theorem dX3_has_101 : decode cX3_has 101 = .ok (.iconst 0, 1) := by decide +kernel
theorem dX3_has_102 : decode cX3_has 102 = .ok (.goto 23, 3) := by decide +kernel
theorem dX3_has_105 : decode cX3_has 105 = .ok (.iload_n 2, 1) := by decide +kernel
theorem dX3_has_106 : decode cX3_has 106 = .ok (.iconst 3, 1) := by decide +kernel
theorem dX3_has_107 : decode cX3_has 107 = .ok (.if_icmp .ne 12, 3) := by decide +kernel
theorem dX3_has_110 : decode cX3_has 110 = .ok (.aload_n 0, 1) := by decide +kernel
theorem dX3_has_111 : decode cX3_has 111 = .ok (.getfield 71, 3) := by decide +kernel
theorem dX3_has_114 : decode cX3_has 114 = .ok (.iload_n 1, 1) := by decide +kernel
theorem dX3_has_115 : decode cX3_has 115 = .ok (.iaload, 1) := by decide +kernel
theorem dX3_has_116 : decode cX3_has 116 = .ok (.goto 9, 3) := by decide +kernel
theorem dX3_has_119 : decode cX3_has 119 = .ok (.aload_n 0, 1) := by decide +kernel
theorem dX3_has_120 : decode cX3_has 120 = .ok (.getfield 74, 3) := by decide +kernel
theorem dX3_has_123 : decode cX3_has 123 = .ok (.iload_n 1, 1) := by decide +kernel
theorem dX3_has_124 : decode cX3_has 124 = .ok (.iaload, 1) := by decide +kernel
theorem dX3_has_125 : decode cX3_has 125 = .ok (.ireturn, 1) := by decide +kernel
set_option maxRecDepth 20000 in
theorem ggX3_queued_X3_noChannel : GoodIn wsX3_queued wsX3_noChannel := goodIn_r _ [9, 10, 11, 12, 13, 14, 15, 16, 17, 18, 19, 20, 21, 22, 23, 24, 25, 26, 27, 28, 29, 30, 31, 32, 33, 34, 35, 36, 37, 38, 39, 40] (by decide +kernel) (by decide +kernel)
set_option maxRecDepth 20000 in
theorem gX3_queued_X3_noChannel : GoodIn wsX3_queued (wsV RX3 130 RX3 yX3_noChannel wsX3_noChannel) := goodIn_app (goodIn_of _ (by decide +kernel)) ggX3_queued_X3_noChannel
theorem dX3_queued_0 : decode cX3_queued 0 = .ok (.aload_n 0, 1) := by decide +kernel
theorem dX3_queued_1 : decode cX3_queued 1 = .ok (.aload_n 0, 1) := by decide +kernel
theorem dX3_queued_2 : decode cX3_queued 2 = .ok (.iload_n 1, 1) := by decide +kernel
theorem dX3_queued_3 : decode cX3_queued 3 = .ok (.invokevirtual 130, 3) := by decide +kernel
theorem dX3_queued_6 : decode cX3_queued 6 = .ok (.ifCond .eq 7, 3) := by decide +kernel
theorem dX3_queued_9 : decode cX3_queued 9 = .ok (.iconst 1, 1) := by decide +kernel
theorem dX3_queued_10 : decode cX3_queued 10 = .ok (.goto 4, 3) := by decide +kernel
theorem dX3_queued_13 : decode cX3_queued 13 = .ok (.iconst 0, 1) := by decide +kernel
theorem dX3_queued_14 : decode cX3_queued 14 = .ok (.putfield 77, 3) := by decide +kernel
theorem dX3_queued_17 : decode cX3_queued 17 = .ok (.aload_n 0, 1) := by decide +kernel
theorem dX3_queued_18 : decode cX3_queued 18 = .ok (.getfield 77, 3) := by decide +kernel
theorem dX3_queued_21 : decode cX3_queued 21 = .ok (.ifCond .le 5, 3) := by decide +kernel
theorem dX3_queued_24 : decode cX3_queued 24 = .ok (.iconst 0, 1) := by decide +kernel
theorem dX3_queued_25 : decode cX3_queued 25 = .ok (.ireturn, 1) := by decide +kernel
theorem dX3_queued_26 : decode cX3_queued 26 = .ok (.aload_n 0, 1) := by decide +kernel
theorem dX3_queued_27 : decode cX3_queued 27 = .ok (.getfield 59, 3) := by decide +kernel
theorem dX3_queued_30 : decode cX3_queued 30 = .ok (.iload_n 1, 1) := by decide +kernel
theorem dX3_queued_31 : decode cX3_queued 31 = .ok (.iaload, 1) := by decide +kernel
theorem dX3_queued_32 : decode cX3_queued 32 = .ok (.ifCond .eq 17, 3) := by decide +kernel
theorem dX3_queued_35 : decode cX3_queued 35 = .ok (.iload_n 2, 1) := by decide +kernel
theorem dX3_queued_36 : decode cX3_queued 36 = .ok (.ifCond .lt 13, 3) := by decide +kernel
theorem dX3_queued_39 : decode cX3_queued 39 = .ok (.iload_n 2, 1) := by decide +kernel
theorem dX3_queued_40 : decode cX3_queued 40 = .ok (.aload_n 0, 1) := by decide +kernel
theorem dX3_queued_41 : decode cX3_queued 41 = .ok (.getfield 65, 3) := by decide +kernel
theorem dX3_queued_44 : decode cX3_queued 44 = .ok (.iload_n 1, 1) := by decide +kernel
theorem dX3_queued_45 : decode cX3_queued 45 = .ok (.iaload, 1) := by decide +kernel
theorem dX3_queued_46 : decode cX3_queued 46 = .ok (.if_icmp .lt 7, 3) := by decide +kernel
theorem dX3_queued_49 : decode cX3_queued 49 = .ok (.iconst 0, 1) := by decide +kernel
theorem dX3_queued_50 : decode cX3_queued 50 = .ok (.goto 14, 3) := by decide +kernel
theorem dX3_queued_53 : decode cX3_queued 53 = .ok (.aload_n 0, 1) := by decide +kernel
theorem dX3_queued_54 : decode cX3_queued 54 = .ok (.getfield 62, 3) := by decide +kernel
theorem dX3_queued_57 : decode cX3_queued 57 = .ok (.bipush 8, 2) := by decide +kernel
theorem dX3_queued_59 : decode cX3_queued 59 = .ok (.iload_n 1, 1) := by decide +kernel
theorem dX3_queued_60 : decode cX3_queued 60 = .ok (.imul, 1) := by decide +kernel
theorem dX3_queued_61 : decode cX3_queued 61 = .ok (.iload_n 2, 1) := by decide +kernel
theorem dX3_queued_62 : decode cX3_queued 62 = .ok (.iadd, 1) := by decide +kernel
theorem dX3_queued_63 : decode cX3_queued 63 = .ok (.iaload, 1) := by decide +kernel
theorem dX3_queued_64 : decode cX3_queued 64 = .ok (.ireturn, 1) := by decide +kernel
theorem dX3_current_0 : decode cX3_current 0 = .ok (.aload_n 0, 1) := by decide +kernel
theorem dX3_current_1 : decode cX3_current 1 = .ok (.iconst 0, 1) := by decide +kernel
theorem dX3_current_2 : decode cX3_current 2 = .ok (.putfield 77, 3) := by decide +kernel
theorem dX3_current_5 : decode cX3_current 5 = .ok (.aload_n 0, 1) := by decide +kernel
theorem dX3_current_6 : decode cX3_current 6 = .ok (.getfield 85, 3) := by decide +kernel
theorem dX3_current_9 : decode cX3_current 9 = .ok (.ifCond .eq 15, 3) := by decide +kernel
theorem dX3_current_12 : decode cX3_current 12 = .ok (.aload_n 0, 1) := by decide +kernel
theorem dX3_current_13 : decode cX3_current 13 = .ok (.getfield 43, 3) := by decide +kernel
theorem dX3_current_16 : decode cX3_current 16 = .ok (.aload_n 0, 1) := by decide +kernel
theorem dX3_current_17 : decode cX3_current 17 = .ok (.getfield 120, 3) := by decide +kernel
theorem dX3_current_20 : decode cX3_current 20 = .ok (.iaload, 1) := by decide +kernel
theorem dX3_current_21 : decode cX3_current 21 = .ok (.goto 4, 3) := by decide +kernel
theorem dX3_current_24 : decode cX3_current 24 = .ok (.iconst (-1), 1) := by decide +kernel
theorem dX3_current_25 : decode cX3_current 25 = .ok (.ireturn, 1) := by decide +kernel
theorem dX3_ticks_0 : decode cX3_ticks 0 = .ok (.aload_n 0, 1) := by decide +kernel
theorem dX3_ticks_1 : decode cX3_ticks 1 = .ok (.iconst 0, 1) := by decide +kernel
theorem dX3_ticks_2 : decode cX3_ticks 2 = .ok (.putfield 77, 3) := by decide +kernel
theorem dX3_ticks_5 : decode cX3_ticks 5 = .ok (.aload_n 0, 1) := by decide +kernel
theorem dX3_ticks_6 : decode cX3_ticks 6 = .ok (.getfield 127, 3) := by decide +kernel
theorem dX3_ticks_9 : decode cX3_ticks 9 = .ok (.ireturn, 1) := by decide +kernel
end
section
/-! ===== the words of all tables that a call keeps; every method's list is its own code word and these ===== -/
def kAll : List Cond := lw_tbl.filter goodWord
theorem kmem {w : Cond} (i : Nat) (h : lw_tbl[i]? = some w) (g : goodWord w = true) : w ∈ kAll := List.mem_filter.mpr ⟨List.mem_of_getElem? h, g⟩
theorem kgw {w : Cond} (h : w ∈ kAll) : (w.onTables && w.keeps) = true ∨ ∃ ty, w = .arrayClass ty := good_of_word (List.mem_filter.mp h).2
theorem kgood {w c : Cond} (h : w ∈ kAll) : GoodIn (c :: kAll) (w :: kAll) := fun x hx => (List.mem_cons.mp hx).elim (fun e => by rw [e]; exact ⟨List.mem_cons_of_mem _ h, kgw h⟩) (fun q => ⟨List.mem_cons_of_mem _ q, kgw q⟩)
theorem kgood1 {big ws : List Cond} {w : Cond} (h : w ∈ kAll) (hb : ∀ x ∈ kAll, x ∈ big) (t : GoodIn big ws) : GoodIn big (w :: ws) := fun x hx => (List.mem_cons.mp hx).elim (fun e => by rw [e]; exact ⟨hb _ h, kgw h⟩) (t x)
theorem kgoodA {big : List Cond} (hb : ∀ x ∈ kAll, x ∈ big) : GoodIn big kAll := fun x hx => ⟨hb x hx, kgw hx⟩
theorem kgoodV {own C : String} {i n : Nat} {y : MethodName} {b : ByteArray} {r : Option FieldType} {big : List Cond} (hb : ∀ x ∈ kAll, x ∈ big) (h1 : Cond.methodLink own i y ∈ kAll) (h2 : Cond.instanceMethod y ∈ kAll) (h3 : Cond.selects C y y ∈ kAll) (h4 : Cond.initialized C ∈ kAll) (h5 : Cond.code y b n r ∈ kAll) :
    GoodIn big (wsV own i C y (Cond.code y b n r :: kAll)) := kgood1 h1 hb (kgood1 h2 hb (kgood1 h3 hb (kgood1 h4 hb (kgood1 h5 hb (kgoodA hb)))))
theorem kgoodS {own : String} {i : Nat} {y : MethodName} {w : Cond} {big : List Cond} (hb : ∀ x ∈ kAll, x ∈ big) (h1 : Cond.methodLink own i y ∈ kAll) (h2 : Cond.static y ∈ kAll) (h4 : Cond.initialized y.cls ∈ kAll) (h5 : w ∈ kAll) :
    GoodIn big (va_wsS own i y (w :: kAll)) := kgood1 h1 hb (kgood1 h2 hb (kgood1 h4 hb (kgood1 h5 hb (kgoodA hb))))
/-! ===== the state: two matrices (class, reference) and one number; rows are cells, columns slots ===== -/
abbrev kM : Type := Nat → Nat → Int32
def kup (s : kM) (r j : Nat) (v : Int32) : kM := va_up s r (upd (s r) j v)
theorem kup_at (s : kM) (r j : Nat) (v : Int32) : kup s r j v r j = v := by simp [kup, va_up, upd]
theorem kup_r {s : kM} {r j a b : Nat} {v : Int32} (h : a ≠ r) : kup s r j v a b = s a b := by simp [kup, va_up, h]
theorem kup_j {s : kM} {r j a b : Nat} {v : Int32} (h : b ≠ j) : kup s r j v a b = s a b := by
  by_cases e : a = r
  · subst e; simp [kup, va_up, upd, h]
  · simp [kup, va_up, e]
theorem kup_eq (s : kM) (r j : Nat) (v : Int32) (a b : Nat) : kup s r j v a b = if a = r ∧ b = j then v else s a b := by
  by_cases e : a = r
  · subst e
    by_cases f : b = j
    · subst f; simp [kup, va_up, upd]
    · simp [kup, va_up, upd, f]
  · simp [kup, va_up, e]
def kf2 (A : Nat → Nat) (f : Nat → Int32) : List Value := [.ref (A 1), .ref (A 2), .ref (A 3), .ref (A 4), .ref (A 5), .int (f 5), .int (f 6), .int (f 7), .int (f 8), .int (f 9), .int (f 10), .int (f 11)]
def kf1 (A : Nat → Nat) (r : Nat) (f : Nat → Int32) : List Value := [.ref (A (r + 6)), .int (f 1), .int (f 2), .int (f 3), .int (f 4), .int (f 5), .int (f 6), .int (f 7), .int (f 8), .int (f 9)]
def kf0 (A : Nat → Nat) (r : Nat) (f : Nat → Int32) : List Value := [.ref (A (r + 8)), .int (f 1), .int (f 2), .int (f 3), .int (f 4), .int (f 5), .int (f 6), .int (f 7), .int (f 8), .int (f 9)]
def kf3 (A : Nat → Nat) (f : Nat → Int32) : List Value := [.int (f 0), .ref (A 35), .ref (A 36), .ref (A 37), .ref (A 38), .ref (A 39), .ref (A 40), .ref (A 41), .ref (A 42), .ref (A 43), .ref (A 44), .ref (A 45), .int (f 12), .ref (A 46), .ref (A 47), .ref (A 48), .ref (A 49), .ref (A 50), .ref (A 51), .ref (A 52), .ref (A 53), .ref (A 54), .ref (A 55), .ref (A 56), .int (f 24), .int (f 25), .int (f 26), .int (f 27), .int (f 28), .int (f 29)]
def klens : List Nat := [0, 512, 0, 0, 12, 12, 0, 0, 0, 0, 0, 0, 4, 4, 4, 4, 4, 4, 0, 0, 0, 0, 0, 0, 0, 0, 8, 8, 8, 8, 8, 8, 8, 8, 0, 512, 6, 6, 6, 6, 6, 24, 6, 6, 6, 6, 12, 12, 8, 8, 8, 8, 64, 8, 8, 8, 8, 1]
def klen (k : Nat) : Nat := klens.getD k 0
def kc (A : Nat → Nat) (C : Nat → ClassId) (k : Nat) (f : Nat → Int32) : va_E :=
  if k = 0 then .inr (2, kf2 A f) else if k = 2 then .inl (C 2, 6, .inr (.inr (.inr (.inr (fun i => some (A (i + 6))))))) else if k = 3 then .inl (C 3, 8, .inr (.inr (.inr (.inr (fun i => some (A (i + 18)))))))
  else if 6 ≤ k ∧ k < 12 then .inr (1, kf1 A k f) else if 18 ≤ k ∧ k < 26 then .inr (0, kf0 A k f) else if k = 34 then .inr (3, kf3 A f) else if k = 48 then .inl (C 4, 8, .inl f)
  else if k = 57 then .inl (C 1, 1, .inr (.inl (fun j => (f j).toInt64))) else .inl (C 0, klen k, .inl f)
def krow (ka mu : kM) (o : Int32) (k : Nat) : Nat → Int32 := if k < 34 then ka k else if k < 57 then mu k else fun _ => o
def kw (A : Nat → Nat) (C : Nat → ClassId) (ka mu : kM) (o : Int32) : va_W := (List.range 58).map (fun k => (A k, kc A C k (krow ka mu o k)))
def kt (C : Nat → ClassId) : List (ClassId × FieldType) := [(C 0, .int), (C 1, .long), (C 2, .object RX1), (C 3, .object RX0), (C 4, .boolean)]
def kinj (A : Nat → Nat) : Prop := ∀ i j : Nat, i < 58 → j < 58 → A i = A j → i = j
def kA (A : Nat → Nat) (sz : Nat) : Nat → Prop := fun q => (∃ k : Nat, k < 58 ∧ q = A k) ∨ sz ≤ q
def kP (D : va_G) (A : Nat → Nat) (C : Nat → ClassId) (ka mu : kM) (o : Int32) (H : Heap) : Prop := va_P D vwCl (kw A C ka mu o) H
theorem kA_mono {A : Nat → Nat} {a b : Nat} (h : a ≤ b) (q : Nat) (hq : kA A b q) : kA A a q := hq.elim Or.inl (fun g => Or.inr (Nat.le_trans h g))
section KW0
variable {A : Nat → Nat} {C : Nat → ClassId} {ka mu : kM} {o : Int32} {f : Nat → Int32} {k j sz : Nat}
theorem kw_at (h : k < 58) : (kw A C ka mu o)[k]? = some (A k, kc A C k (krow ka mu o k)) := by
  simp [kw, h]
theorem kw_get {q : Nat × va_E} (h : (kw A C ka mu o)[k]? = some q) : k < 58 ∧ q = (A k, kc A C k (krow ka mu o k)) := by
  have hk : k < 58 := by
    have := (List.getElem?_eq_some_iff.mp h).1
    simpa [kw] using this
  rw [kw_at hk] at h
  exact ⟨hk, (Option.some.inj h).symm⟩
theorem kD (hA : kinj A) : va_D (kA A sz) (kw A C ka mu o) := by
  refine ⟨fun i j x y hx hy hxy => ?_, fun k q hk => ?_⟩
  · obtain ⟨hi, rfl⟩ := kw_get hx
    obtain ⟨hj, rfl⟩ := kw_get hy
    exact hA i j hi hj hxy
  · obtain ⟨hk9, rfl⟩ := kw_get hk
    exact Or.inl ⟨k, hk9, rfl⟩
theorem kw_ext {ws : va_W} (hl : ws.length = 58) (h : ∀ k, k < 58 → ws[k]? = some (A k, kc A C k (krow ka mu o k))) : ws = kw A C ka mu o := by
  apply List.ext_getElem?
  intro i
  by_cases hi : i < 58
  · rw [h i hi, kw_at hi]
  · rw [List.getElem?_eq_none (by omega), List.getElem?_eq_none (by simp [kw]; omega)]
theorem kw_len : (kw A C ka mu o).length = 58 := by simp [kw]
theorem kw_setK (hk : k < 34) : (kw A C ka mu o).set k (A k, kc A C k f) = kw A C (va_up ka k f) mu o := by
  refine kw_ext (by rw [List.length_set, kw_len]) (fun i hi => ?_)
  by_cases e : i = k
  · subst e
    rw [List.getElem?_set_self (by rw [kw_len]; exact hi)]
    simp [krow, hk, va_up]
  · rw [List.getElem?_set_ne (Ne.symm e), kw_at hi]
    simp [krow, va_up, e]
theorem kw_setM (h1 : 34 ≤ k) (h2 : k < 57) : (kw A C ka mu o).set k (A k, kc A C k f) = kw A C ka (va_up mu k f) o := by
  refine kw_ext (by rw [List.length_set, kw_len]) (fun i hi => ?_)
  by_cases e : i = k
  · subst e
    rw [List.getElem?_set_self (by rw [kw_len]; exact hi)]
    simp [krow, Nat.not_lt.mpr h1, h2, va_up]
  · rw [List.getElem?_set_ne (Ne.symm e), kw_at hi]
    simp [krow, va_up, e]
theorem kw_setO {x : Int32} : (kw A C ka mu o).set 57 (A 57, kc A C 57 (fun _ => x)) = kw A C ka mu x := by
  refine kw_ext (by rw [List.length_set, kw_len]) (fun i hi => ?_)
  by_cases e : i = 57
  · subst e
    rw [List.getElem?_set_self (by rw [kw_len]; exact hi)]
    simp [krow]
  · rw [List.getElem?_set_ne (Ne.symm e), kw_at hi]
    have : i < 57 := by omega
    simp [krow, this]
theorem kc_X2 : kc A C 0 f = .inr (2, kf2 A f) := rfl
theorem kc_X1 (h : j < 6) : kc A C (j + 6) f = .inr (1, kf1 A (j + 6) f) := by
  have h1 : ¬ (j + 6 = 0) := by omega
  have h2 : ¬ (j + 6 = 2) := by omega
  have h3 : ¬ (j + 6 = 3) := by omega
  have h4 : 6 ≤ j + 6 ∧ j + 6 < 12 := by omega
  unfold kc; rw [if_neg h1, if_neg h2, if_neg h3, if_pos h4]
theorem kc_X0 (h : j < 8) : kc A C (j + 18) f = .inr (0, kf0 A (j + 18) f) := by
  have h1 : ¬ (j + 18 = 0) := by omega
  have h2 : ¬ (j + 18 = 2) := by omega
  have h3 : ¬ (j + 18 = 3) := by omega
  have h4 : ¬ (6 ≤ j + 18 ∧ j + 18 < 12) := by omega
  have h5 : 18 ≤ j + 18 ∧ j + 18 < 26 := by omega
  unfold kc; rw [if_neg h1, if_neg h2, if_neg h3, if_neg h4, if_pos h5]
theorem kc_X3 : kc A C 34 f = .inr (3, kf3 A f) := rfl
/-- the rows that are arrays of ints, and how long -/
def kI (k n : Nat) : Prop := k ≠ 0 ∧ k ≠ 2 ∧ k ≠ 3 ∧ ¬ (6 ≤ k ∧ k < 12) ∧ ¬ (18 ≤ k ∧ k < 26) ∧ k ≠ 34 ∧ k ≠ 48 ∧ k < 57 ∧ klen k = n
theorem kc_I {n : Nat} (h : kI k n) : kc A C k f = .inl (C 0, n, .inl f) := by
  obtain ⟨h1, h2, h3, h4, h5, h6, h7, h8, h9⟩ := h
  unfold kc; rw [if_neg h1, if_neg h2, if_neg h3, if_neg h4, if_neg h5, if_neg h6, if_neg h7, if_neg (by omega), h9]
theorem kI_R (h : j < 6) : kI (j + 12) 4 := by
  refine ⟨by omega, by omega, by omega, by omega, by omega, by omega, by omega, by omega, ?_⟩
  rcases (show j = 0 ∨ j = 1 ∨ j = 2 ∨ j = 3 ∨ j = 4 ∨ j = 5 by omega) with rfl | rfl | rfl | rfl | rfl | rfl <;> rfl
theorem kI_W (h : j < 8) : kI (j + 26) 8 := by
  refine ⟨by omega, by omega, by omega, by omega, by omega, by omega, by omega, by omega, ?_⟩
  rcases (show j = 0 ∨ j = 1 ∨ j = 2 ∨ j = 3 ∨ j = 4 ∨ j = 5 ∨ j = 6 ∨ j = 7 by omega) with rfl | rfl | rfl | rfl | rfl | rfl | rfl | rfl <;> rfl
end KW0
end
section
/-! ===== what holds all through a method's walk ===== -/
def kisN (w : Cond) : Bool := match w with | .fieldLinkNest .. => true | .methodLinkNest .. => true | .castable .. => true | .declares .. => true | _ => false
def kNest : List Cond := lw_tbl.filter kisN
theorem knmem {w : Cond} (i : Nat) (h : lw_tbl[i]? = some w) (g : kisN w = true) : w ∈ kNest := List.mem_filter.mpr ⟨List.mem_of_getElem? h, g⟩
theorem kN_warm {s U : State} (hW : s.WarmedH U.vm) (h : ∀ w ∈ kNest, va_Nw w s) : ∀ w ∈ kNest, va_Nw w U := by
  intro w hw
  have h1 := h w hw
  have h2 := (List.mem_filter.mp hw).2
  cases w with
  | fieldLinkNest a i b n d x => exact va_Nw.warmF hW h1
  | methodLinkNest a i y x => exact va_Nw.warmM hW h1
  | castable a b => exact va_Nw.warmC hW h1
  | declares x => exact va_Nw.warmD hW h1
  | _ => exact absurd h2 (by simp [kisN])
def kStr : List (Nat × String) := [(132, "sealed"), (42, "no such partition, or told already"), (54, "region not in memory, or not free"), (56, "entry not in the region, or restarts not 0 to 100"), (133, "partition not told"), (70, "ticks not 1 to 100, or the frame is full"), (78, "no such channel, or told already"), (80, "a channel to itself, or room not 0 to 8"), (143, "no such word"), (91, "no window"), (97, "not sealed"), (99, "ticks not 0 to 5000"), (104, "no such partition, or nothing to tell"), (114, "no such channel, or nothing to tell"), (121, "no such channel")]
def kISE : String := "java/lang/IllegalStateException"
def kIAE : String := "java/lang/IllegalArgumentException"
def kIOB : String := "java/lang/IndexOutOfBoundsException"
/-- what throws and catches need: Throwable's two statics, the texts, classes that aren't castable -/
def kThr (A : Nat → Prop) (U : State) (H : Heap) : Prop := vx_Zq Bundle.tN "UNASSIGNED_STACK" Bundle.steD A U H ∧ vx_Zq Bundle.tN "SUPPRESSED_SENTINEL" Bundle.listD A U H ∧ (∀ q ∈ kStr, ∃ sa : Nat, vk_R RX2 q.1 q.2 sa U) ∧ va_Nc kIAE kISE U ∧ va_Nc kIOB kISE U ∧ va_Nc kIOB kIAE U
theorem kThr_go {A B : Nat → Prop} {s U : State} {H1 H2 : Heap} (h : kThr A s H1) (hW : s.WarmedH U.vm) (hk : ∀ q, q < H1.size → ¬ A q → H2[q]? = H1[q]?) (hn : ∀ q, B q → A q) : kThr B U H2 :=
  ⟨((vx_Zq.moved hW.alike h.1).kept hk).narrow hn, ((vx_Zq.moved hW.alike h.2.1).kept hk).narrow hn, fun q hq => (h.2.2.1 q hq).elim (fun sa g => ⟨sa, vk_R.warm hW g⟩), va_Nc.moved hW.alike h.2.2.2.1, va_Nc.moved hW.alike h.2.2.2.2.1, va_Nc.moved hW.alike h.2.2.2.2.2⟩
/-- the tables, seen from U with heap H -/
def kE (D : va_G) (C : Nat → ClassId) (A : Nat → Nat) (sz : Nat) (U : State) (H : Heap) : Prop := va_K D vwCl (kt C) U ∧ (∀ w ∈ kNest, va_Nw w U) ∧ kThr (kA A sz) U H
theorem kE_go {D : va_G} {C : Nat → ClassId} {A : Nat → Nat} {s U : State} {H : Heap} {locs : List Loc} (h : kE D C A s.heap.size s s.heap) (hS : va_S (kA A s.heap.size) s.heap H locs) (hU : U.heap = H) (hW : s.WarmedH U.vm) : kE D C A H.size U U.heap :=
  ⟨va_K.moved hW.alike h.1, kN_warm hW h.2.1, kThr_go h.2.2 hW (fun q h1 h2 => by rw [hU]; exact hS.2.1 q h1 h2) (fun q hq => kA_mono hS.1 q hq)⟩
theorem kE_blind {D : va_G} {C : Nat → ClassId} {A : Nat → Nat} {sz : Nat} {U : State} {g : JFrame} {mk : MethodId} {a : Array Value} (h : kE D C A sz U U.heap) : kE D C A sz (U.calling g mk a) (U.calling g mk a).heap :=
  ⟨va_K.moved (u := U) (U := U.calling g mk a) (Vm.Alike.refl U.vm) h.1, kN_warm (State.WarmedH.refl U) h.2.1, kThr_go h.2.2 (State.WarmedH.refl U) (fun _ _ _ => rfl) (fun _ h => h)⟩
def kCtx (D : va_G) (A : Nat → Nat) (C : Nat → ClassId) (p : Program) (s : State) (m : MethodId) (args : Array Value) (c : Code) (cc : ByteArray) (nL : Nat) (own : String) : Prop :=
  p.tables.exec = Jvm.exec ∧ c.code = cc ∧ c.maxLocals = nL ∧ s.vm.findClass own = some m.cls ∧ (∀ w ∈ kAll, w.before args s = true) ∧ kE D C A s.heap.size s s.heap ∧ kinj A
abbrev kS (A : Nat → Nat) (s : State) (H : Heap) (locs : List Loc) : Prop := va_S (kA A s.heap.size) s.heap H locs
def kPre (D : va_G) (A : Nat → Nat) (C : Nat → ClassId) (ka mu : kM) (o : Int32) (sz : Nat) (av : List Value) : Array Value → State → Prop := va_Pc av (fun U => U.heap.size = sz ∧ kP D A C ka mu o U.heap ∧ kE D C A sz U U.heap)
theorem kPre_blind {D : va_G} {A : Nat → Nat} {C : Nat → ClassId} {ka mu : kM} {o : Int32} {sz : Nat} {av : List Value} : FrameBlind (kPre D A C ka mu o sz av) := fun a U g mk q => ⟨q.1, q.2.1, q.2.2.1, kE_blind q.2.2.2⟩
/-- a method that answers the int r, and leaves ka' mu' o' -/
def kMi (l : Launch) (y : MethodName) (w : Cond) (rm : Room) (D : va_G) (A : Nat → Nat) (C : Nat → ClassId) (ka mu : kM) (o : Int32) (sz : Nat) (av : List Value) (r : Int32) (ka' mu' : kM) (o' : Int32) : Prop :=
  Met l y (w :: kAll) rm (kPre D A C ka mu o sz av) (va_Qi (fun (x : Int32) (_ : Unit) => x = r) (fun _ t => kP D A C ka' mu' o' t.heap) (kA A sz)) rm.cells rm.slots (kA A sz)
def kMv (l : Launch) (y : MethodName) (w : Cond) (rm : Room) (D : va_G) (A : Nat → Nat) (C : Nat → ClassId) (ka mu : kM) (o : Int32) (sz : Nat) (av : List Value) (ka' mu' : kM) (o' : Int32) : Prop :=
  Met l y (w :: kAll) rm (kPre D A C ka mu o sz av) (va_Qv (fun (_ : Unit) => True) (fun _ t => kP D A C ka' mu' o' t.heap) (kA A sz)) rm.cells rm.slots (kA A sz)
abbrev kZi (D : va_G) (A : Nat → Nat) (C : Nat → ClassId) (below : List Frame) (args : Array Value) (s : State) (mc ms : Nat) (r : Int32) (ka' mu' : kM) (o' : Int32) : State → Prop :=
  MQ below (va_Qi (fun (x : Int32) (_ : Unit) => x = r) (fun _ t => kP D A C ka' mu' o' t.heap) (kA A s.heap.size)) args s mc ms (kA A s.heap.size)
abbrev kZv (D : va_G) (A : Nat → Nat) (C : Nat → ClassId) (below : List Frame) (args : Array Value) (s : State) (mc ms : Nat) (ka' mu' : kM) (o' : Int32) : State → Prop :=
  MQ below (va_Qv (fun (_ : Unit) => True) (fun _ t => kP D A C ka' mu' o' t.heap) (kA A s.heap.size)) args s mc ms (kA A s.heap.size)
section KR
variable {p : Program} {l : Launch} {e : Env} {R : Room} {s : State} {m : MethodId} {args : Array Value} {below : List Frame} {meth : Method} {c : Code} {H : Heap} {locs : List Loc} {cells slots : Nat} {Q : State → Prop}
variable {cc : ByteArray} {nL pc : Nat} {ls : Array Slot} {rest : List Value} {D : va_G} {A : Nat → Nat} {C : Nat → ClassId} {ka mu : kM} {o : Int32} {own : String} {j index : Nat}
theorem kMi_of {y : MethodName} {nL : Nat} {ret : Option FieldType} {rm : Room} {sz : Nat} {av : List Value} {r : Int32} {ka' mu' : kM} {o' : Int32} (hA : kinj A) (hy : plainName y.cls = true) (hc : (lg_sl av).length ≤ nL)
    (body : ∀ (p : Program) (e : Env) (s : State) (m : MethodId) (args : Array Value) (below : List Frame) (meth : Method) (c : Code), kCtx D A C p s m args c cc nL y.cls → meth.sig.returnType = ret → meth.locks = false → kP D A C ka mu o s.heap → kS A s s.heap [] → ∀ ls : Array Slot, lv_has ls nL (lv_args 0 av) →
      W p l e rm s m args below meth c s.heap [] 0 0 (kZi D A C below args s rm.cells rm.slots r ka' mu' o') (F0 m 0 ls [])) : kMi l y (.code y cc nL ret) rm D A C ka mu o sz av r ka' mu' o' := by
  refine Met.ofW (cc := cc) (maxL := nL) (ret := ret) hy rfl ?_
  intro p e s m args below meth c s₁ B hml hv
  obtain ⟨rfl, rfl, hP, hE⟩ := hv
  have hts := atoms_spec (ws := Cond.code y cc nL ret :: kAll) B.pre
  have hl := lv_entry av (n := nL) hc
  rw [lg_entry_eq]
  generalize (lg_sl av ++ List.replicate (nL - (lg_sl av).length) Slot.unset).toArray = ls at hl ⊢
  exact body p e s m _ below meth c ⟨B.exec, B.bytes, hml, findClass_of_methodNamed B.named, fun w hw => hts w (List.mem_cons_of_mem _ hw), hE, hA⟩ B.returns B.notSynchronized hP va_S.rf ls hl
theorem kMv_of {y : MethodName} {nL : Nat} {rm : Room} {sz : Nat} {av : List Value} {ka' mu' : kM} {o' : Int32} (hA : kinj A) (hy : plainName y.cls = true) (hc : (lg_sl av).length ≤ nL)
    (body : ∀ (p : Program) (e : Env) (s : State) (m : MethodId) (args : Array Value) (below : List Frame) (meth : Method) (c : Code), kCtx D A C p s m args c cc nL y.cls → meth.sig.returnType = none → meth.locks = false → kP D A C ka mu o s.heap → kS A s s.heap [] → ∀ ls : Array Slot, lv_has ls nL (lv_args 0 av) →
      W p l e rm s m args below meth c s.heap [] 0 0 (kZv D A C below args s rm.cells rm.slots ka' mu' o') (F0 m 0 ls [])) : kMv l y (.code y cc nL none) rm D A C ka mu o sz av ka' mu' o' := by
  refine Met.ofW (cc := cc) (maxL := nL) (ret := none) hy rfl ?_
  intro p e s m args below meth c s₁ B hml hv
  obtain ⟨rfl, rfl, hP, hE⟩ := hv
  have hts := atoms_spec (ws := Cond.code y cc nL none :: kAll) B.pre
  have hl := lv_entry av (n := nL) hc
  rw [lg_entry_eq]
  generalize (lg_sl av ++ List.replicate (nL - (lg_sl av).length) Slot.unset).toArray = ls at hl ⊢
  exact body p e s m _ below meth c ⟨B.exec, B.bytes, hml, findClass_of_methodNamed B.named, fun w hw => hts w (List.mem_cons_of_mem _ hw), hE, hA⟩ B.returns B.notSynchronized hP va_S.rf ls hl
/-! ends -/
theorem k_iret {r v : Int32} {k1 m1 ka' mu' : kM} {o1 o' : Int32} (G : kCtx D A C p s m args c cc nL own) (hr : meth.sig.returnType = some .int) (hlocks : meth.locks = false) (hP : kP D A C k1 m1 o1 H) (hS : kS A s H locs) (hv : v = r) (h1 : k1 = ka') (h2 : m1 = mu') (h3 : o1 = o') (hdg : decode cc pc = .ok (.ireturn, 1)) :
    W p l e R s m args below meth c H locs cells slots (kZi D A C below args s cells slots r ka' mu' o') (F0 m pc ls [.int v]) := by
  subst hv; subst h1; subst h2; subst h3
  exact W.iret G.1 G.2.1 hr (fun t ht hW => ⟨⟨v, (), rfl, rfl, by show kP _ _ _ _ _ _ t.heap; rw [ht]; exact hP⟩, hS.F ht⟩) hS.2.2 hdg hlocks
theorem k_zret {r v : Int32} {k1 m1 ka' mu' : kM} {o1 o' : Int32} (G : kCtx D A C p s m args c cc nL own) (hr : meth.sig.returnType = some .boolean) (hlocks : meth.locks = false) (hP : kP D A C k1 m1 o1 H) (hS : kS A s H locs) (hn : narrow .boolean (.int v) = .int v) (hv : v = r) (h1 : k1 = ka') (h2 : m1 = mu') (h3 : o1 = o') (hdg : decode cc pc = .ok (.ireturn, 1)) :
    W p l e R s m args below meth c H locs cells slots (kZi D A C below args s cells slots r ka' mu' o') (F0 m pc ls [.int v]) := by
  subst hv; subst h1; subst h2; subst h3
  exact W.zret G.1 G.2.1 hr hn (fun t ht hW => ⟨⟨v, (), rfl, rfl, by show kP _ _ _ _ _ _ t.heap; rw [ht]; exact hP⟩, hS.F ht⟩) hS.2.2 hdg hlocks
theorem k_vret {k1 m1 ka' mu' : kM} {o1 o' : Int32} (G : kCtx D A C p s m args c cc nL own) (hr : meth.sig.returnType = none) (hlocks : meth.locks = false) (hP : kP D A C k1 m1 o1 H) (hS : kS A s H locs) (h1 : k1 = ka') (h2 : m1 = mu') (h3 : o1 = o') (hdg : decode cc pc = .ok (.return_, 1)) :
    W p l e R s m args below meth c H locs cells slots (kZv D A C below args s cells slots ka' mu' o') (F0 m pc ls []) := by
  subst h1; subst h2; subst h3
  exact W.vret G.1 G.2.1 hr (fun t ht hW => ⟨⟨(), rfl, trivial, by show kP _ _ _ _ _ _ t.heap; rw [ht]; exact hP⟩, hS.F ht⟩) hS.2.2 hdg hlocks
/-! fields -/
theorem kf2_i (h1 : 5 ≤ j) (h2 : j < 12) (f : Nat → Int32) : (kf2 A f)[j]? = some (.int (f j)) := by
  rcases (show j = 5 ∨ j = 6 ∨ j = 7 ∨ j = 8 ∨ j = 9 ∨ j = 10 ∨ j = 11 by omega) with rfl | rfl | rfl | rfl | rfl | rfl | rfl <;> rfl
theorem kf2_s (h1 : 5 ≤ j) (h2 : j < 12) (f : Nat → Int32) (v : Int32) : (kf2 A f).set j (.int v) = kf2 A (upd f j v) := by
  rcases (show j = 5 ∨ j = 6 ∨ j = 7 ∨ j = 8 ∨ j = 9 ∨ j = 10 ∨ j = 11 by omega) with rfl | rfl | rfl | rfl | rfl | rfl | rfl <;> simp [kf2, upd]
theorem kf1_i {r : Nat} (h1 : 1 ≤ j) (h2 : j < 10) (f : Nat → Int32) : (kf1 A r f)[j]? = some (.int (f j)) := by
  rcases (show j = 1 ∨ j = 2 ∨ j = 3 ∨ j = 4 ∨ j = 5 ∨ j = 6 ∨ j = 7 ∨ j = 8 ∨ j = 9 by omega) with rfl | rfl | rfl | rfl | rfl | rfl | rfl | rfl | rfl <;> rfl
theorem kf1_s {r : Nat} (h1 : 1 ≤ j) (h2 : j < 10) (f : Nat → Int32) (v : Int32) : (kf1 A r f).set j (.int v) = kf1 A r (upd f j v) := by
  rcases (show j = 1 ∨ j = 2 ∨ j = 3 ∨ j = 4 ∨ j = 5 ∨ j = 6 ∨ j = 7 ∨ j = 8 ∨ j = 9 by omega) with rfl | rfl | rfl | rfl | rfl | rfl | rfl | rfl | rfl <;> simp [kf1, upd]
theorem kf0_i {r : Nat} (h1 : 1 ≤ j) (h2 : j < 10) (f : Nat → Int32) : (kf0 A r f)[j]? = some (.int (f j)) := by
  rcases (show j = 1 ∨ j = 2 ∨ j = 3 ∨ j = 4 ∨ j = 5 ∨ j = 6 ∨ j = 7 ∨ j = 8 ∨ j = 9 by omega) with rfl | rfl | rfl | rfl | rfl | rfl | rfl | rfl | rfl <;> rfl
theorem kf0_s {r : Nat} (h1 : 1 ≤ j) (h2 : j < 10) (f : Nat → Int32) (v : Int32) : (kf0 A r f).set j (.int v) = kf0 A r (upd f j v) := by
  rcases (show j = 1 ∨ j = 2 ∨ j = 3 ∨ j = 4 ∨ j = 5 ∨ j = 6 ∨ j = 7 ∨ j = 8 ∨ j = 9 by omega) with rfl | rfl | rfl | rfl | rfl | rfl | rfl | rfl | rfl <;> simp [kf0, upd]
def k3i (j : Nat) : Prop := j = 0 ∨ j = 12 ∨ j = 24 ∨ j = 25 ∨ j = 26 ∨ j = 27 ∨ j = 28 ∨ j = 29
theorem kf3_i (h : k3i j) (f : Nat → Int32) : (kf3 A f)[j]? = some (.int (f j)) := by
  rcases h with rfl | rfl | rfl | rfl | rfl | rfl | rfl | rfl <;> rfl
theorem kf3_s (h : k3i j) (f : Nat → Int32) (v : Int32) : (kf3 A f).set j (.int v) = kf3 A (upd f j v) := by
  rcases h with rfl | rfl | rfl | rfl | rfl | rfl | rfl | rfl <;> simp [kf3, upd]
theorem kin0 : ∀ w ∈ wsX00, w ∈ kAll := by decide +kernel
theorem kin1 : ∀ w ∈ wsX10, w ∈ kAll := by decide +kernel
theorem kin2 : ∀ w ∈ wsX20, w ∈ kAll := by decide +kernel
theorem kin3 : ∀ w ∈ wsX30, w ∈ kAll := by decide +kernel
theorem kw_X2 : (kw A C ka mu o)[0]? = some (A 0, .inr (2, kf2 A (ka 0))) := by rw [kw_at (by decide)]; rfl
theorem kw_X1 (h : j < 6) : (kw A C ka mu o)[j + 6]? = some (A (j + 6), .inr (1, kf1 A (j + 6) (ka (j + 6)))) := by
  rw [kw_at (by omega), kc_X1 h, krow, if_pos (by omega)]
theorem kw_X0 (h : j < 8) : (kw A C ka mu o)[j + 18]? = some (A (j + 18), .inr (0, kf0 A (j + 18) (ka (j + 18)))) := by
  rw [kw_at (by omega), kc_X0 h, krow, if_pos (by omega)]
theorem kw_X3 : (kw A C ka mu o)[34]? = some (A 34, .inr (3, kf3 A (mu 34))) := by rw [kw_at (by decide)]; rfl
theorem kw_IK {r n : Nat} (h : kI r n) (hr : r < 34) : (kw A C ka mu o)[r]? = some (A r, .inl (C 0, n, .inl (ka r))) := by
  rw [kw_at (by omega), kc_I h, krow, if_pos hr]
theorem kw_IM {r n : Nat} (h : kI r n) (hr : 34 ≤ r) : (kw A C ka mu o)[r]? = some (A r, .inl (C 0, n, .inl (mu r))) := by
  rw [kw_at (Nat.lt_trans h.2.2.2.2.2.2.2.1 (by decide)), kc_I h, krow, if_neg (by omega), if_pos h.2.2.2.2.2.2.2.1]
theorem k2_geti (G : kCtx D A C p s m args c cc nL RX2) (hP : kP D A C ka mu o H) (j : Nat) (h1 : 5 ≤ j) (h2 : j < 12) (hl : Cond.fieldLink RX2 index "PartitionKernel" (TX2 j).2.1 (TX2 j).2.2.1 ∈ kAll) (he : (TX2 j).1 = "PartitionKernel") (hdg : decode cc pc = .ok (.getfield index, 3))
    (kk : W p l e R s m args below meth c H locs cells slots Q (F0 m (pc + 3) ls (.int (ka 0 j) :: rest))) : W p l e R s m args below meth c H locs cells slots Q (F0 m pc ls (.ref (A 0) :: rest)) :=
  va_get (ci := 2) (C := RX2) (T := TX2) (N := 12) G.1 G.2.1 G.2.2.2.2.1 kin2 G.2.2.2.1 G.2.2.2.2.2.1.1 hP 0 kw_X2 rfl j h2 (G.2.2.2.2.1 _ hl) (fun x h => by rw [he] at h; exact h) (kf2_i h1 h2 _) hdg kk
theorem k2_getr (G : kCtx D A C p s m args c cc nL RX2) (hP : kP D A C ka mu o H) (j : Nat) (h2 : j < 5) (hl : Cond.fieldLink RX2 index "PartitionKernel" (TX2 j).2.1 (TX2 j).2.2.1 ∈ kAll) (he : (TX2 j).1 = "PartitionKernel") (hdg : decode cc pc = .ok (.getfield index, 3))
    (kk : W p l e R s m args below meth c H locs cells slots Q (F0 m (pc + 3) ls (.ref (A (j + 1)) :: rest))) : W p l e R s m args below meth c H locs cells slots Q (F0 m pc ls (.ref (A 0) :: rest)) :=
  va_get (ci := 2) (C := RX2) (T := TX2) (N := 12) G.1 G.2.1 G.2.2.2.2.1 kin2 G.2.2.2.1 G.2.2.2.2.2.1.1 hP 0 kw_X2 rfl j (by omega) (G.2.2.2.2.1 _ hl) (fun x h => by rw [he] at h; exact h) (by rcases (show j = 0 ∨ j = 1 ∨ j = 2 ∨ j = 3 ∨ j = 4 by omega) with rfl | rfl | rfl | rfl | rfl <;> rfl) hdg kk
theorem k2_puti (G : kCtx D A C p s m args c cc nL RX2) (hP : kP D A C ka mu o H) (hS : kS A s H locs) (j : Nat) (h1 : 5 ≤ j) (h2 : j < 12) (hl : Cond.fieldLink RX2 index "PartitionKernel" (TX2 j).2.1 (TX2 j).2.2.1 ∈ kAll) (he : (TX2 j).1 = "PartitionKernel") (hf : (TX2 j).2.2.2 = false) {v : Int32} (hn : narrow (tyX2 j) (.int v) = .int v) (hfit : fits (tyX2 j) (.int v) = true) (hdg : decode cc pc = .ok (.putfield index, 3))
    (kk : ∀ (H1 : Heap) (locs1 : List Loc), kP D A C (kup ka 0 j v) mu o H1 → kS A s H1 locs1 → W p l e R s m args below meth c H1 locs1 cells slots Q (F0 m (pc + 3) ls rest)) : W p l e R s m args below meth c H locs cells slots Q (F0 m pc ls (.int v :: .ref (A 0) :: rest)) := by
  refine va_put (ci := 2) (C := RX2) (T := TX2) (N := 12) G.1 G.2.1 G.2.2.2.2.1 kin2 tyX2 tyX2_ok nmX2 G.2.2.2.1 G.2.2.2.2.2.1.1 hP (kD G.2.2.2.2.2.2) hS 0 kw_X2 rfl j h2 (G.2.2.2.2.1 _ hl) (fun x h => by rw [he] at h; exact h) hf (tyX2_ok j h2) hn hfit (by show j < 12; exact h2) hdg (fun H1 locs1 hP1 _ hS1 => kk H1 locs1 ?_ hS1)
  rw [kf2_s h1 h2] at hP1
  show va_P D vwCl (kw A C (va_up ka 0 (upd (ka 0) j v)) mu o) H1
  rw [← kw_setK (by decide)]
  exact hP1
theorem k1_geti (G : kCtx D A C p s m args c cc nL RX1) (hP : kP D A C ka mu o H) {r : Nat} (hr : r < 6) (j : Nat) (h1 : 1 ≤ j) (h2 : j < 10) (hl : Cond.fieldLink RX1 index "PartitionKernel$Partition" (TX1 j).2.1 (TX1 j).2.2.1 ∈ kAll) (he : (TX1 j).1 = "PartitionKernel$Partition") (hdg : decode cc pc = .ok (.getfield index, 3))
    (kk : W p l e R s m args below meth c H locs cells slots Q (F0 m (pc + 3) ls (.int (ka (r + 6) j) :: rest))) : W p l e R s m args below meth c H locs cells slots Q (F0 m pc ls (.ref (A (r + 6)) :: rest)) :=
  va_get (ci := 1) (C := RX1) (T := TX1) (N := 10) G.1 G.2.1 G.2.2.2.2.1 kin1 G.2.2.2.1 G.2.2.2.2.2.1.1 hP (r + 6) (kw_X1 hr) rfl j h2 (G.2.2.2.2.1 _ hl) (fun x h => by rw [he] at h; exact h) (kf1_i h1 h2 _) hdg kk
theorem k1_puti (G : kCtx D A C p s m args c cc nL RX1) (hP : kP D A C ka mu o H) (hS : kS A s H locs) {r : Nat} (hr : r < 6) (j : Nat) (h1 : 1 ≤ j) (h2 : j < 10) (hl : Cond.fieldLink RX1 index "PartitionKernel$Partition" (TX1 j).2.1 (TX1 j).2.2.1 ∈ kAll) (he : (TX1 j).1 = "PartitionKernel$Partition") (hf : (TX1 j).2.2.2 = false) {v : Int32} (hn : narrow (tyX1 j) (.int v) = .int v) (hfit : fits (tyX1 j) (.int v) = true) (hdg : decode cc pc = .ok (.putfield index, 3))
    (kk : ∀ (H1 : Heap) (locs1 : List Loc), kP D A C (kup ka (r + 6) j v) mu o H1 → kS A s H1 locs1 → W p l e R s m args below meth c H1 locs1 cells slots Q (F0 m (pc + 3) ls rest)) : W p l e R s m args below meth c H locs cells slots Q (F0 m pc ls (.int v :: .ref (A (r + 6)) :: rest)) := by
  refine va_put (ci := 1) (C := RX1) (T := TX1) (N := 10) G.1 G.2.1 G.2.2.2.2.1 kin1 tyX1 tyX1_ok nmX1 G.2.2.2.1 G.2.2.2.2.2.1.1 hP (kD G.2.2.2.2.2.2) hS (r + 6) (kw_X1 hr) rfl j h2 (G.2.2.2.2.1 _ hl) (fun x h => by rw [he] at h; exact h) hf (tyX1_ok j h2) hn hfit (by show j < 10; exact h2) hdg (fun H1 locs1 hP1 _ hS1 => kk H1 locs1 ?_ hS1)
  rw [kf1_s h1 h2] at hP1
  show va_P D vwCl (kw A C (va_up ka (r + 6) (upd (ka (r + 6)) j v)) mu o) H1
  rw [← kw_setK (by omega), kc_X1 hr]
  exact hP1
theorem k1_getr (G : kCtx D A C p s m args c cc nL RX1) (hP : kP D A C ka mu o H) {r : Nat} (hr : r < 6) (hl : Cond.fieldLink RX1 index "PartitionKernel$Partition" (TX1 0).2.1 (TX1 0).2.2.1 ∈ kAll) (hdg : decode cc pc = .ok (.getfield index, 3))
    (kk : W p l e R s m args below meth c H locs cells slots Q (F0 m (pc + 3) ls (.ref (A (r + 12)) :: rest))) : W p l e R s m args below meth c H locs cells slots Q (F0 m pc ls (.ref (A (r + 6)) :: rest)) :=
  va_get (ci := 1) (C := RX1) (T := TX1) (N := 10) G.1 G.2.1 G.2.2.2.2.1 kin1 G.2.2.2.1 G.2.2.2.2.2.1.1 hP (r + 6) (kw_X1 hr) rfl 0 (by decide) (G.2.2.2.2.1 _ hl) (fun x h => h) rfl hdg kk
theorem k0_geti (G : kCtx D A C p s m args c cc nL RX0) (hP : kP D A C ka mu o H) {r : Nat} (hr : r < 8) (j : Nat) (h1 : 1 ≤ j) (h2 : j < 10) (hl : Cond.fieldLink RX0 index "PartitionKernel$Channel" (TX0 j).2.1 (TX0 j).2.2.1 ∈ kAll) (he : (TX0 j).1 = "PartitionKernel$Channel") (hdg : decode cc pc = .ok (.getfield index, 3))
    (kk : W p l e R s m args below meth c H locs cells slots Q (F0 m (pc + 3) ls (.int (ka (r + 18) j) :: rest))) : W p l e R s m args below meth c H locs cells slots Q (F0 m pc ls (.ref (A (r + 18)) :: rest)) :=
  va_get (ci := 0) (C := RX0) (T := TX0) (N := 10) G.1 G.2.1 G.2.2.2.2.1 kin0 G.2.2.2.1 G.2.2.2.2.2.1.1 hP (r + 18) (kw_X0 hr) rfl j h2 (G.2.2.2.2.1 _ hl) (fun x h => by rw [he] at h; exact h) (kf0_i h1 h2 _) hdg kk
theorem k0_puti (G : kCtx D A C p s m args c cc nL RX0) (hP : kP D A C ka mu o H) (hS : kS A s H locs) {r : Nat} (hr : r < 8) (j : Nat) (h1 : 1 ≤ j) (h2 : j < 10) (hl : Cond.fieldLink RX0 index "PartitionKernel$Channel" (TX0 j).2.1 (TX0 j).2.2.1 ∈ kAll) (he : (TX0 j).1 = "PartitionKernel$Channel") (hf : (TX0 j).2.2.2 = false) {v : Int32} (hn : narrow (tyX0 j) (.int v) = .int v) (hfit : fits (tyX0 j) (.int v) = true) (hdg : decode cc pc = .ok (.putfield index, 3))
    (kk : ∀ (H1 : Heap) (locs1 : List Loc), kP D A C (kup ka (r + 18) j v) mu o H1 → kS A s H1 locs1 → W p l e R s m args below meth c H1 locs1 cells slots Q (F0 m (pc + 3) ls rest)) : W p l e R s m args below meth c H locs cells slots Q (F0 m pc ls (.int v :: .ref (A (r + 18)) :: rest)) := by
  refine va_put (ci := 0) (C := RX0) (T := TX0) (N := 10) G.1 G.2.1 G.2.2.2.2.1 kin0 tyX0 tyX0_ok nmX0 G.2.2.2.1 G.2.2.2.2.2.1.1 hP (kD G.2.2.2.2.2.2) hS (r + 18) (kw_X0 hr) rfl j h2 (G.2.2.2.2.1 _ hl) (fun x h => by rw [he] at h; exact h) hf (tyX0_ok j h2) hn hfit (by show j < 10; exact h2) hdg (fun H1 locs1 hP1 _ hS1 => kk H1 locs1 ?_ hS1)
  rw [kf0_s h1 h2] at hP1
  show va_P D vwCl (kw A C (va_up ka (r + 18) (upd (ka (r + 18)) j v)) mu o) H1
  rw [← kw_setK (by omega), kc_X0 hr]
  exact hP1
theorem k0_getr (G : kCtx D A C p s m args c cc nL RX0) (hP : kP D A C ka mu o H) {r : Nat} (hr : r < 8) (hl : Cond.fieldLink RX0 index "PartitionKernel$Channel" (TX0 0).2.1 (TX0 0).2.2.1 ∈ kAll) (hdg : decode cc pc = .ok (.getfield index, 3))
    (kk : W p l e R s m args below meth c H locs cells slots Q (F0 m (pc + 3) ls (.ref (A (r + 26)) :: rest))) : W p l e R s m args below meth c H locs cells slots Q (F0 m pc ls (.ref (A (r + 18)) :: rest)) :=
  va_get (ci := 0) (C := RX0) (T := TX0) (N := 10) G.1 G.2.1 G.2.2.2.2.1 kin0 G.2.2.2.1 G.2.2.2.2.2.1.1 hP (r + 18) (kw_X0 hr) rfl 0 (by decide) (G.2.2.2.2.1 _ hl) (fun x h => h) rfl hdg kk
theorem k1N_geti (G : kCtx D A C p s m args c cc nL RX2) (hP : kP D A C ka mu o H) {r : Nat} (hr : r < 6) (j : Nat) (h1 : 1 ≤ j) (h2 : j < 10) (hl : Cond.fieldLinkNest RX2 index "PartitionKernel$Partition" (TX1 j).2.1 (TX1 j).2.2.1 "PartitionKernel" ∈ kNest) (he : (TX1 j).1 = "PartitionKernel$Partition") (hdg : decode cc pc = .ok (.getfield index, 3))
    (kk : W p l e R s m args below meth c H locs cells slots Q (F0 m (pc + 3) ls (.int (ka (r + 6) j) :: rest))) : W p l e R s m args below meth c H locs cells slots Q (F0 m pc ls (.ref (A (r + 6)) :: rest)) :=
  va_getN (ci := 1) (C := RX1) (T := TX1) (N := 10) G.1 G.2.1 G.2.2.2.2.1 kin1 G.2.2.2.1 G.2.2.2.2.2.1.1 hP (r + 6) (kw_X1 hr) rfl j h2 (va_Nw.use rfl (G.2.2.2.2.2.1.2.1 _ hl)) (fun x h => by rw [he] at h; exact h) (kf1_i h1 h2 _) hdg kk
theorem k1N_puti (G : kCtx D A C p s m args c cc nL RX2) (hP : kP D A C ka mu o H) (hS : kS A s H locs) {r : Nat} (hr : r < 6) (j : Nat) (h1 : 1 ≤ j) (h2 : j < 10) (hl : Cond.fieldLinkNest RX2 index "PartitionKernel$Partition" (TX1 j).2.1 (TX1 j).2.2.1 "PartitionKernel" ∈ kNest) (he : (TX1 j).1 = "PartitionKernel$Partition") (hf : (TX1 j).2.2.2 = false) {v : Int32} (hn : narrow (tyX1 j) (.int v) = .int v) (hfit : fits (tyX1 j) (.int v) = true) (hdg : decode cc pc = .ok (.putfield index, 3))
    (kk : ∀ (H1 : Heap) (locs1 : List Loc), kP D A C (kup ka (r + 6) j v) mu o H1 → kS A s H1 locs1 → W p l e R s m args below meth c H1 locs1 cells slots Q (F0 m (pc + 3) ls rest)) : W p l e R s m args below meth c H locs cells slots Q (F0 m pc ls (.int v :: .ref (A (r + 6)) :: rest)) := by
  refine va_putN (ci := 1) (C := RX1) (T := TX1) (N := 10) G.1 G.2.1 G.2.2.2.2.1 kin1 tyX1 tyX1_ok nmX1 G.2.2.2.1 G.2.2.2.2.2.1.1 hP (kD G.2.2.2.2.2.2) hS (r + 6) (kw_X1 hr) rfl j h2 (va_Nw.use rfl (G.2.2.2.2.2.1.2.1 _ hl)) (fun x h => by rw [he] at h; exact h) hf (tyX1_ok j h2) hn hfit (by show j < 10; exact h2) hdg (fun H1 locs1 hP1 _ hS1 => kk H1 locs1 ?_ hS1)
  rw [kf1_s h1 h2] at hP1
  show va_P D vwCl (kw A C (va_up ka (r + 6) (upd (ka (r + 6)) j v)) mu o) H1
  rw [← kw_setK (by omega), kc_X1 hr]
  exact hP1
theorem k1N_getr (G : kCtx D A C p s m args c cc nL RX2) (hP : kP D A C ka mu o H) {r : Nat} (hr : r < 6) (hl : Cond.fieldLinkNest RX2 index "PartitionKernel$Partition" (TX1 0).2.1 (TX1 0).2.2.1 "PartitionKernel" ∈ kNest) (hdg : decode cc pc = .ok (.getfield index, 3))
    (kk : W p l e R s m args below meth c H locs cells slots Q (F0 m (pc + 3) ls (.ref (A (r + 12)) :: rest))) : W p l e R s m args below meth c H locs cells slots Q (F0 m pc ls (.ref (A (r + 6)) :: rest)) :=
  va_getN (ci := 1) (C := RX1) (T := TX1) (N := 10) G.1 G.2.1 G.2.2.2.2.1 kin1 G.2.2.2.1 G.2.2.2.2.2.1.1 hP (r + 6) (kw_X1 hr) rfl 0 (by decide) (va_Nw.use rfl (G.2.2.2.2.2.1.2.1 _ hl)) (fun x h => h) rfl hdg kk
theorem k0N_geti (G : kCtx D A C p s m args c cc nL RX2) (hP : kP D A C ka mu o H) {r : Nat} (hr : r < 8) (j : Nat) (h1 : 1 ≤ j) (h2 : j < 10) (hl : Cond.fieldLinkNest RX2 index "PartitionKernel$Channel" (TX0 j).2.1 (TX0 j).2.2.1 "PartitionKernel" ∈ kNest) (he : (TX0 j).1 = "PartitionKernel$Channel") (hdg : decode cc pc = .ok (.getfield index, 3))
    (kk : W p l e R s m args below meth c H locs cells slots Q (F0 m (pc + 3) ls (.int (ka (r + 18) j) :: rest))) : W p l e R s m args below meth c H locs cells slots Q (F0 m pc ls (.ref (A (r + 18)) :: rest)) :=
  va_getN (ci := 0) (C := RX0) (T := TX0) (N := 10) G.1 G.2.1 G.2.2.2.2.1 kin0 G.2.2.2.1 G.2.2.2.2.2.1.1 hP (r + 18) (kw_X0 hr) rfl j h2 (va_Nw.use rfl (G.2.2.2.2.2.1.2.1 _ hl)) (fun x h => by rw [he] at h; exact h) (kf0_i h1 h2 _) hdg kk
theorem k0N_puti (G : kCtx D A C p s m args c cc nL RX2) (hP : kP D A C ka mu o H) (hS : kS A s H locs) {r : Nat} (hr : r < 8) (j : Nat) (h1 : 1 ≤ j) (h2 : j < 10) (hl : Cond.fieldLinkNest RX2 index "PartitionKernel$Channel" (TX0 j).2.1 (TX0 j).2.2.1 "PartitionKernel" ∈ kNest) (he : (TX0 j).1 = "PartitionKernel$Channel") (hf : (TX0 j).2.2.2 = false) {v : Int32} (hn : narrow (tyX0 j) (.int v) = .int v) (hfit : fits (tyX0 j) (.int v) = true) (hdg : decode cc pc = .ok (.putfield index, 3))
    (kk : ∀ (H1 : Heap) (locs1 : List Loc), kP D A C (kup ka (r + 18) j v) mu o H1 → kS A s H1 locs1 → W p l e R s m args below meth c H1 locs1 cells slots Q (F0 m (pc + 3) ls rest)) : W p l e R s m args below meth c H locs cells slots Q (F0 m pc ls (.int v :: .ref (A (r + 18)) :: rest)) := by
  refine va_putN (ci := 0) (C := RX0) (T := TX0) (N := 10) G.1 G.2.1 G.2.2.2.2.1 kin0 tyX0 tyX0_ok nmX0 G.2.2.2.1 G.2.2.2.2.2.1.1 hP (kD G.2.2.2.2.2.2) hS (r + 18) (kw_X0 hr) rfl j h2 (va_Nw.use rfl (G.2.2.2.2.2.1.2.1 _ hl)) (fun x h => by rw [he] at h; exact h) hf (tyX0_ok j h2) hn hfit (by show j < 10; exact h2) hdg (fun H1 locs1 hP1 _ hS1 => kk H1 locs1 ?_ hS1)
  rw [kf0_s h1 h2] at hP1
  show va_P D vwCl (kw A C (va_up ka (r + 18) (upd (ka (r + 18)) j v)) mu o) H1
  rw [← kw_setK (by omega), kc_X0 hr]
  exact hP1
theorem k0N_getr (G : kCtx D A C p s m args c cc nL RX2) (hP : kP D A C ka mu o H) {r : Nat} (hr : r < 8) (hl : Cond.fieldLinkNest RX2 index "PartitionKernel$Channel" (TX0 0).2.1 (TX0 0).2.2.1 "PartitionKernel" ∈ kNest) (hdg : decode cc pc = .ok (.getfield index, 3))
    (kk : W p l e R s m args below meth c H locs cells slots Q (F0 m (pc + 3) ls (.ref (A (r + 26)) :: rest))) : W p l e R s m args below meth c H locs cells slots Q (F0 m pc ls (.ref (A (r + 18)) :: rest)) :=
  va_getN (ci := 0) (C := RX0) (T := TX0) (N := 10) G.1 G.2.1 G.2.2.2.2.1 kin0 G.2.2.2.1 G.2.2.2.2.2.1.1 hP (r + 18) (kw_X0 hr) rfl 0 (by decide) (va_Nw.use rfl (G.2.2.2.2.2.1.2.1 _ hl)) (fun x h => h) rfl hdg kk
theorem k3_geti (G : kCtx D A C p s m args c cc nL RX3) (hP : kP D A C ka mu o H) (j : Nat) (h : k3i j) (h2 : j < 30) (hl : Cond.fieldLink RX3 index "PartitionKernelModel" (TX3 j).2.1 (TX3 j).2.2.1 ∈ kAll) (he : (TX3 j).1 = "PartitionKernelModel") (hdg : decode cc pc = .ok (.getfield index, 3))
    (kk : W p l e R s m args below meth c H locs cells slots Q (F0 m (pc + 3) ls (.int (mu (34) j) :: rest))) : W p l e R s m args below meth c H locs cells slots Q (F0 m pc ls (.ref (A (34)) :: rest)) :=
  va_get (ci := 3) (C := RX3) (T := TX3) (N := 30) G.1 G.2.1 G.2.2.2.2.1 kin3 G.2.2.2.1 G.2.2.2.2.2.1.1 hP (34) kw_X3 rfl j h2 (G.2.2.2.2.1 _ hl) (fun x h => by rw [he] at h; exact h) (kf3_i h _) hdg kk
theorem k3_puti (G : kCtx D A C p s m args c cc nL RX3) (hP : kP D A C ka mu o H) (hS : kS A s H locs) (j : Nat) (h : k3i j) (h2 : j < 30) (hl : Cond.fieldLink RX3 index "PartitionKernelModel" (TX3 j).2.1 (TX3 j).2.2.1 ∈ kAll) (he : (TX3 j).1 = "PartitionKernelModel") (hf : (TX3 j).2.2.2 = false) {v : Int32} (hn : narrow (tyX3 j) (.int v) = .int v) (hfit : fits (tyX3 j) (.int v) = true) (hdg : decode cc pc = .ok (.putfield index, 3))
    (kk : ∀ (H1 : Heap) (locs1 : List Loc), kP D A C ka (kup mu (34) j v) o H1 → kS A s H1 locs1 → W p l e R s m args below meth c H1 locs1 cells slots Q (F0 m (pc + 3) ls rest)) : W p l e R s m args below meth c H locs cells slots Q (F0 m pc ls (.int v :: .ref (A (34)) :: rest)) := by
  refine va_put (ci := 3) (C := RX3) (T := TX3) (N := 30) G.1 G.2.1 G.2.2.2.2.1 kin3 tyX3 tyX3_ok nmX3 G.2.2.2.1 G.2.2.2.2.2.1.1 hP (kD G.2.2.2.2.2.2) hS (34) kw_X3 rfl j h2 (G.2.2.2.2.1 _ hl) (fun x h => by rw [he] at h; exact h) hf (tyX3_ok j h2) hn hfit (by show j < 30; exact h2) hdg (fun H1 locs1 hP1 _ hS1 => kk H1 locs1 ?_ hS1)
  rw [kf3_s h] at hP1
  show va_P D vwCl (kw A C ka (va_up mu (34) (upd (mu (34)) j v)) o) H1
  rw [← kw_setM (by decide) (by decide), kc_X3]
  exact hP1
theorem k3_getr (G : kCtx D A C p s m args c cc nL RX3) (hP : kP D A C ka mu o H) (j q : Nat) (h2 : j < 30) (hq : ∀ (A : Nat → Nat) (f : Nat → Int32), (kf3 A f)[j]? = some (.ref (A q))) (hl : Cond.fieldLink RX3 index "PartitionKernelModel" (TX3 j).2.1 (TX3 j).2.2.1 ∈ kAll) (he : (TX3 j).1 = "PartitionKernelModel") (hdg : decode cc pc = .ok (.getfield index, 3))
    (kk : W p l e R s m args below meth c H locs cells slots Q (F0 m (pc + 3) ls (.ref (A q) :: rest))) : W p l e R s m args below meth c H locs cells slots Q (F0 m pc ls (.ref (A 34) :: rest)) :=
  va_get (ci := 3) (C := RX3) (T := TX3) (N := 30) G.1 G.2.1 G.2.2.2.2.1 kin3 G.2.2.2.1 G.2.2.2.2.2.1.1 hP 34 kw_X3 rfl j h2 (G.2.2.2.2.1 _ hl) (fun x h => by rw [he] at h; exact h) (hq A _) hdg kk
/-! arrays -/
theorem kK_ald (G : kCtx D A C p s m args c cc nL own) (hP : kP D A C ka mu o H) {r n : Nat} (h : kI r n) (hr : r < 34) {i : Int32} (hin : vp_in i n) (hdg : decode cc pc = .ok (.iaload, 1))
    (kk : W p l e R s m args below meth c H locs cells slots Q (F0 m (pc + 1) ls (.int (ka r i.toNatClampNeg) :: rest))) : W p l e R s m args below meth c H locs cells slots Q (F0 m pc ls (.int i :: .ref (A r) :: rest)) :=
  va_iald G.1 G.2.1 G.2.2.2.2.2.1.1 hP r 0 (kw_IK h hr) rfl hin hdg kk
theorem kM_ald (G : kCtx D A C p s m args c cc nL own) (hP : kP D A C ka mu o H) {r n : Nat} (h : kI r n) (hr : 34 ≤ r) {i : Int32} (hin : vp_in i n) (hdg : decode cc pc = .ok (.iaload, 1))
    (kk : W p l e R s m args below meth c H locs cells slots Q (F0 m (pc + 1) ls (.int (mu r i.toNatClampNeg) :: rest))) : W p l e R s m args below meth c H locs cells slots Q (F0 m pc ls (.int i :: .ref (A r) :: rest)) :=
  va_iald G.1 G.2.1 G.2.2.2.2.2.1.1 hP r 0 (kw_IM h hr) rfl hin hdg kk
theorem kK_ast (G : kCtx D A C p s m args c cc nL own) (hP : kP D A C ka mu o H) (hS : kS A s H locs) {r n : Nat} (h : kI r n) (hr : r < 34) {i x : Int32} (hin : vp_in i n) (hdg : decode cc pc = .ok (.iastore, 1))
    (kk : ∀ (H1 : Heap) (locs1 : List Loc), kP D A C (kup ka r i.toNatClampNeg x) mu o H1 → kS A s H1 locs1 → W p l e R s m args below meth c H1 locs1 cells slots Q (F0 m (pc + 1) ls rest)) : W p l e R s m args below meth c H locs cells slots Q (F0 m pc ls (.int x :: .int i :: .ref (A r) :: rest)) := by
  refine va_iast G.1 G.2.1 G.2.2.2.2.2.1.1 hP (kD G.2.2.2.2.2.2) hS r 0 (kw_IK h hr) rfl hin hdg (fun H1 locs1 hP1 _ hS1 => kk H1 locs1 ?_ hS1)
  show va_P D vwCl (kw A C (va_up ka r (upd (ka r) i.toNatClampNeg x)) mu o) H1
  rw [← kw_setK hr, kc_I h]
  exact hP1
theorem kM_ast (G : kCtx D A C p s m args c cc nL own) (hP : kP D A C ka mu o H) (hS : kS A s H locs) {r n : Nat} (h : kI r n) (hr : 34 ≤ r) {i x : Int32} (hin : vp_in i n) (hdg : decode cc pc = .ok (.iastore, 1))
    (kk : ∀ (H1 : Heap) (locs1 : List Loc), kP D A C ka (kup mu r i.toNatClampNeg x) o H1 → kS A s H1 locs1 → W p l e R s m args below meth c H1 locs1 cells slots Q (F0 m (pc + 1) ls rest)) : W p l e R s m args below meth c H locs cells slots Q (F0 m pc ls (.int x :: .int i :: .ref (A r) :: rest)) := by
  refine va_iast G.1 G.2.1 G.2.2.2.2.2.1.1 hP (kD G.2.2.2.2.2.2) hS r 0 (kw_IM h hr) rfl hin hdg (fun H1 locs1 hP1 _ hS1 => kk H1 locs1 ?_ hS1)
  show va_P D vwCl (kw A C ka (va_up mu r (upd (mu r) i.toNatClampNeg x)) o) H1
  rw [← kw_setM hr h.2.2.2.2.2.2.2.1, kc_I h]
  exact hP1
theorem kw_Z : (kw A C ka mu o)[48]? = some (A 48, .inl (C 4, 8, .inl (mu 48))) := by rw [kw_at (by decide)]; rfl
theorem kZ_ald (G : kCtx D A C p s m args c cc nL own) (hP : kP D A C ka mu o H) {i : Int32} (hin : vp_in i 8) (hdg : decode cc pc = .ok (.baload, 1))
    (kk : W p l e R s m args below meth c H locs cells slots Q (F0 m (pc + 1) ls (.int (mu 48 i.toNatClampNeg) :: rest))) : W p l e R s m args below meth c H locs cells slots Q (F0 m pc ls (.int i :: .ref (A 48) :: rest)) :=
  va_zald G.1 G.2.1 G.2.2.2.2.2.1.1 hP 48 4 kw_Z rfl hin hdg kk
theorem kZ_ast (G : kCtx D A C p s m args c cc nL own) (hP : kP D A C ka mu o H) (hS : kS A s H locs) {i x : Int32} (hx : vp_nar .boolean x = x) (hin : vp_in i 8) (hdg : decode cc pc = .ok (.bastore, 1))
    (kk : ∀ (H1 : Heap) (locs1 : List Loc), kP D A C ka (kup mu 48 i.toNatClampNeg x) o H1 → kS A s H1 locs1 → W p l e R s m args below meth c H1 locs1 cells slots Q (F0 m (pc + 1) ls rest)) : W p l e R s m args below meth c H locs cells slots Q (F0 m pc ls (.int x :: .int i :: .ref (A 48) :: rest)) := by
  refine va_zast G.1 G.2.1 G.2.2.2.2.2.1.1 hP (kD G.2.2.2.2.2.2) hS 48 4 kw_Z rfl hin hdg (fun H1 locs1 hP1 _ hS1 => kk H1 locs1 ?_ hS1)
  show va_P D vwCl (kw A C ka (va_up mu 48 (upd (mu 48) i.toNatClampNeg x)) o) H1
  rw [← kw_setM (by decide) (by decide)]
  rw [hx] at hP1
  exact hP1
theorem kw_PA : (kw A C ka mu o)[2]? = some (A 2, .inl (C 2, 6, .inr (.inr (.inr (.inr (fun i => some (A (i + 6)))))))) := by rw [kw_at (by decide)]; rfl
theorem kw_CA : (kw A C ka mu o)[3]? = some (A 3, .inl (C 3, 8, .inr (.inr (.inr (.inr (fun i => some (A (i + 18)))))))) := by rw [kw_at (by decide)]; rfl
theorem kP_ald (G : kCtx D A C p s m args c cc nL own) (hP : kP D A C ka mu o H) {i : Int32} (hin : vp_in i 6) (hdg : decode cc pc = .ok (.aaload, 1))
    (kk : W p l e R s m args below meth c H locs cells slots Q (F0 m (pc + 1) ls (.ref (A (i.toNatClampNeg + 6)) :: rest))) : W p l e R s m args below meth c H locs cells slots Q (F0 m pc ls (.int i :: .ref (A 2) :: rest)) :=
  va_aldq G.1 G.2.1 G.2.2.2.2.2.1.1 hP 2 2 kw_PA rfl hin hdg kk
theorem kC_ald (G : kCtx D A C p s m args c cc nL own) (hP : kP D A C ka mu o H) {i : Int32} (hin : vp_in i 8) (hdg : decode cc pc = .ok (.aaload, 1))
    (kk : W p l e R s m args below meth c H locs cells slots Q (F0 m (pc + 1) ls (.ref (A (i.toNatClampNeg + 18)) :: rest))) : W p l e R s m args below meth c H locs cells slots Q (F0 m pc ls (.int i :: .ref (A 3) :: rest)) :=
  va_aldq G.1 G.2.1 G.2.2.2.2.2.1.1 hP 3 3 kw_CA rfl hin hdg kk
end KR
end
section
/-! ===== calls of methods that only return ===== -/
section KC
variable {p : Program} {l : Launch} {e : Env} {R : Room} {s : State} {m : MethodId} {args : Array Value} {below : List Frame} {meth : Method} {c : Code} {H : Heap} {locs : List Loc} {cells slots : Nat} {Q : State → Prop}
variable {cc : ByteArray} {nL pc : Nat} {ls : Array Slot} {rest st0 : List Value} {D : va_G} {A : Nat → Nat} {C : Nat → ClassId} {ka mu : kM} {o : Int32} {own : String} {index : Nat}
theorem kr2 (G : kCtx D A C p s m args c cc nL own) (hP : kP D A C ka mu o H) : ∃ cell : Cell, H[A 0]? = some cell ∧ cell.vm.isStatics = false ∧ s.vm.findClass RX2 = some cell.cls := va_recv G.2.2.2.2.2.1.1 hP (ci := 2) (q := (RX2, TX2, 12)) rfl kw_X2
theorem kr1 (G : kCtx D A C p s m args c cc nL own) (hP : kP D A C ka mu o H) {r : Nat} (hr : r < 6) : ∃ cell : Cell, H[A (r + 6)]? = some cell ∧ cell.vm.isStatics = false ∧ s.vm.findClass RX1 = some cell.cls := va_recv G.2.2.2.2.2.1.1 hP (ci := 1) (q := (RX1, TX1, 10)) rfl (kw_X1 hr)
theorem kr0 (G : kCtx D A C p s m args c cc nL own) (hP : kP D A C ka mu o H) {r : Nat} (hr : r < 8) : ∃ cell : Cell, H[A (r + 18)]? = some cell ∧ cell.vm.isStatics = false ∧ s.vm.findClass RX0 = some cell.cls := va_recv G.2.2.2.2.2.1.1 hP (ci := 0) (q := (RX0, TX0, 10)) rfl (kw_X0 hr)
theorem kr3 (G : kCtx D A C p s m args c cc nL own) (hP : kP D A C ka mu o H) : ∃ cell : Cell, H[A 34]? = some cell ∧ cell.vm.isStatics = false ∧ s.vm.findClass RX3 = some cell.cls := va_recv G.2.2.2.2.2.1.1 hP (ci := 3) (q := (RX3, TX3, 30)) rfl kw_X3
/-- what is said of a name: its class, its number of parameters -/
def kYok (y : MethodName) (n : Nat) : Prop := y.cls ≠ "java/lang/invoke/MethodHandle" ∧ y.cls ≠ "java/lang/invoke/VarHandle" ∧ (parseMethodDescriptor y.desc).map (fun d => d.parameters.length) = some n
def kLV (own : String) (i : Nat) (y : MethodName) (w : Cond) : Prop := Cond.methodLink own i y ∈ kAll ∧ Cond.instanceMethod y ∈ kAll ∧ Cond.selects y.cls y y ∈ kAll ∧ Cond.initialized y.cls ∈ kAll ∧ w ∈ kAll
def kLN (own : String) (i : Nat) (y : MethodName) (w : Cond) : Prop := Cond.methodLinkNest own i y "PartitionKernel" ∈ kNest ∧ Cond.instanceMethod y ∈ kAll ∧ Cond.selects y.cls y y ∈ kAll ∧ Cond.initialized y.cls ∈ kAll ∧ w ∈ kAll
def kLS (own : String) (i : Nat) (y : MethodName) (w : Cond) : Prop := Cond.methodLink own i y ∈ kAll ∧ Cond.static y ∈ kAll ∧ Cond.initialized y.cls ∈ kAll ∧ w ∈ kAll
theorem kpre (G : kCtx D A C p s m args c cc nL own) (hP : kP D A C ka mu o H) (hS : kS A s H locs) (av : List Value) : ∀ U : State, U.heap = H → s.WarmedH U.vm → kPre D A C ka mu o H.size av av.toArray U := fun U hU hW => ⟨rfl, by rw [hU], by rw [hU]; exact hP, kE_go G.2.2.2.2.2.1 hS hU hW⟩
section Int
variable {y : MethodName} {b : ByteArray} {n : Nat} {ret : Option FieldType} {rm : Room} {b0 : Nat} {As : List Value} {r : Int32} {ka' mu' : kM} {o' : Int32}
theorem k_runV {Qc : Array Value → State → Outcome → State → Prop} (G : kCtx D A C p s m args c cc nL own) (hP : kP D A C ka mu o H) (hS : kS A s H locs) (hsz : ls.size = nL) (hL : kLV own index y (.code y b n ret)) (hy : kYok y As.length)
    (hM : Met l y (.code y b n ret :: kAll) rm (kPre D A C ka mu o H.size (.ref b0 :: As)) Qc rm.cells rm.slots (kA A H.size))
    (hrv : ∃ cell : Cell, H[b0]? = some cell ∧ cell.vm.isStatics = false ∧ s.vm.findClass y.cls = some cell.cls) (hR : rm.frames + 1 ≤ R.frames ∧ 8 + (n + 11) + rm.locals ≤ R.locals) (hf : cells + rm.cells ≤ R.cells ∧ slots + rm.slots ≤ R.slots)
    (hst : st0 = As.reverse ++ .ref b0 :: rest) (hW : (rest.map fun v => v.category).sum ≤ 8) (hdg : decode cc pc = .ok (.invokevirtual index, 3)) : va_Run p l e R s m args below meth c H locs cells slots rm.cells rm.slots (F0 m pc ls st0) rest (Qc (Value.ref b0 :: As).toArray) (kA A H.size) :=
  va_runV (As := As) (rest := rest) ⟨G.1, G.2.1, G.2.2.1, G.2.2.2.1, G.2.2.2.2.1⟩ hM (cwV As.length G.2.2.2.2.1 (kgoodV (fun _ h => h) hL.1 hL.2.1 hL.2.2.1 hL.2.2.2.1 hL.2.2.2.2) rfl rfl rfl ⟨rfl, hy⟩ hR) ⟨kPre_blind, hrv, kpre G hP hS _⟩ rfl rfl hsz hst (lv_room hW) hdg hf
theorem k_runN {Qc : Array Value → State → Outcome → State → Prop} (G : kCtx D A C p s m args c cc nL own) (hP : kP D A C ka mu o H) (hS : kS A s H locs) (hsz : ls.size = nL) (hL : kLN own index y (.code y b n ret)) (hy : kYok y As.length)
    (hM : Met l y (.code y b n ret :: kAll) rm (kPre D A C ka mu o H.size (.ref b0 :: As)) Qc rm.cells rm.slots (kA A H.size))
    (hrv : ∃ cell : Cell, H[b0]? = some cell ∧ cell.vm.isStatics = false ∧ s.vm.findClass y.cls = some cell.cls) (hR : rm.frames + 1 ≤ R.frames ∧ 8 + (n + 11) + rm.locals ≤ R.locals) (hf : cells + rm.cells ≤ R.cells ∧ slots + rm.slots ≤ R.slots)
    (hst : st0 = As.reverse ++ .ref b0 :: rest) (hW : (rest.map fun v => v.category).sum ≤ 8) (hdg : decode cc pc = .ok (.invokevirtual index, 3)) : va_Run p l e R s m args below meth c H locs cells slots rm.cells rm.slots (F0 m pc ls st0) rest (Qc (Value.ref b0 :: As).toArray) (kA A H.size) :=
  va_runVN (host := "PartitionKernel") (As := As) (rest := rest) ⟨G.1, G.2.1, G.2.2.1, G.2.2.2.1, G.2.2.2.2.1⟩ hM ⟨va_cnB As.length G.2.2.2.2.1 (kgood1 hL.2.2.2.2 (fun _ h => h) (kgoodA (fun _ h => h))) rfl rfl rfl (G.2.2.2.2.2.1.2.1 _ hL.1) (G.2.2.2.2.1 _ hL.2.2.2.1) hy hR, G.2.2.2.2.1 _ hL.2.1, G.2.2.2.2.1 _ hL.2.2.1⟩ ⟨kPre_blind, hrv, kpre G hP hS _⟩ rfl rfl hsz hst (lv_room hW) hdg hf
theorem k_runS {Qc : Array Value → State → Outcome → State → Prop} (G : kCtx D A C p s m args c cc nL own) (hP : kP D A C ka mu o H) (hS : kS A s H locs) (hsz : ls.size = nL) (hL : kLS own index y (.code y b n ret)) (hy : kYok y As.length)
    (hM : Met l y (.code y b n ret :: kAll) rm (kPre D A C ka mu o H.size As) Qc rm.cells rm.slots (kA A H.size))
    (hR : rm.frames + 1 ≤ R.frames ∧ 8 + (n + 11) + rm.locals ≤ R.locals) (hf : cells + rm.cells ≤ R.cells ∧ slots + rm.slots ≤ R.slots)
    (hst : st0 = As.reverse ++ rest) (hW : (rest.map fun v => v.category).sum ≤ 8) (hdg : decode cc pc = .ok (.invokestatic index, 3)) : va_Run p l e R s m args below meth c H locs cells slots rm.cells rm.slots (F0 m pc ls st0) rest (Qc As.toArray) (kA A H.size) :=
  va_runS (As := As) (rest := rest) ⟨G.1, G.2.1, G.2.2.1, G.2.2.2.1, G.2.2.2.2.1⟩ hM (va_cwS As.length G.2.2.2.2.1 (kgoodS (fun _ h => h) hL.1 hL.2.1 hL.2.2.1 hL.2.2.2) rfl rfl rfl hy hR) ⟨kPre_blind, kpre G hP hS _⟩ rfl rfl hsz hst (lv_room hW) hdg hf
theorem k_goi {a : Array Value} (hS : kS A s H locs) (hr : va_Run p l e R s m args below meth c H locs cells slots rm.cells rm.slots (F0 m pc ls st0) rest (va_Qi (fun (x : Int32) (_ : Unit) => x = r) (fun _ t => kP D A C ka' mu' o' t.heap) (kA A H.size) a) (kA A H.size))
    (kk : ∀ (H1 : Heap) (locs1 : List Loc), kP D A C ka' mu' o' H1 → kS A s H1 locs1 → W p l e R s m args below meth c H1 locs1 (cells + rm.cells) (slots + rm.slots) Q (F0 m (pc + 3) ls (.int r :: rest))) : W p l e R s m args below meth c H locs cells slots Q (F0 m pc ls st0) := by
  refine va_calli hr hS (fun q _ h => kA_mono hS.1 q h) (fun q h => kA_mono hS.1 q h) (fun x _ t H1 locs1 ht _ hx hB _ _ hS1 => ?_)
  subst hx
  exact kk H1 locs1 (by rw [← ht]; exact hB) hS1
theorem k_gov {a : Array Value} (hS : kS A s H locs) (hr : va_Run p l e R s m args below meth c H locs cells slots rm.cells rm.slots (F0 m pc ls st0) rest (va_Qv (fun (_ : Unit) => True) (fun _ t => kP D A C ka' mu' o' t.heap) (kA A H.size) a) (kA A H.size))
    (kk : ∀ (H1 : Heap) (locs1 : List Loc), kP D A C ka' mu' o' H1 → kS A s H1 locs1 → W p l e R s m args below meth c H1 locs1 (cells + rm.cells) (slots + rm.slots) Q (F0 m (pc + 3) ls rest)) : W p l e R s m args below meth c H locs cells slots Q (F0 m pc ls st0) := by
  refine va_callv hr hS (fun q _ h => kA_mono hS.1 q h) (fun q h => kA_mono hS.1 q h) (fun _ t H1 locs1 ht _ _ hB _ _ hS1 => ?_)
  exact kk H1 locs1 (by rw [← ht]; exact hB) hS1
theorem k_Vi (G : kCtx D A C p s m args c cc nL own) (hP : kP D A C ka mu o H) (hS : kS A s H locs) (hsz : ls.size = nL) (hL : kLV own index y (.code y b n ret)) (hy : kYok y As.length) (hM : kMi l y (.code y b n ret) rm D A C ka mu o H.size (.ref b0 :: As) r ka' mu' o')
    (hrv : ∃ cell : Cell, H[b0]? = some cell ∧ cell.vm.isStatics = false ∧ s.vm.findClass y.cls = some cell.cls) (hR : rm.frames + 1 ≤ R.frames ∧ 8 + (n + 11) + rm.locals ≤ R.locals) (hf : cells + rm.cells ≤ R.cells ∧ slots + rm.slots ≤ R.slots) (hst : st0 = As.reverse ++ .ref b0 :: rest) (hW : (rest.map fun v => v.category).sum ≤ 8) (hdg : decode cc pc = .ok (.invokevirtual index, 3))
    (kk : ∀ (H1 : Heap) (locs1 : List Loc), kP D A C ka' mu' o' H1 → kS A s H1 locs1 → W p l e R s m args below meth c H1 locs1 (cells + rm.cells) (slots + rm.slots) Q (F0 m (pc + 3) ls (.int r :: rest))) : W p l e R s m args below meth c H locs cells slots Q (F0 m pc ls st0) := k_goi hS (k_runV G hP hS hsz hL hy hM hrv hR hf hst hW hdg) kk
theorem k_Vv (G : kCtx D A C p s m args c cc nL own) (hP : kP D A C ka mu o H) (hS : kS A s H locs) (hsz : ls.size = nL) (hL : kLV own index y (.code y b n none)) (hy : kYok y As.length) (hM : kMv l y (.code y b n none) rm D A C ka mu o H.size (.ref b0 :: As) ka' mu' o')
    (hrv : ∃ cell : Cell, H[b0]? = some cell ∧ cell.vm.isStatics = false ∧ s.vm.findClass y.cls = some cell.cls) (hR : rm.frames + 1 ≤ R.frames ∧ 8 + (n + 11) + rm.locals ≤ R.locals) (hf : cells + rm.cells ≤ R.cells ∧ slots + rm.slots ≤ R.slots) (hst : st0 = As.reverse ++ .ref b0 :: rest) (hW : (rest.map fun v => v.category).sum ≤ 8) (hdg : decode cc pc = .ok (.invokevirtual index, 3))
    (kk : ∀ (H1 : Heap) (locs1 : List Loc), kP D A C ka' mu' o' H1 → kS A s H1 locs1 → W p l e R s m args below meth c H1 locs1 (cells + rm.cells) (slots + rm.slots) Q (F0 m (pc + 3) ls rest)) : W p l e R s m args below meth c H locs cells slots Q (F0 m pc ls st0) := k_gov hS (k_runV G hP hS hsz hL hy hM hrv hR hf hst hW hdg) kk
theorem k_Ni (G : kCtx D A C p s m args c cc nL own) (hP : kP D A C ka mu o H) (hS : kS A s H locs) (hsz : ls.size = nL) (hL : kLN own index y (.code y b n ret)) (hy : kYok y As.length) (hM : kMi l y (.code y b n ret) rm D A C ka mu o H.size (.ref b0 :: As) r ka' mu' o')
    (hrv : ∃ cell : Cell, H[b0]? = some cell ∧ cell.vm.isStatics = false ∧ s.vm.findClass y.cls = some cell.cls) (hR : rm.frames + 1 ≤ R.frames ∧ 8 + (n + 11) + rm.locals ≤ R.locals) (hf : cells + rm.cells ≤ R.cells ∧ slots + rm.slots ≤ R.slots) (hst : st0 = As.reverse ++ .ref b0 :: rest) (hW : (rest.map fun v => v.category).sum ≤ 8) (hdg : decode cc pc = .ok (.invokevirtual index, 3))
    (kk : ∀ (H1 : Heap) (locs1 : List Loc), kP D A C ka' mu' o' H1 → kS A s H1 locs1 → W p l e R s m args below meth c H1 locs1 (cells + rm.cells) (slots + rm.slots) Q (F0 m (pc + 3) ls (.int r :: rest))) : W p l e R s m args below meth c H locs cells slots Q (F0 m pc ls st0) := k_goi hS (k_runN G hP hS hsz hL hy hM hrv hR hf hst hW hdg) kk
theorem k_Nv (G : kCtx D A C p s m args c cc nL own) (hP : kP D A C ka mu o H) (hS : kS A s H locs) (hsz : ls.size = nL) (hL : kLN own index y (.code y b n none)) (hy : kYok y As.length) (hM : kMv l y (.code y b n none) rm D A C ka mu o H.size (.ref b0 :: As) ka' mu' o')
    (hrv : ∃ cell : Cell, H[b0]? = some cell ∧ cell.vm.isStatics = false ∧ s.vm.findClass y.cls = some cell.cls) (hR : rm.frames + 1 ≤ R.frames ∧ 8 + (n + 11) + rm.locals ≤ R.locals) (hf : cells + rm.cells ≤ R.cells ∧ slots + rm.slots ≤ R.slots) (hst : st0 = As.reverse ++ .ref b0 :: rest) (hW : (rest.map fun v => v.category).sum ≤ 8) (hdg : decode cc pc = .ok (.invokevirtual index, 3))
    (kk : ∀ (H1 : Heap) (locs1 : List Loc), kP D A C ka' mu' o' H1 → kS A s H1 locs1 → W p l e R s m args below meth c H1 locs1 (cells + rm.cells) (slots + rm.slots) Q (F0 m (pc + 3) ls rest)) : W p l e R s m args below meth c H locs cells slots Q (F0 m pc ls st0) := k_gov hS (k_runN G hP hS hsz hL hy hM hrv hR hf hst hW hdg) kk
theorem k_Si (G : kCtx D A C p s m args c cc nL own) (hP : kP D A C ka mu o H) (hS : kS A s H locs) (hsz : ls.size = nL) (hL : kLS own index y (.code y b n ret)) (hy : kYok y As.length) (hM : kMi l y (.code y b n ret) rm D A C ka mu o H.size As r ka' mu' o')
    (hR : rm.frames + 1 ≤ R.frames ∧ 8 + (n + 11) + rm.locals ≤ R.locals) (hf : cells + rm.cells ≤ R.cells ∧ slots + rm.slots ≤ R.slots) (hst : st0 = As.reverse ++ rest) (hW : (rest.map fun v => v.category).sum ≤ 8) (hdg : decode cc pc = .ok (.invokestatic index, 3))
    (kk : ∀ (H1 : Heap) (locs1 : List Loc), kP D A C ka' mu' o' H1 → kS A s H1 locs1 → W p l e R s m args below meth c H1 locs1 (cells + rm.cells) (slots + rm.slots) Q (F0 m (pc + 3) ls (.int r :: rest))) : W p l e R s m args below meth c H locs cells slots Q (F0 m pc ls st0) := k_goi hS (k_runS G hP hS hsz hL hy hM hR hf hst hW hdg) kk
theorem k_Sv (G : kCtx D A C p s m args c cc nL own) (hP : kP D A C ka mu o H) (hS : kS A s H locs) (hsz : ls.size = nL) (hL : kLS own index y (.code y b n none)) (hy : kYok y As.length) (hM : kMv l y (.code y b n none) rm D A C ka mu o H.size As ka' mu' o')
    (hR : rm.frames + 1 ≤ R.frames ∧ 8 + (n + 11) + rm.locals ≤ R.locals) (hf : cells + rm.cells ≤ R.cells ∧ slots + rm.slots ≤ R.slots) (hst : st0 = As.reverse ++ rest) (hW : (rest.map fun v => v.category).sum ≤ 8) (hdg : decode cc pc = .ok (.invokestatic index, 3))
    (kk : ∀ (H1 : Heap) (locs1 : List Loc), kP D A C ka' mu' o' H1 → kS A s H1 locs1 → W p l e R s m args below meth c H1 locs1 (cells + rm.cells) (slots + rm.slots) Q (F0 m (pc + 3) ls rest)) : W p l e R s m args below meth c H locs cells slots Q (F0 m pc ls st0) := k_gov hS (k_runS G hP hS hsz hL hy hM hR hf hst hW hdg) kk
end Int
end KC
end
section
/-! ===== small rows ===== -/
theorem kx_lt {i : Int32} {n : Nat} (h : vp_in i n) : i.toNatClampNeg < n := Nat.not_le.mp fun q => h (Or.inr q)
theorem kI_1 : kI 1 512 := by unfold kI; decide
theorem kI_4 : kI 4 12 := by unfold kI; decide
theorem kI_5 : kI 5 12 := by unfold kI; decide
theorem kI_35 : kI 35 512 := by unfold kI; decide
theorem kI_36 : kI 36 6 := by unfold kI; decide
theorem kI_37 : kI 37 6 := by unfold kI; decide
theorem kI_38 : kI 38 6 := by unfold kI; decide
theorem kI_39 : kI 39 6 := by unfold kI; decide
theorem kI_40 : kI 40 6 := by unfold kI; decide
theorem kI_41 : kI 41 24 := by unfold kI; decide
theorem kI_42 : kI 42 6 := by unfold kI; decide
theorem kI_43 : kI 43 6 := by unfold kI; decide
theorem kI_44 : kI 44 6 := by unfold kI; decide
theorem kI_45 : kI 45 6 := by unfold kI; decide
theorem kI_46 : kI 46 12 := by unfold kI; decide
theorem kI_47 : kI 47 12 := by unfold kI; decide
theorem kI_49 : kI 49 8 := by unfold kI; decide
theorem kI_50 : kI 50 8 := by unfold kI; decide
theorem kI_51 : kI 51 8 := by unfold kI; decide
theorem kI_52 : kI 52 64 := by unfold kI; decide
theorem kI_53 : kI 53 8 := by unfold kI; decide
theorem kI_54 : kI 54 8 := by unfold kI; decide
theorem kI_55 : kI 55 8 := by unfold kI; decide
theorem kI_56 : kI 56 8 := by unfold kI; decide
theorem ki_lt {x y : Int32} : x < y ↔ x.toInt < y.toInt := Int32.lt_iff_toInt_lt
theorem ki_le {x y : Int32} : x ≤ y ↔ x.toInt ≤ y.toInt := Int32.le_iff_toInt_le
theorem ki_eq {x y : Int32} : x = y ↔ x.toInt = y.toInt := Int32.toInt_inj.symm
theorem ki_lo (x : Int32) : -2147483648 ≤ x.toInt := by have := Int32.le_toInt x; omega
theorem ki_hi (x : Int32) : x.toInt < 2147483648 := by have := Int32.toInt_lt x; omega
/-- an index that two tests have held against 0 and n -/
theorem kin_of {x N : Int32} {n : Nat} (hN : N.toInt = n) (h0 : ¬ x < 0) (h1 : ¬ N ≤ x) : vp_in x n := by
  rw [vp_in_iff]
  rw [ki_lt, show (0 : Int32).toInt = 0 from rfl] at h0
  rw [ki_le, hN] at h1
  omega
theorem kin_le {x N : Int32} {n : Nat} (hN : N.toInt + 1 = n) (h0 : ¬ x < 0) (h1 : ¬ N < x) : vp_in x n := by
  rw [vp_in_iff]
  rw [ki_lt, show (0 : Int32).toInt = 0 from rfl] at h0
  rw [ki_lt] at h1
  omega
theorem kin_and7 (x : Int32) : vp_in (x &&& 7) 8 := pk_andIn x 3 rfl (by decide)
theorem kin_and3 (x : Int32) : vp_in (x &&& 3) 4 := pk_andIn x 2 rfl (by decide)
theorem ki_add {x y : Int32} (h1 : -2147483648 ≤ x.toInt + y.toInt) (h2 : x.toInt + y.toInt < 2147483648) : (x + y).toInt = x.toInt + y.toInt := by
  rw [Int32.toInt_add]; exact Int.bmod_eq_of_le (by omega) (by omega)
theorem ki_sub {x y : Int32} (h1 : -2147483648 ≤ x.toInt - y.toInt) (h2 : x.toInt - y.toInt < 2147483648) : (x - y).toInt = x.toInt - y.toInt := by
  rw [Int32.toInt_sub]; exact Int.bmod_eq_of_le (by omega) (by omega)
theorem ki_mul {x y : Int32} (h1 : -2147483648 ≤ x.toInt * y.toInt) (h2 : x.toInt * y.toInt < 2147483648) : (x * y).toInt = x.toInt * y.toInt := by
  rw [Int32.toInt_mul]; exact Int.bmod_eq_of_le (by omega) (by omega)
theorem kin_report {x : Int32} (h1 : ¬ x < 2) (h2 : ¬ 5 < x) : vp_in (x - 2) 4 := by
  rw [ki_lt, show (2 : Int32).toInt = 2 from rfl] at h1
  rw [ki_lt, show (5 : Int32).toInt = 5 from rfl] at h2
  rw [vp_in_iff, ki_sub (by rw [show (2 : Int32).toInt = 2 from rfl]; omega) (by rw [show (2 : Int32).toInt = 2 from rfl]; omega), show (2 : Int32).toInt = 2 from rfl]
  omega
section KL
variable {p : Program} {l : Launch} {e : Env} {R : Room} {s : State} {m : MethodId} {args : Array Value} {below : List Frame} {meth : Method} {c : Code} {H : Heap} {locs : List Loc} {cells slots : Nat} {Q : State → Prop}
variable {cc : ByteArray} {nL pc : Nat} {ls : Array Slot} {rest : List Value} {D : va_G} {A : Nat → Nat} {C : Nat → ClassId} {ka mu : kM} {o : Int32} {own : String}
theorem kK_len (G : kCtx D A C p s m args c cc nL own) (hP : kP D A C ka mu o H) {r n : Nat} (h : kI r n) (hr : r < 34) {v : Int32} (hv : Int32.ofNat n = v) (hdg : decode cc pc = .ok (.arraylength, 1))
    (kk : W p l e R s m args below meth c H locs cells slots Q (F0 m (pc + 1) ls (.int v :: rest))) : W p l e R s m args below meth c H locs cells slots Q (F0 m pc ls (.ref (A r) :: rest)) :=
  va_alen G.1 G.2.1 G.2.2.2.2.2.1.1 hP r 0 (kw_IK h hr) rfl hv hdg kk
end KL
/-- a partition's region lies in memory -/
def kB (ka : kM) (j : Nat) : Prop := 0 ≤ (ka (j + 6) 2).toInt ∧ 0 ≤ (ka (j + 6) 3).toInt ∧ (ka (j + 6) 2).toInt + (ka (j + 6) 3).toInt ≤ 512
def kInv (ka : kM) : Prop := vp_in (ka 0 8) 12 ∧ (∀ i, i < 12 → ka 4 i = -1 ∨ vp_in (ka 4 i) 6) ∧ (∀ j, j < 6 → kB ka j) ∧ 0 ≤ (ka 0 5).toInt ∧ (ka 0 5).toInt ≤ 12
theorem kin_memo {b n i : Int32} (h0 : 0 ≤ b.toInt) (h1 : b.toInt + n.toInt ≤ 512) (g0 : ¬ i < 0) (g1 : ¬ n ≤ i) : vp_in (b + i) 512 := by
  rw [ki_lt, show (0 : Int32).toInt = 0 from rfl] at g0
  rw [ki_le] at g1
  rw [vp_in_iff, ki_add (by omega) (by omega)]
  omega
theorem kq_0 : Cond.selects "PartitionKernel" ⟨"PartitionKernel", "refuseIfSealed", "()V"⟩ ⟨"PartitionKernel", "refuseIfSealed", "()V"⟩ ∈ kAll := kmem 0 (by decide +kernel) (by decide +kernel)
theorem kq_2 : Cond.selects "PartitionKernel$Partition" ⟨"PartitionKernel$Partition", "isTold", "()Z"⟩ ⟨"PartitionKernel$Partition", "isTold", "()Z"⟩ ∈ kAll := kmem 2 (by decide +kernel) (by decide +kernel)
theorem kq_3 : Cond.selects "PartitionKernel" ⟨"PartitionKernel", "sharesWord", "(II)Z"⟩ ⟨"PartitionKernel", "sharesWord", "(II)Z"⟩ ∈ kAll := kmem 3 (by decide +kernel) (by decide +kernel)
theorem kq_4 : Cond.selects "PartitionKernel$Partition" ⟨"PartitionKernel$Partition", "meets", "(II)Z"⟩ ⟨"PartitionKernel$Partition", "meets", "(II)Z"⟩ ∈ kAll := kmem 4 (by decide +kernel) (by decide +kernel)
theorem kq_5 : Cond.selects "PartitionKernel$Partition" ⟨"PartitionKernel$Partition", "tell", "(IIII)V"⟩ ⟨"PartitionKernel$Partition", "tell", "(IIII)V"⟩ ∈ kAll := kmem 5 (by decide +kernel) (by decide +kernel)
theorem kq_6 : Cond.selects "PartitionKernel" ⟨"PartitionKernel", "refuseUnlessTold", "(I)V"⟩ ⟨"PartitionKernel", "refuseUnlessTold", "(I)V"⟩ ∈ kAll := kmem 6 (by decide +kernel) (by decide +kernel)
theorem kq_7 : Cond.selects "PartitionKernel$Channel" ⟨"PartitionKernel$Channel", "tell", "(III)V"⟩ ⟨"PartitionKernel$Channel", "tell", "(III)V"⟩ ∈ kAll := kmem 7 (by decide +kernel) (by decide +kernel)
theorem kq_8 : Cond.selects "PartitionKernel" ⟨"PartitionKernel", "addressOf", "(II)I"⟩ ⟨"PartitionKernel", "addressOf", "(II)I"⟩ ∈ kAll := kmem 8 (by decide +kernel) (by decide +kernel)
theorem kq_9 : Cond.selects "PartitionKernel$Partition" ⟨"PartitionKernel$Partition", "holds", "(I)Z"⟩ ⟨"PartitionKernel$Partition", "holds", "(I)Z"⟩ ∈ kAll := kmem 9 (by decide +kernel) (by decide +kernel)
theorem kq_10 : Cond.selects "PartitionKernel" ⟨"PartitionKernel", "goOneTick", "()Z"⟩ ⟨"PartitionKernel", "goOneTick", "()Z"⟩ ∈ kAll := kmem 10 (by decide +kernel) (by decide +kernel)
theorem kq_11 : Cond.selects "PartitionKernel" ⟨"PartitionKernel", "runInstruction", "(I)V"⟩ ⟨"PartitionKernel", "runInstruction", "(I)V"⟩ ∈ kAll := kmem 11 (by decide +kernel) (by decide +kernel)
theorem kq_12 : Cond.selects "PartitionKernel" ⟨"PartitionKernel", "perform", "(II)I"⟩ ⟨"PartitionKernel", "perform", "(II)I"⟩ ∈ kAll := kmem 12 (by decide +kernel) (by decide +kernel)
theorem kq_13 : Cond.selects "PartitionKernel" ⟨"PartitionKernel", "load", "(LPartitionKernel$Partition;II)I"⟩ ⟨"PartitionKernel", "load", "(LPartitionKernel$Partition;II)I"⟩ ∈ kAll := kmem 13 (by decide +kernel) (by decide +kernel)
theorem kq_14 : Cond.selects "PartitionKernel" ⟨"PartitionKernel", "store", "(LPartitionKernel$Partition;II)I"⟩ ⟨"PartitionKernel", "store", "(LPartitionKernel$Partition;II)I"⟩ ∈ kAll := kmem 14 (by decide +kernel) (by decide +kernel)
theorem kq_15 : Cond.selects "PartitionKernel$Partition" ⟨"PartitionKernel$Partition", "jumpIf", "(ZI)V"⟩ ⟨"PartitionKernel$Partition", "jumpIf", "(ZI)V"⟩ ∈ kAll := kmem 15 (by decide +kernel) (by decide +kernel)
theorem kq_16 : Cond.selects "PartitionKernel" ⟨"PartitionKernel", "send", "(IIII)I"⟩ ⟨"PartitionKernel", "send", "(IIII)I"⟩ ∈ kAll := kmem 16 (by decide +kernel) (by decide +kernel)
theorem kq_17 : Cond.selects "PartitionKernel" ⟨"PartitionKernel", "isChannel", "(I)Z"⟩ ⟨"PartitionKernel", "isChannel", "(I)Z"⟩ ∈ kAll := kmem 17 (by decide +kernel) (by decide +kernel)
theorem kq_18 : Cond.selects "PartitionKernel$Channel" ⟨"PartitionKernel$Channel", "put", "(II)Z"⟩ ⟨"PartitionKernel$Channel", "put", "(II)Z"⟩ ∈ kAll := kmem 18 (by decide +kernel) (by decide +kernel)
theorem kq_19 : Cond.selects "PartitionKernel$Channel" ⟨"PartitionKernel$Channel", "isSlot", "()Z"⟩ ⟨"PartitionKernel$Channel", "isSlot", "()Z"⟩ ∈ kAll := kmem 19 (by decide +kernel) (by decide +kernel)
theorem kq_20 : Cond.selects "PartitionKernel$Channel" ⟨"PartitionKernel$Channel", "spotOf", "(I)I"⟩ ⟨"PartitionKernel$Channel", "spotOf", "(I)I"⟩ ∈ kAll := kmem 20 (by decide +kernel) (by decide +kernel)
theorem kq_21 : Cond.selects "PartitionKernel" ⟨"PartitionKernel", "take", "(IIII)I"⟩ ⟨"PartitionKernel", "take", "(IIII)I"⟩ ∈ kAll := kmem 21 (by decide +kernel) (by decide +kernel)
theorem kq_22 : Cond.selects "PartitionKernel$Channel" ⟨"PartitionKernel$Channel", "wordAt", "(I)I"⟩ ⟨"PartitionKernel$Channel", "wordAt", "(I)I"⟩ ∈ kAll := kmem 22 (by decide +kernel) (by decide +kernel)
theorem kq_23 : Cond.selects "PartitionKernel$Channel" ⟨"PartitionKernel$Channel", "age", "(I)I"⟩ ⟨"PartitionKernel$Channel", "age", "(I)I"⟩ ∈ kAll := kmem 23 (by decide +kernel) (by decide +kernel)
theorem kq_24 : Cond.selects "PartitionKernel$Channel" ⟨"PartitionKernel$Channel", "dropTaken", "()V"⟩ ⟨"PartitionKernel$Channel", "dropTaken", "()V"⟩ ∈ kAll := kmem 24 (by decide +kernel) (by decide +kernel)
theorem kq_25 : Cond.selects "PartitionKernel$Partition" ⟨"PartitionKernel$Partition", "restartAfter", "(I)Z"⟩ ⟨"PartitionKernel$Partition", "restartAfter", "(I)Z"⟩ ∈ kAll := kmem 25 (by decide +kernel) (by decide +kernel)
theorem kq_26 : Cond.selects "PartitionKernel" ⟨"PartitionKernel", "moveWindowOn", "()V"⟩ ⟨"PartitionKernel", "moveWindowOn", "()V"⟩ ∈ kAll := kmem 26 (by decide +kernel) (by decide +kernel)
theorem kq_27 : Cond.selects "PartitionKernel$Partition" ⟨"PartitionKernel$Partition", "report", "(I)I"⟩ ⟨"PartitionKernel$Partition", "report", "(I)I"⟩ ∈ kAll := kmem 27 (by decide +kernel) (by decide +kernel)
theorem kq_28 : Cond.selects "PartitionKernel$Channel" ⟨"PartitionKernel$Channel", "report", "(II)I"⟩ ⟨"PartitionKernel$Channel", "report", "(II)I"⟩ ∈ kAll := kmem 28 (by decide +kernel) (by decide +kernel)
theorem kq_38 : Cond.initialized "PartitionKernel" ∈ kAll := kmem 38 (by decide +kernel) (by decide +kernel)
theorem kq_39 : Cond.initialized "PartitionKernel$Partition" ∈ kAll := kmem 39 (by decide +kernel) (by decide +kernel)
theorem kq_40 : Cond.initialized "PartitionKernel$Channel" ∈ kAll := kmem 40 (by decide +kernel) (by decide +kernel)
theorem kq_48 : Cond.initialized "java/lang/Math" ∈ kAll := kmem 48 (by decide +kernel) (by decide +kernel)
theorem kq_49 : Cond.initialized "java/util/Arrays" ∈ kAll := kmem 49 (by decide +kernel) (by decide +kernel)
theorem kq_65 : Cond.fieldLink "PartitionKernel$Partition" 9 "PartitionKernel$Partition" "registers" "[I" ∈ kAll := kmem 65 (by decide +kernel) (by decide +kernel)
theorem kq_66 : Cond.fieldLinkNest "PartitionKernel" 176 "PartitionKernel$Partition" "registers" "[I" "PartitionKernel" ∈ kNest := knmem 66 (by decide +kernel) (by decide +kernel)
theorem kq_67 : Cond.fieldLink "PartitionKernel$Partition" 15 "PartitionKernel$Partition" "state" "I" ∈ kAll := kmem 67 (by decide +kernel) (by decide +kernel)
theorem kq_68 : Cond.fieldLinkNest "PartitionKernel" 152 "PartitionKernel$Partition" "state" "I" "PartitionKernel" ∈ kNest := knmem 68 (by decide +kernel) (by decide +kernel)
theorem kq_69 : Cond.fieldLink "PartitionKernel$Partition" 19 "PartitionKernel$Partition" "base" "I" ∈ kAll := kmem 69 (by decide +kernel) (by decide +kernel)
theorem kq_70 : Cond.fieldLinkNest "PartitionKernel" 146 "PartitionKernel$Partition" "base" "I" "PartitionKernel" ∈ kNest := knmem 70 (by decide +kernel) (by decide +kernel)
theorem kq_71 : Cond.fieldLink "PartitionKernel$Partition" 22 "PartitionKernel$Partition" "length" "I" ∈ kAll := kmem 71 (by decide +kernel) (by decide +kernel)
theorem kq_72 : Cond.fieldLink "PartitionKernel$Partition" 25 "PartitionKernel$Partition" "entry" "I" ∈ kAll := kmem 72 (by decide +kernel) (by decide +kernel)
theorem kq_73 : Cond.fieldLink "PartitionKernel$Partition" 28 "PartitionKernel$Partition" "place" "I" ∈ kAll := kmem 73 (by decide +kernel) (by decide +kernel)
theorem kq_74 : Cond.fieldLinkNest "PartitionKernel" 164 "PartitionKernel$Partition" "place" "I" "PartitionKernel" ∈ kNest := knmem 74 (by decide +kernel) (by decide +kernel)
theorem kq_75 : Cond.fieldLink "PartitionKernel$Partition" 50 "PartitionKernel$Partition" "done" "I" ∈ kAll := kmem 75 (by decide +kernel) (by decide +kernel)
theorem kq_76 : Cond.fieldLinkNest "PartitionKernel" 170 "PartitionKernel$Partition" "done" "I" "PartitionKernel" ∈ kNest := knmem 76 (by decide +kernel) (by decide +kernel)
theorem kq_77 : Cond.fieldLink "PartitionKernel$Partition" 31 "PartitionKernel$Partition" "restartsLeft" "I" ∈ kAll := kmem 77 (by decide +kernel) (by decide +kernel)
theorem kq_78 : Cond.fieldLink "PartitionKernel$Partition" 38 "PartitionKernel$Partition" "lastFault" "I" ∈ kAll := kmem 78 (by decide +kernel) (by decide +kernel)
theorem kq_79 : Cond.fieldLink "PartitionKernel$Partition" 41 "PartitionKernel$Partition" "faults" "I" ∈ kAll := kmem 79 (by decide +kernel) (by decide +kernel)
theorem kq_109 : Cond.fieldLink "PartitionKernel$Channel" 9 "PartitionKernel$Channel" "words" "[I" ∈ kAll := kmem 109 (by decide +kernel) (by decide +kernel)
theorem kq_110 : Cond.fieldLink "PartitionKernel$Channel" 15 "PartitionKernel$Channel" "isTold" "Z" ∈ kAll := kmem 110 (by decide +kernel) (by decide +kernel)
theorem kq_111 : Cond.fieldLinkNest "PartitionKernel" 75 "PartitionKernel$Channel" "isTold" "Z" "PartitionKernel" ∈ kNest := knmem 111 (by decide +kernel) (by decide +kernel)
theorem kq_112 : Cond.fieldLink "PartitionKernel$Channel" 19 "PartitionKernel$Channel" "from" "I" ∈ kAll := kmem 112 (by decide +kernel) (by decide +kernel)
theorem kq_113 : Cond.fieldLinkNest "PartitionKernel" 200 "PartitionKernel$Channel" "from" "I" "PartitionKernel" ∈ kNest := knmem 113 (by decide +kernel) (by decide +kernel)
theorem kq_114 : Cond.fieldLink "PartitionKernel$Channel" 23 "PartitionKernel$Channel" "to" "I" ∈ kAll := kmem 114 (by decide +kernel) (by decide +kernel)
theorem kq_115 : Cond.fieldLinkNest "PartitionKernel" 206 "PartitionKernel$Channel" "to" "I" "PartitionKernel" ∈ kNest := knmem 115 (by decide +kernel) (by decide +kernel)
theorem kq_116 : Cond.fieldLink "PartitionKernel$Channel" 26 "PartitionKernel$Channel" "room" "I" ∈ kAll := kmem 116 (by decide +kernel) (by decide +kernel)
theorem kq_117 : Cond.fieldLink "PartitionKernel$Channel" 49 "PartitionKernel$Channel" "first" "I" ∈ kAll := kmem 117 (by decide +kernel) (by decide +kernel)
theorem kq_118 : Cond.fieldLink "PartitionKernel$Channel" 33 "PartitionKernel$Channel" "count" "I" ∈ kAll := kmem 118 (by decide +kernel) (by decide +kernel)
theorem kq_119 : Cond.fieldLinkNest "PartitionKernel" 209 "PartitionKernel$Channel" "count" "I" "PartitionKernel" ∈ kNest := knmem 119 (by decide +kernel) (by decide +kernel)
theorem kq_120 : Cond.fieldLink "PartitionKernel$Channel" 36 "PartitionKernel$Channel" "cameAt" "I" ∈ kAll := kmem 120 (by decide +kernel) (by decide +kernel)
theorem kq_121 : Cond.fieldLink "PartitionKernel$Channel" 46 "PartitionKernel$Channel" "came" "I" ∈ kAll := kmem 121 (by decide +kernel) (by decide +kernel)
theorem kq_122 : Cond.fieldLink "PartitionKernel$Channel" 43 "PartitionKernel$Channel" "refused" "I" ∈ kAll := kmem 122 (by decide +kernel) (by decide +kernel)
theorem kq_144 : Cond.fieldLink "PartitionKernel" 9 "PartitionKernel" "memory" "[I" ∈ kAll := kmem 144 (by decide +kernel) (by decide +kernel)
theorem kq_145 : Cond.fieldLink "PartitionKernel" 15 "PartitionKernel" "partitions" "[LPartitionKernel$Partition;" ∈ kAll := kmem 145 (by decide +kernel) (by decide +kernel)
theorem kq_146 : Cond.fieldLink "PartitionKernel" 22 "PartitionKernel" "channels" "[LPartitionKernel$Channel;" ∈ kAll := kmem 146 (by decide +kernel) (by decide +kernel)
theorem kq_147 : Cond.fieldLink "PartitionKernel" 27 "PartitionKernel" "windowOwners" "[I" ∈ kAll := kmem 147 (by decide +kernel) (by decide +kernel)
theorem kq_148 : Cond.fieldLink "PartitionKernel" 30 "PartitionKernel" "windowLengths" "[I" ∈ kAll := kmem 148 (by decide +kernel) (by decide +kernel)
theorem kq_149 : Cond.fieldLink "PartitionKernel" 66 "PartitionKernel" "windowCount" "I" ∈ kAll := kmem 149 (by decide +kernel) (by decide +kernel)
theorem kq_150 : Cond.fieldLink "PartitionKernel" 72 "PartitionKernel" "frameTicks" "I" ∈ kAll := kmem 150 (by decide +kernel) (by decide +kernel)
theorem kq_151 : Cond.fieldLink "PartitionKernel" 94 "PartitionKernel" "sealed" "Z" ∈ kAll := kmem 151 (by decide +kernel) (by decide +kernel)
theorem kq_152 : Cond.fieldLink "PartitionKernel" 129 "PartitionKernel" "windowAtHand" "I" ∈ kAll := kmem 152 (by decide +kernel) (by decide +kernel)
theorem kq_153 : Cond.fieldLink "PartitionKernel" 161 "PartitionKernel" "ticksIntoWindow" "I" ∈ kAll := kmem 153 (by decide +kernel) (by decide +kernel)
theorem kq_154 : Cond.fieldLink "PartitionKernel" 149 "PartitionKernel" "yielded" "Z" ∈ kAll := kmem 154 (by decide +kernel) (by decide +kernel)
theorem kq_155 : Cond.fieldLink "PartitionKernel" 116 "PartitionKernel" "ticksDone" "I" ∈ kAll := kmem 155 (by decide +kernel) (by decide +kernel)
theorem kq_198 : Cond.methodLink "PartitionKernel" 33 ⟨"PartitionKernel", "refuseIfSealed", "()V"⟩ ∈ kAll := kmem 198 (by decide +kernel) (by decide +kernel)
theorem kq_200 : Cond.instanceMethod ⟨"PartitionKernel", "refuseIfSealed", "()V"⟩ ∈ kAll := kmem 200 (by decide +kernel) (by decide +kernel)
theorem kq_201 : Cond.code ⟨"PartitionKernel", "refuseIfSealed", "()V"⟩ prog_1_method_14_code 1 (Option.none) ∈ kAll := kmem 201 (by decide +kernel) (by decide +kernel)
theorem kq_270 : Cond.methodLinkNest "PartitionKernel" 36 ⟨"PartitionKernel$Partition", "isTold", "()Z"⟩ "PartitionKernel" ∈ kNest := knmem 270 (by decide +kernel) (by decide +kernel)
theorem kq_272 : Cond.instanceMethod ⟨"PartitionKernel$Partition", "isTold", "()Z"⟩ ∈ kAll := kmem 272 (by decide +kernel) (by decide +kernel)
theorem kq_273 : Cond.code ⟨"PartitionKernel$Partition", "isTold", "()Z"⟩ prog_3_method_3_code 1 (Option.some FieldType.boolean) ∈ kAll := kmem 273 (by decide +kernel) (by decide +kernel)
theorem kq_290 : Cond.methodLink "PartitionKernel" 47 ⟨"PartitionKernel", "isInMemory", "(II)Z"⟩ ∈ kAll := kmem 290 (by decide +kernel) (by decide +kernel)
theorem kq_291 : Cond.static ⟨"PartitionKernel", "isInMemory", "(II)Z"⟩ ∈ kAll := kmem 291 (by decide +kernel) (by decide +kernel)
theorem kq_292 : Cond.code ⟨"PartitionKernel", "isInMemory", "(II)Z"⟩ prog_1_method_17_code 2 (Option.some FieldType.boolean) ∈ kAll := kmem 292 (by decide +kernel) (by decide +kernel)
theorem kq_293 : Cond.methodLink "PartitionKernel" 51 ⟨"PartitionKernel", "sharesWord", "(II)Z"⟩ ∈ kAll := kmem 293 (by decide +kernel) (by decide +kernel)
theorem kq_295 : Cond.instanceMethod ⟨"PartitionKernel", "sharesWord", "(II)Z"⟩ ∈ kAll := kmem 295 (by decide +kernel) (by decide +kernel)
theorem kq_296 : Cond.code ⟨"PartitionKernel", "sharesWord", "(II)Z"⟩ prog_1_method_18_code 4 (Option.some FieldType.boolean) ∈ kAll := kmem 296 (by decide +kernel) (by decide +kernel)
theorem kq_297 : Cond.methodLinkNest "PartitionKernel" 135 ⟨"PartitionKernel$Partition", "meets", "(II)Z"⟩ "PartitionKernel" ∈ kNest := knmem 297 (by decide +kernel) (by decide +kernel)
theorem kq_299 : Cond.instanceMethod ⟨"PartitionKernel$Partition", "meets", "(II)Z"⟩ ∈ kAll := kmem 299 (by decide +kernel) (by decide +kernel)
theorem kq_300 : Cond.code ⟨"PartitionKernel$Partition", "meets", "(II)Z"⟩ prog_3_method_5_code 3 (Option.some FieldType.boolean) ∈ kAll := kmem 300 (by decide +kernel) (by decide +kernel)
theorem kq_301 : Cond.methodLink "PartitionKernel$Partition" 34 ⟨"PartitionKernel$Partition", "isTold", "()Z"⟩ ∈ kAll := kmem 301 (by decide +kernel) (by decide +kernel)
theorem kq_304 : Cond.methodLinkNest "PartitionKernel" 58 ⟨"PartitionKernel$Partition", "tell", "(IIII)V"⟩ "PartitionKernel" ∈ kNest := knmem 304 (by decide +kernel) (by decide +kernel)
theorem kq_306 : Cond.instanceMethod ⟨"PartitionKernel$Partition", "tell", "(IIII)V"⟩ ∈ kAll := kmem 306 (by decide +kernel) (by decide +kernel)
theorem kq_307 : Cond.code ⟨"PartitionKernel$Partition", "tell", "(IIII)V"⟩ prog_3_method_2_code 5 (Option.none) ∈ kAll := kmem 307 (by decide +kernel) (by decide +kernel)
theorem kq_315 : Cond.methodLink "PartitionKernel" 62 ⟨"PartitionKernel", "refuseUnlessTold", "(I)V"⟩ ∈ kAll := kmem 315 (by decide +kernel) (by decide +kernel)
theorem kq_317 : Cond.instanceMethod ⟨"PartitionKernel", "refuseUnlessTold", "(I)V"⟩ ∈ kAll := kmem 317 (by decide +kernel) (by decide +kernel)
theorem kq_318 : Cond.code ⟨"PartitionKernel", "refuseUnlessTold", "(I)V"⟩ prog_1_method_15_code 2 (Option.none) ∈ kAll := kmem 318 (by decide +kernel) (by decide +kernel)
theorem kq_330 : Cond.methodLinkNest "PartitionKernel" 82 ⟨"PartitionKernel$Channel", "tell", "(III)V"⟩ "PartitionKernel" ∈ kNest := knmem 330 (by decide +kernel) (by decide +kernel)
theorem kq_332 : Cond.instanceMethod ⟨"PartitionKernel$Channel", "tell", "(III)V"⟩ ∈ kAll := kmem 332 (by decide +kernel) (by decide +kernel)
theorem kq_333 : Cond.code ⟨"PartitionKernel$Channel", "tell", "(III)V"⟩ prog_2_method_2_code 4 (Option.none) ∈ kAll := kmem 333 (by decide +kernel) (by decide +kernel)
theorem kq_342 : Cond.methodLink "PartitionKernel" 85 ⟨"PartitionKernel", "addressOf", "(II)I"⟩ ∈ kAll := kmem 342 (by decide +kernel) (by decide +kernel)
theorem kq_344 : Cond.instanceMethod ⟨"PartitionKernel", "addressOf", "(II)I"⟩ ∈ kAll := kmem 344 (by decide +kernel) (by decide +kernel)
theorem kq_345 : Cond.code ⟨"PartitionKernel", "addressOf", "(II)I"⟩ prog_1_method_19_code 3 (Option.some FieldType.int) ∈ kAll := kmem 345 (by decide +kernel) (by decide +kernel)
theorem kq_346 : Cond.methodLinkNest "PartitionKernel" 138 ⟨"PartitionKernel$Partition", "holds", "(I)Z"⟩ "PartitionKernel" ∈ kNest := knmem 346 (by decide +kernel) (by decide +kernel)
theorem kq_348 : Cond.instanceMethod ⟨"PartitionKernel$Partition", "holds", "(I)Z"⟩ ∈ kAll := kmem 348 (by decide +kernel) (by decide +kernel)
theorem kq_349 : Cond.code ⟨"PartitionKernel$Partition", "holds", "(I)Z"⟩ prog_3_method_4_code 2 (Option.some FieldType.boolean) ∈ kAll := kmem 349 (by decide +kernel) (by decide +kernel)
theorem kq_390 : Cond.methodLink "PartitionKernel" 101 ⟨"PartitionKernel", "goOneTick", "()Z"⟩ ∈ kAll := kmem 390 (by decide +kernel) (by decide +kernel)
theorem kq_392 : Cond.instanceMethod ⟨"PartitionKernel", "goOneTick", "()Z"⟩ ∈ kAll := kmem 392 (by decide +kernel) (by decide +kernel)
theorem kq_393 : Cond.code ⟨"PartitionKernel", "goOneTick", "()Z"⟩ prog_1_method_20_code 3 (Option.some FieldType.boolean) ∈ kAll := kmem 393 (by decide +kernel) (by decide +kernel)
theorem kq_394 : Cond.methodLink "PartitionKernel" 155 ⟨"PartitionKernel", "runInstruction", "(I)V"⟩ ∈ kAll := kmem 394 (by decide +kernel) (by decide +kernel)
theorem kq_396 : Cond.instanceMethod ⟨"PartitionKernel", "runInstruction", "(I)V"⟩ ∈ kAll := kmem 396 (by decide +kernel) (by decide +kernel)
theorem kq_397 : Cond.code ⟨"PartitionKernel", "runInstruction", "(I)V"⟩ prog_1_method_22_code 5 (Option.none) ∈ kAll := kmem 397 (by decide +kernel) (by decide +kernel)
theorem kq_398 : Cond.methodLink "PartitionKernel" 167 ⟨"PartitionKernel", "perform", "(II)I"⟩ ∈ kAll := kmem 398 (by decide +kernel) (by decide +kernel)
theorem kq_400 : Cond.instanceMethod ⟨"PartitionKernel", "perform", "(II)I"⟩ ∈ kAll := kmem 400 (by decide +kernel) (by decide +kernel)
theorem kq_401 : Cond.code ⟨"PartitionKernel", "perform", "(II)I"⟩ prog_1_method_23_code 8 (Option.some FieldType.int) ∈ kAll := kmem 401 (by decide +kernel) (by decide +kernel)
theorem kq_402 : Cond.methodLink "PartitionKernel" 179 ⟨"PartitionKernel", "load", "(LPartitionKernel$Partition;II)I"⟩ ∈ kAll := kmem 402 (by decide +kernel) (by decide +kernel)
theorem kq_404 : Cond.instanceMethod ⟨"PartitionKernel", "load", "(LPartitionKernel$Partition;II)I"⟩ ∈ kAll := kmem 404 (by decide +kernel) (by decide +kernel)
theorem kq_405 : Cond.code ⟨"PartitionKernel", "load", "(LPartitionKernel$Partition;II)I"⟩ prog_1_method_25_code 4 (Option.some FieldType.int) ∈ kAll := kmem 405 (by decide +kernel) (by decide +kernel)
theorem kq_406 : Cond.methodLink "PartitionKernel" 183 ⟨"PartitionKernel", "store", "(LPartitionKernel$Partition;II)I"⟩ ∈ kAll := kmem 406 (by decide +kernel) (by decide +kernel)
theorem kq_408 : Cond.instanceMethod ⟨"PartitionKernel", "store", "(LPartitionKernel$Partition;II)I"⟩ ∈ kAll := kmem 408 (by decide +kernel) (by decide +kernel)
theorem kq_409 : Cond.code ⟨"PartitionKernel", "store", "(LPartitionKernel$Partition;II)I"⟩ prog_1_method_26_code 4 (Option.some FieldType.int) ∈ kAll := kmem 409 (by decide +kernel) (by decide +kernel)
theorem kq_410 : Cond.methodLinkNest "PartitionKernel" 186 ⟨"PartitionKernel$Partition", "jumpIf", "(ZI)V"⟩ "PartitionKernel" ∈ kNest := knmem 410 (by decide +kernel) (by decide +kernel)
theorem kq_412 : Cond.instanceMethod ⟨"PartitionKernel$Partition", "jumpIf", "(ZI)V"⟩ ∈ kAll := kmem 412 (by decide +kernel) (by decide +kernel)
theorem kq_413 : Cond.code ⟨"PartitionKernel$Partition", "jumpIf", "(ZI)V"⟩ prog_3_method_6_code 3 (Option.none) ∈ kAll := kmem 413 (by decide +kernel) (by decide +kernel)
theorem kq_414 : Cond.methodLink "PartitionKernel" 190 ⟨"PartitionKernel", "send", "(IIII)I"⟩ ∈ kAll := kmem 414 (by decide +kernel) (by decide +kernel)
theorem kq_416 : Cond.instanceMethod ⟨"PartitionKernel", "send", "(IIII)I"⟩ ∈ kAll := kmem 416 (by decide +kernel) (by decide +kernel)
theorem kq_417 : Cond.code ⟨"PartitionKernel", "send", "(IIII)I"⟩ prog_1_method_27_code 6 (Option.some FieldType.int) ∈ kAll := kmem 417 (by decide +kernel) (by decide +kernel)
theorem kq_418 : Cond.methodLink "PartitionKernel" 110 ⟨"PartitionKernel", "isChannel", "(I)Z"⟩ ∈ kAll := kmem 418 (by decide +kernel) (by decide +kernel)
theorem kq_420 : Cond.instanceMethod ⟨"PartitionKernel", "isChannel", "(I)Z"⟩ ∈ kAll := kmem 420 (by decide +kernel) (by decide +kernel)
theorem kq_421 : Cond.code ⟨"PartitionKernel", "isChannel", "(I)Z"⟩ prog_1_method_16_code 2 (Option.some FieldType.boolean) ∈ kAll := kmem 421 (by decide +kernel) (by decide +kernel)
theorem kq_422 : Cond.methodLinkNest "PartitionKernel" 203 ⟨"PartitionKernel$Channel", "put", "(II)Z"⟩ "PartitionKernel" ∈ kNest := knmem 422 (by decide +kernel) (by decide +kernel)
theorem kq_424 : Cond.instanceMethod ⟨"PartitionKernel$Channel", "put", "(II)Z"⟩ ∈ kAll := kmem 424 (by decide +kernel) (by decide +kernel)
theorem kq_425 : Cond.code ⟨"PartitionKernel$Channel", "put", "(II)Z"⟩ prog_2_method_4_code 3 (Option.some FieldType.boolean) ∈ kAll := kmem 425 (by decide +kernel) (by decide +kernel)
theorem kq_426 : Cond.methodLink "PartitionKernel$Channel" 29 ⟨"PartitionKernel$Channel", "isSlot", "()Z"⟩ ∈ kAll := kmem 426 (by decide +kernel) (by decide +kernel)
theorem kq_428 : Cond.instanceMethod ⟨"PartitionKernel$Channel", "isSlot", "()Z"⟩ ∈ kAll := kmem 428 (by decide +kernel) (by decide +kernel)
theorem kq_429 : Cond.code ⟨"PartitionKernel$Channel", "isSlot", "()Z"⟩ prog_2_method_3_code 1 (Option.some FieldType.boolean) ∈ kAll := kmem 429 (by decide +kernel) (by decide +kernel)
theorem kq_430 : Cond.methodLink "PartitionKernel$Channel" 39 ⟨"PartitionKernel$Channel", "spotOf", "(I)I"⟩ ∈ kAll := kmem 430 (by decide +kernel) (by decide +kernel)
theorem kq_432 : Cond.instanceMethod ⟨"PartitionKernel$Channel", "spotOf", "(I)I"⟩ ∈ kAll := kmem 432 (by decide +kernel) (by decide +kernel)
theorem kq_433 : Cond.code ⟨"PartitionKernel$Channel", "spotOf", "(I)I"⟩ prog_2_method_7_code 2 (Option.some FieldType.int) ∈ kAll := kmem 433 (by decide +kernel) (by decide +kernel)
theorem kq_434 : Cond.methodLink "PartitionKernel" 194 ⟨"PartitionKernel", "take", "(IIII)I"⟩ ∈ kAll := kmem 434 (by decide +kernel) (by decide +kernel)
theorem kq_436 : Cond.instanceMethod ⟨"PartitionKernel", "take", "(IIII)I"⟩ ∈ kAll := kmem 436 (by decide +kernel) (by decide +kernel)
theorem kq_437 : Cond.code ⟨"PartitionKernel", "take", "(IIII)I"⟩ prog_1_method_28_code 7 (Option.some FieldType.int) ∈ kAll := kmem 437 (by decide +kernel) (by decide +kernel)
theorem kq_438 : Cond.methodLinkNest "PartitionKernel" 126 ⟨"PartitionKernel$Channel", "wordAt", "(I)I"⟩ "PartitionKernel" ∈ kNest := knmem 438 (by decide +kernel) (by decide +kernel)
theorem kq_440 : Cond.instanceMethod ⟨"PartitionKernel$Channel", "wordAt", "(I)I"⟩ ∈ kAll := kmem 440 (by decide +kernel) (by decide +kernel)
theorem kq_441 : Cond.code ⟨"PartitionKernel$Channel", "wordAt", "(I)I"⟩ prog_2_method_6_code 2 (Option.some FieldType.int) ∈ kAll := kmem 441 (by decide +kernel) (by decide +kernel)
theorem kq_442 : Cond.methodLinkNest "PartitionKernel" 123 ⟨"PartitionKernel$Channel", "isSlot", "()Z"⟩ "PartitionKernel" ∈ kNest := knmem 442 (by decide +kernel) (by decide +kernel)
theorem kq_443 : Cond.methodLinkNest "PartitionKernel" 212 ⟨"PartitionKernel$Channel", "age", "(I)I"⟩ "PartitionKernel" ∈ kNest := knmem 443 (by decide +kernel) (by decide +kernel)
theorem kq_445 : Cond.instanceMethod ⟨"PartitionKernel$Channel", "age", "(I)I"⟩ ∈ kAll := kmem 445 (by decide +kernel) (by decide +kernel)
theorem kq_446 : Cond.code ⟨"PartitionKernel$Channel", "age", "(I)I"⟩ prog_2_method_8_code 2 (Option.some FieldType.int) ∈ kAll := kmem 446 (by decide +kernel) (by decide +kernel)
theorem kq_447 : Cond.constant "PartitionKernel$Channel" 52 1000000 ∈ kAll := kmem 447 (by decide +kernel) (by decide +kernel)
theorem kq_448 : Cond.methodLink "PartitionKernel$Channel" 53 ⟨"java/lang/Math", "min", "(II)I"⟩ ∈ kAll := kmem 448 (by decide +kernel) (by decide +kernel)
theorem kq_449 : Cond.static ⟨"java/lang/Math", "min", "(II)I"⟩ ∈ kAll := kmem 449 (by decide +kernel) (by decide +kernel)
theorem kq_450 : Cond.code ⟨"java/lang/Math", "min", "(II)I"⟩ Lib.Math.min.code 2 (Option.some FieldType.int) ∈ kAll := kmem 450 (by decide +kernel) (by decide +kernel)
theorem kq_451 : Cond.methodLinkNest "PartitionKernel" 215 ⟨"PartitionKernel$Channel", "dropTaken", "()V"⟩ "PartitionKernel" ∈ kNest := knmem 451 (by decide +kernel) (by decide +kernel)
theorem kq_453 : Cond.instanceMethod ⟨"PartitionKernel$Channel", "dropTaken", "()V"⟩ ∈ kAll := kmem 453 (by decide +kernel) (by decide +kernel)
theorem kq_454 : Cond.code ⟨"PartitionKernel$Channel", "dropTaken", "()V"⟩ prog_2_method_5_code 1 (Option.none) ∈ kAll := kmem 454 (by decide +kernel) (by decide +kernel)
theorem kq_455 : Cond.methodLink "PartitionKernel" 197 ⟨"PartitionKernel", "computed", "(IIII)I"⟩ ∈ kAll := kmem 455 (by decide +kernel) (by decide +kernel)
theorem kq_456 : Cond.static ⟨"PartitionKernel", "computed", "(IIII)I"⟩ ∈ kAll := kmem 456 (by decide +kernel) (by decide +kernel)
theorem kq_457 : Cond.code ⟨"PartitionKernel", "computed", "(IIII)I"⟩ prog_1_method_24_code 4 (Option.some FieldType.int) ∈ kAll := kmem 457 (by decide +kernel) (by decide +kernel)
theorem kq_458 : Cond.methodLinkNest "PartitionKernel" 173 ⟨"PartitionKernel$Partition", "restartAfter", "(I)Z"⟩ "PartitionKernel" ∈ kNest := knmem 458 (by decide +kernel) (by decide +kernel)
theorem kq_460 : Cond.instanceMethod ⟨"PartitionKernel$Partition", "restartAfter", "(I)Z"⟩ ∈ kAll := kmem 460 (by decide +kernel) (by decide +kernel)
theorem kq_461 : Cond.code ⟨"PartitionKernel$Partition", "restartAfter", "(I)Z"⟩ prog_3_method_7_code 2 (Option.some FieldType.boolean) ∈ kAll := kmem 461 (by decide +kernel) (by decide +kernel)
theorem kq_462 : Cond.methodLink "PartitionKernel$Partition" 44 ⟨"java/util/Arrays", "fill", "([II)V"⟩ ∈ kAll := kmem 462 (by decide +kernel) (by decide +kernel)
theorem kq_463 : Cond.static ⟨"java/util/Arrays", "fill", "([II)V"⟩ ∈ kAll := kmem 463 (by decide +kernel) (by decide +kernel)
theorem kq_464 : Cond.code ⟨"java/util/Arrays", "fill", "([II)V"⟩ prog_14_method_103_code 4 (Option.none) ∈ kAll := kmem 464 (by decide +kernel) (by decide +kernel)
theorem kq_465 : Cond.methodLink "PartitionKernel" 158 ⟨"PartitionKernel", "moveWindowOn", "()V"⟩ ∈ kAll := kmem 465 (by decide +kernel) (by decide +kernel)
theorem kq_467 : Cond.instanceMethod ⟨"PartitionKernel", "moveWindowOn", "()V"⟩ ∈ kAll := kmem 467 (by decide +kernel) (by decide +kernel)
theorem kq_468 : Cond.code ⟨"PartitionKernel", "moveWindowOn", "()V"⟩ prog_1_method_21_code 1 (Option.none) ∈ kAll := kmem 468 (by decide +kernel) (by decide +kernel)
theorem kq_477 : Cond.methodLinkNest "PartitionKernel" 106 ⟨"PartitionKernel$Partition", "report", "(I)I"⟩ "PartitionKernel" ∈ kNest := knmem 477 (by decide +kernel) (by decide +kernel)
theorem kq_479 : Cond.instanceMethod ⟨"PartitionKernel$Partition", "report", "(I)I"⟩ ∈ kAll := kmem 479 (by decide +kernel) (by decide +kernel)
theorem kq_480 : Cond.code ⟨"PartitionKernel$Partition", "report", "(I)I"⟩ prog_3_method_8_code 2 (Option.some FieldType.int) ∈ kAll := kmem 480 (by decide +kernel) (by decide +kernel)
theorem kq_489 : Cond.methodLinkNest "PartitionKernel" 119 ⟨"PartitionKernel$Channel", "report", "(II)I"⟩ "PartitionKernel" ∈ kNest := knmem 489 (by decide +kernel) (by decide +kernel)
theorem kq_491 : Cond.instanceMethod ⟨"PartitionKernel$Channel", "report", "(II)I"⟩ ∈ kAll := kmem 491 (by decide +kernel) (by decide +kernel)
theorem kq_492 : Cond.code ⟨"PartitionKernel$Channel", "report", "(II)I"⟩ prog_2_method_9_code 3 (Option.some FieldType.int) ∈ kAll := kmem 492 (by decide +kernel) (by decide +kernel)
theorem kq_493 : Cond.methodLink "PartitionKernel$Channel" 59 ⟨"PartitionKernel$Channel", "wordAt", "(I)I"⟩ ∈ kAll := kmem 493 (by decide +kernel) (by decide +kernel)
theorem kq_494 : Cond.methodLink "PartitionKernel$Channel" 62 ⟨"PartitionKernel$Channel", "age", "(I)I"⟩ ∈ kAll := kmem 494 (by decide +kernel) (by decide +kernel)
theorem kl_X0_29 : kLV RX0 29 yX0_isSlot (.code yX0_isSlot cX0_isSlot 1 (some .boolean)) := ⟨kq_426, kq_428, kq_19, kq_40, kq_429⟩
theorem kl_X0_39 : kLV RX0 39 yX0_spotOf (.code yX0_spotOf cX0_spotOf 2 (some .int)) := ⟨kq_430, kq_432, kq_20, kq_40, kq_433⟩
theorem kl_X0_59 : kLV RX0 59 yX0_wordAt (.code yX0_wordAt cX0_wordAt 2 (some .int)) := ⟨kq_493, kq_440, kq_22, kq_40, kq_441⟩
theorem kl_X0_62 : kLV RX0 62 yX0_age (.code yX0_age cX0_age 2 (some .int)) := ⟨kq_494, kq_445, kq_23, kq_40, kq_446⟩
theorem kl_X1_34 : kLV RX1 34 yX1_isTold (.code yX1_isTold cX1_isTold 1 (some .boolean)) := ⟨kq_301, kq_272, kq_2, kq_39, kq_273⟩
theorem kl_X1_44 : kLS RX1 44 yJ7_fill_53178 (.code yJ7_fill_53178 cJ7_fill_53178 4 none) := ⟨kq_462, kq_463, kq_49, kq_464⟩
theorem kl_X2_33 : kLV RX2 33 yX2_refuseIfSealed (.code yX2_refuseIfSealed cX2_refuseIfSealed 1 none) := ⟨kq_198, kq_200, kq_0, kq_38, kq_201⟩
theorem kl_X2_36 : kLN RX2 36 yX1_isTold (.code yX1_isTold cX1_isTold 1 (some .boolean)) := ⟨kq_270, kq_272, kq_2, kq_39, kq_273⟩
theorem kl_X2_47 : kLS RX2 47 yX2_isInMemory (.code yX2_isInMemory cX2_isInMemory 2 (some .boolean)) := ⟨kq_290, kq_291, kq_38, kq_292⟩
theorem kl_X2_51 : kLV RX2 51 yX2_sharesWord (.code yX2_sharesWord cX2_sharesWord 4 (some .boolean)) := ⟨kq_293, kq_295, kq_3, kq_38, kq_296⟩
theorem kl_X2_58 : kLN RX2 58 yX1_tell (.code yX1_tell cX1_tell 5 none) := ⟨kq_304, kq_306, kq_5, kq_39, kq_307⟩
theorem kl_X2_62 : kLV RX2 62 yX2_refuseUnlessTold (.code yX2_refuseUnlessTold cX2_refuseUnlessTold 2 none) := ⟨kq_315, kq_317, kq_6, kq_38, kq_318⟩
theorem kl_X2_82 : kLN RX2 82 yX0_tell (.code yX0_tell cX0_tell 4 none) := ⟨kq_330, kq_332, kq_7, kq_40, kq_333⟩
theorem kl_X2_85 : kLV RX2 85 yX2_addressOf (.code yX2_addressOf cX2_addressOf 3 (some .int)) := ⟨kq_342, kq_344, kq_8, kq_38, kq_345⟩
theorem kl_X2_101 : kLV RX2 101 yX2_goOneTick (.code yX2_goOneTick cX2_goOneTick 3 (some .boolean)) := ⟨kq_390, kq_392, kq_10, kq_38, kq_393⟩
theorem kl_X2_106 : kLN RX2 106 yX1_report (.code yX1_report cX1_report 2 (some .int)) := ⟨kq_477, kq_479, kq_27, kq_39, kq_480⟩
theorem kl_X2_110 : kLV RX2 110 yX2_isChannel (.code yX2_isChannel cX2_isChannel 2 (some .boolean)) := ⟨kq_418, kq_420, kq_17, kq_38, kq_421⟩
theorem kl_X2_119 : kLN RX2 119 yX0_report (.code yX0_report cX0_report 3 (some .int)) := ⟨kq_489, kq_491, kq_28, kq_40, kq_492⟩
theorem kl_X2_123 : kLN RX2 123 yX0_isSlot (.code yX0_isSlot cX0_isSlot 1 (some .boolean)) := ⟨kq_442, kq_428, kq_19, kq_40, kq_429⟩
theorem kl_X2_126 : kLN RX2 126 yX0_wordAt (.code yX0_wordAt cX0_wordAt 2 (some .int)) := ⟨kq_438, kq_440, kq_22, kq_40, kq_441⟩
theorem kl_X2_135 : kLN RX2 135 yX1_meets (.code yX1_meets cX1_meets 3 (some .boolean)) := ⟨kq_297, kq_299, kq_4, kq_39, kq_300⟩
theorem kl_X2_138 : kLN RX2 138 yX1_holds (.code yX1_holds cX1_holds 2 (some .boolean)) := ⟨kq_346, kq_348, kq_9, kq_39, kq_349⟩
theorem kl_X2_155 : kLV RX2 155 yX2_runInstruction (.code yX2_runInstruction cX2_runInstruction 5 none) := ⟨kq_394, kq_396, kq_11, kq_38, kq_397⟩
theorem kl_X2_158 : kLV RX2 158 yX2_moveWindowOn (.code yX2_moveWindowOn cX2_moveWindowOn 1 none) := ⟨kq_465, kq_467, kq_26, kq_38, kq_468⟩
theorem kl_X2_167 : kLV RX2 167 yX2_perform (.code yX2_perform cX2_perform 8 (some .int)) := ⟨kq_398, kq_400, kq_12, kq_38, kq_401⟩
theorem kl_X2_173 : kLN RX2 173 yX1_restartAfter (.code yX1_restartAfter cX1_restartAfter 2 (some .boolean)) := ⟨kq_458, kq_460, kq_25, kq_39, kq_461⟩
theorem kl_X2_179 : kLV RX2 179 yX2_load (.code yX2_load cX2_load 4 (some .int)) := ⟨kq_402, kq_404, kq_13, kq_38, kq_405⟩
theorem kl_X2_183 : kLV RX2 183 yX2_store (.code yX2_store cX2_store 4 (some .int)) := ⟨kq_406, kq_408, kq_14, kq_38, kq_409⟩
theorem kl_X2_186 : kLN RX2 186 yX1_jumpIf (.code yX1_jumpIf cX1_jumpIf 3 none) := ⟨kq_410, kq_412, kq_15, kq_39, kq_413⟩
theorem kl_X2_190 : kLV RX2 190 yX2_send (.code yX2_send cX2_send 6 (some .int)) := ⟨kq_414, kq_416, kq_16, kq_38, kq_417⟩
theorem kl_X2_194 : kLV RX2 194 yX2_take (.code yX2_take cX2_take 7 (some .int)) := ⟨kq_434, kq_436, kq_21, kq_38, kq_437⟩
theorem kl_X2_197 : kLS RX2 197 yX2_computed (.code yX2_computed cX2_computed 4 (some .int)) := ⟨kq_455, kq_456, kq_38, kq_457⟩
theorem kl_X2_203 : kLN RX2 203 yX0_put (.code yX0_put cX0_put 3 (some .boolean)) := ⟨kq_422, kq_424, kq_18, kq_40, kq_425⟩
theorem kl_X2_212 : kLN RX2 212 yX0_age (.code yX0_age cX0_age 2 (some .int)) := ⟨kq_443, kq_445, kq_23, kq_40, kq_446⟩
theorem kl_X2_215 : kLN RX2 215 yX0_dropTaken (.code yX0_dropTaken cX0_dropTaken 1 none) := ⟨kq_451, kq_453, kq_24, kq_40, kq_454⟩
theorem yk_X0_isSlot : kYok yX0_isSlot 0 := by unfold kYok; decide +kernel
theorem yk_X0_spotOf : kYok yX0_spotOf 1 := by unfold kYok; decide +kernel
theorem yk_X0_wordAt : kYok yX0_wordAt 1 := by unfold kYok; decide +kernel
theorem yk_X0_age : kYok yX0_age 1 := by unfold kYok; decide +kernel
theorem yk_X1_isTold : kYok yX1_isTold 0 := by unfold kYok; decide +kernel
theorem yk_J7_fill_53178 : kYok yJ7_fill_53178 2 := by unfold kYok; decide +kernel
theorem yk_X2_refuseIfSealed : kYok yX2_refuseIfSealed 0 := by unfold kYok; decide +kernel
theorem yk_X2_isInMemory : kYok yX2_isInMemory 2 := by unfold kYok; decide +kernel
theorem yk_X2_sharesWord : kYok yX2_sharesWord 2 := by unfold kYok; decide +kernel
theorem yk_X1_tell : kYok yX1_tell 4 := by unfold kYok; decide +kernel
theorem yk_X2_refuseUnlessTold : kYok yX2_refuseUnlessTold 1 := by unfold kYok; decide +kernel
theorem yk_X0_tell : kYok yX0_tell 3 := by unfold kYok; decide +kernel
theorem yk_X2_addressOf : kYok yX2_addressOf 2 := by unfold kYok; decide +kernel
theorem yk_X2_goOneTick : kYok yX2_goOneTick 0 := by unfold kYok; decide +kernel
theorem yk_X1_report : kYok yX1_report 1 := by unfold kYok; decide +kernel
theorem yk_X2_isChannel : kYok yX2_isChannel 1 := by unfold kYok; decide +kernel
theorem yk_X0_report : kYok yX0_report 2 := by unfold kYok; decide +kernel
theorem yk_X1_meets : kYok yX1_meets 2 := by unfold kYok; decide +kernel
theorem yk_X1_holds : kYok yX1_holds 1 := by unfold kYok; decide +kernel
theorem yk_X2_runInstruction : kYok yX2_runInstruction 1 := by unfold kYok; decide +kernel
theorem yk_X2_moveWindowOn : kYok yX2_moveWindowOn 0 := by unfold kYok; decide +kernel
theorem yk_X2_perform : kYok yX2_perform 2 := by unfold kYok; decide +kernel
theorem yk_X1_restartAfter : kYok yX1_restartAfter 1 := by unfold kYok; decide +kernel
theorem yk_X2_load : kYok yX2_load 3 := by unfold kYok; decide +kernel
theorem yk_X2_store : kYok yX2_store 3 := by unfold kYok; decide +kernel
theorem yk_X1_jumpIf : kYok yX1_jumpIf 2 := by unfold kYok; decide +kernel
theorem yk_X2_send : kYok yX2_send 4 := by unfold kYok; decide +kernel
theorem yk_X2_take : kYok yX2_take 4 := by unfold kYok; decide +kernel
theorem yk_X2_computed : kYok yX2_computed 4 := by unfold kYok; decide +kernel
theorem yk_X0_put : kYok yX0_put 2 := by unfold kYok; decide +kernel
theorem yk_X0_dropTaken : kYok yX0_dropTaken 0 := by unfold kYok; decide +kernel
end
section
/-! ===== methods that may throw ===== -/
def kEx (k : Nat) : String := if k = 1 then kISE else if k = 2 then kIAE else kIOB
abbrev kXC (D : va_G) (A : Nat → Nat) (C : Nat → ClassId) (ka mu : kM) (o : Int32) (sz k : Nat) : String → State → State → Prop := vx_X (fun (_ : Unit) => True) (fun E _ t => (k ≠ 0 ∧ E = kEx k) ∧ kP D A C ka mu o t.heap) (kA A sz)
def kXi (l : Launch) (y : MethodName) (w : Cond) (rm : Room) (D : va_G) (A : Nat → Nat) (C : Nat → ClassId) (ka mu : kM) (o : Int32) (sz : Nat) (av : List Value) (k : Nat) (r : Int32) (ka' mu' : kM) (o' : Int32) : Prop :=
  vx_Met l y (w :: kAll) rm (kPre D A C ka mu o sz av) (va_Qi (fun (x : Int32) (_ : Unit) => k = 0 ∧ x = r) (fun _ t => kP D A C ka' mu' o' t.heap) (kA A sz)) (kXC D A C ka mu o sz k) rm.cells rm.slots (kA A sz)
def kXv (l : Launch) (y : MethodName) (w : Cond) (rm : Room) (D : va_G) (A : Nat → Nat) (C : Nat → ClassId) (ka mu : kM) (o : Int32) (sz : Nat) (av : List Value) (k : Nat) (ka' mu' : kM) (o' : Int32) : Prop :=
  vx_Met l y (w :: kAll) rm (kPre D A C ka mu o sz av) (va_Qv (fun (_ : Unit) => k = 0) (fun _ t => kP D A C ka' mu' o' t.heap) (kA A sz)) (kXC D A C ka mu o sz k) rm.cells rm.slots (kA A sz)
abbrev kYi (D : va_G) (A : Nat → Nat) (C : Nat → ClassId) (below : List Frame) (args : Array Value) (s : State) (ka mu : kM) (o : Int32) (mc ms k : Nat) (r : Int32) (ka' mu' : kM) (o' : Int32) : State → Prop :=
  vx_MQ below (va_Qi (fun (x : Int32) (_ : Unit) => k = 0 ∧ x = r) (fun _ t => kP D A C ka' mu' o' t.heap) (kA A s.heap.size)) (kXC D A C ka mu o s.heap.size k) args s mc ms (kA A s.heap.size)
abbrev kYv (D : va_G) (A : Nat → Nat) (C : Nat → ClassId) (below : List Frame) (args : Array Value) (s : State) (ka mu : kM) (o : Int32) (mc ms k : Nat) (ka' mu' : kM) (o' : Int32) : State → Prop :=
  vx_MQ below (va_Qv (fun (_ : Unit) => k = 0) (fun _ t => kP D A C ka' mu' o' t.heap) (kA A s.heap.size)) (kXC D A C ka mu o s.heap.size k) args s mc ms (kA A s.heap.size)
theorem kN_use {args : Array Value} {s : State} (h : ∀ w ∈ kNest, va_Nw w s) : ∀ w ∈ kNest, w.before args s = true := by
  intro w hw
  have h1 := h w hw
  have h2 := (List.mem_filter.mp hw).2
  cases w with
  | fieldLinkNest a i b n d x => exact va_Nw.use rfl h1
  | methodLinkNest a i y x => exact va_Nw.use rfl h1
  | castable a b => exact va_Nw.use rfl h1
  | declares x => exact va_Nw.use rfl h1
  | _ => exact absurd h2 (by simp [kisN])
def kNames : List String := ["java/lang/RuntimeException", "java/lang/Exception"]
theorem kat1 : ∀ w ∈ (vx_atS RX2 93 kISE kNames).filter goodWord, w ∈ kAll := by decide +kernel
theorem kat2 : ∀ w ∈ (vx_atS RX2 44 kIAE kNames).filter goodWord, w ∈ kAll := by decide +kernel
theorem kat3 : ∀ w ∈ (vx_atS RX2 145 kIOB kNames).filter goodWord, w ∈ kAll := by decide +kernel
theorem kau1 : ∀ w ∈ (vx_atS RX2 93 kISE kNames).filter (fun w => !goodWord w), w ∈ kNest := by decide +kernel
theorem kau2 : ∀ w ∈ (vx_atS RX2 44 kIAE kNames).filter (fun w => !goodWord w), w ∈ kNest := by decide +kernel
theorem kau3 : ∀ w ∈ (vx_atS RX2 145 kIOB kNames).filter (fun w => !goodWord w), w ∈ kNest := by decide +kernel
theorem kav1 : ∀ w ∈ Cond.classLink RX2 89 kISE :: Cond.initialized kISE :: vx_atS RX2 93 kISE kNames, vx_ot w = true := by decide +kernel
theorem kav2 : ∀ w ∈ Cond.classLink RX2 40 kIAE :: Cond.initialized kIAE :: vx_atS RX2 44 kIAE kNames, vx_ot w = true := by decide +kernel
theorem kav3 : ∀ w ∈ Cond.classLink RX2 141 kIOB :: Cond.initialized kIOB :: vx_atS RX2 145 kIOB kNames, vx_ot w = true := by decide +kernel
theorem kaw1 : Cond.classLink RX2 89 kISE ∈ kAll ∧ Cond.initialized kISE ∈ kAll := ⟨by decide +kernel, by decide +kernel⟩
theorem kaw2 : Cond.classLink RX2 40 kIAE ∈ kAll ∧ Cond.initialized kIAE ∈ kAll := ⟨by decide +kernel, by decide +kernel⟩
theorem kaw3 : Cond.classLink RX2 141 kIOB ∈ kAll ∧ Cond.initialized kIOB ∈ kAll := ⟨by decide +kernel, by decide +kernel⟩
theorem kP_kept {D : va_G} {A : Nat → Nat} {C : Nat → ClassId} {ka mu : kM} {o : Int32} {H H1 : Heap} (hP : kP D A C ka mu o H) (h : ∀ q : Nat, q < H.size → H1[q]? = H[q]?) : kP D A C ka mu o H1 := va_P.kept hP (fun k x hx => h x.1 (hP k x hx).lt)
section KX
variable {p : Program} {l : Launch} {e : Env} {R : Room} {s : State} {m : MethodId} {args : Array Value} {below : List Frame} {meth : Method} {c : Code} {H : Heap} {locs : List Loc} {cells slots : Nat}
variable {cc : ByteArray} {nL pc : Nat} {ls : Array Slot} {rest st0 : List Value} {D : va_G} {A : Nat → Nat} {C : Nat → ClassId} {ka mu : kM} {o : Int32} {own : String} {index mc ms : Nat}
theorem kXi_of {y : MethodName} {nL : Nat} {ret : Option FieldType} {rm : Room} {sz : Nat} {av : List Value} {k : Nat} {r : Int32} {ka' mu' : kM} {o' : Int32} (hA : kinj A) (hy : plainName y.cls = true) (hc : (lg_sl av).length ≤ nL)
    (body : ∀ (p : Program) (e : Env) (s : State) (m : MethodId) (args : Array Value) (below : List Frame) (meth : Method) (c : Code), kCtx D A C p s m args c cc nL y.cls → meth.sig.returnType = ret → meth.locks = false → (∀ x ∈ c.exceptionTable.toList, False) → kP D A C ka mu o s.heap → kS A s s.heap [] → ∀ ls : Array Slot, lv_has ls nL (lv_args 0 av) →
      W p l e rm s m args below meth c s.heap [] 0 0 (kYi D A C below args s ka mu o rm.cells rm.slots k r ka' mu' o') (F0 m 0 ls [])) : kXi l y (.code y cc nL ret) rm D A C ka mu o sz av k r ka' mu' o' := by
  refine vx_ofW (cc := cc) (maxL := nL) (ret := ret) hy rfl ?_
  intro p e s m args below meth c s₁ B hml hx hv
  obtain ⟨rfl, rfl, hP, hE⟩ := hv
  have hts := atoms_spec (ws := Cond.code y cc nL ret :: kAll) B.pre
  have hl := lv_entry av (n := nL) hc
  rw [lg_entry_eq]
  generalize (lg_sl av ++ List.replicate (nL - (lg_sl av).length) Slot.unset).toArray = ls at hl ⊢
  exact body p e s m _ below meth c ⟨B.exec, B.bytes, hml, findClass_of_methodNamed B.named, fun w hw => hts w (List.mem_cons_of_mem _ hw), hE, hA⟩ B.returns B.notSynchronized hx hP va_S.rf ls hl
theorem kXv_of {y : MethodName} {nL : Nat} {rm : Room} {sz : Nat} {av : List Value} {k : Nat} {ka' mu' : kM} {o' : Int32} (hA : kinj A) (hy : plainName y.cls = true) (hc : (lg_sl av).length ≤ nL)
    (body : ∀ (p : Program) (e : Env) (s : State) (m : MethodId) (args : Array Value) (below : List Frame) (meth : Method) (c : Code), kCtx D A C p s m args c cc nL y.cls → meth.sig.returnType = none → meth.locks = false → (∀ x ∈ c.exceptionTable.toList, False) → kP D A C ka mu o s.heap → kS A s s.heap [] → ∀ ls : Array Slot, lv_has ls nL (lv_args 0 av) →
      W p l e rm s m args below meth c s.heap [] 0 0 (kYv D A C below args s ka mu o rm.cells rm.slots k ka' mu' o') (F0 m 0 ls [])) : kXv l y (.code y cc nL none) rm D A C ka mu o sz av k ka' mu' o' := by
  refine vx_ofW (cc := cc) (maxL := nL) (ret := none) hy rfl ?_
  intro p e s m args below meth c s₁ B hml hx hv
  obtain ⟨rfl, rfl, hP, hE⟩ := hv
  have hts := atoms_spec (ws := Cond.code y cc nL none :: kAll) B.pre
  have hl := lv_entry av (n := nL) hc
  rw [lg_entry_eq]
  generalize (lg_sl av ++ List.replicate (nL - (lg_sl av).length) Slot.unset).toArray = ls at hl ⊢
  exact body p e s m _ below meth c ⟨B.exec, B.bytes, hml, findClass_of_methodNamed B.named, fun w hw => hts w (List.mem_cons_of_mem _ hw), hE, hA⟩ B.returns B.notSynchronized hx hP va_S.rf ls hl
theorem k_xiret {k : Nat} {r v : Int32} {k1 m1 ka' mu' : kM} {o1 o' : Int32} (G : kCtx D A C p s m args c cc nL own) (hr : meth.sig.returnType = some .int) (hlocks : meth.locks = false) (hP : kP D A C k1 m1 o1 H) (hS : kS A s H locs) (hk : k = 0) (hv : v = r) (h1 : k1 = ka') (h2 : m1 = mu') (h3 : o1 = o') (hdg : decode cc pc = .ok (.ireturn, 1)) :
    W p l e R s m args below meth c H locs cells slots (kYi D A C below args s ka mu o cells slots k r ka' mu' o') (F0 m pc ls [.int v]) := by
  subst hv; subst h1; subst h2; subst h3
  exact vx_ret (W.iret G.1 G.2.1 hr (fun t ht hW => ⟨⟨v, (), rfl, ⟨hk, rfl⟩, by show kP _ _ _ _ _ _ t.heap; rw [ht]; exact hP⟩, hS.F ht⟩) hS.2.2 hdg hlocks)
theorem k_xvret {k : Nat} {k1 m1 ka' mu' : kM} {o1 o' : Int32} (G : kCtx D A C p s m args c cc nL own) (hr : meth.sig.returnType = none) (hlocks : meth.locks = false) (hP : kP D A C k1 m1 o1 H) (hS : kS A s H locs) (hk : k = 0) (h1 : k1 = ka') (h2 : m1 = mu') (h3 : o1 = o') (hdg : decode cc pc = .ok (.return_, 1)) :
    W p l e R s m args below meth c H locs cells slots (kYv D A C below args s ka mu o cells slots k ka' mu' o') (F0 m pc ls []) := by
  subst h1; subst h2; subst h3
  exact vx_ret (W.vret G.1 G.2.1 hr (fun t ht hW => ⟨⟨(), rfl, hk, by show kP _ _ _ _ _ _ t.heap; rw [ht]; exact hP⟩, hS.F ht⟩) hS.2.2 hdg hlocks)
theorem k_throw1 {is k : Nat} {text : String} {k1 m1 : kM} {o1 : Int32} {Qc : Array Value → State → Outcome → State → Prop} (G : kCtx D A C p s m args c cc nL RX2) (hl0 : l.stackTraces = false) (hlocks : meth.locks = false) (hP : kP D A C k1 m1 o1 H) (hS : kS A s H locs) (hsz : ls.size = nL) (hstr : (is, text) ∈ kStr)
    (d0 : decode cc pc = .ok (.new 89, 3)) (d3 : decode cc (pc + 3) = .ok (.dup, 1)) (d4 : decode cc (pc + 4) = .ok (.ldc is, 2)) (d6 : decode cc (pc + 6) = .ok (.invokespecial 93, 3)) (d9 : decode cc (pc + 9) = .ok (.athrow, 1)) (hx : ∀ x ∈ c.exceptionTable.toList, False)
    (hRf : 5 < R.frames) (hRl : (rest.map fun v => v.category).sum + 82 ≤ R.locals) (hRc : cells + 1 ≤ R.cells) (hRs : slots + 6 ≤ R.slots) (hc : cells + 1 ≤ mc) (hs : slots + 6 ≤ ms) (hk : k = 1) (e1 : k1 = ka) (e2 : m1 = mu) (e3 : o1 = o) :
    W p l e R s m args below meth c H locs cells slots (vx_MQ below Qc (kXC D A C ka mu o s.heap.size k) args s mc ms (kA A s.heap.size)) (F0 m pc ls rest) := by
  subst e1; subst e2; subst e3; subst hk
  have hT := G.2.2.2.2.2.1.2.2
  obtain ⟨sa, hsa⟩ := hT.2.2.1 _ hstr
  refine vx_throwS (own := RX2) (cls := kISE) (names := kNames) (ik := 89) (ic := 93) (sa := sa) (text := text) (A := kA A s.heap.size) G.1 G.2.1 hl0 G.2.2.2.1 (by decide) (by decide) (G.2.2.2.2.1 _ kaw1.1) (G.2.2.2.2.1 _ kaw1.2) hsa (vx_hat (fun w hw => G.2.2.2.2.1 w (kat1 w hw)) kau1 (kN_use G.2.2.2.2.2.1.2.1)) kav1 hT.1 hT.2.1 hS (hsz.trans G.2.2.1.symm) d0 d3 d4 d6 d9 (fun x h => (hx x h).elim) hRf hRl hRc hRs hlocks (fun t _ hz ht => ⟨(), trivial, ⟨⟨by decide, rfl⟩, kP_kept hP ht⟩, Nat.le_trans hS.1 hz, fun q h1 h2 => (ht q (Nat.lt_of_lt_of_le h1 hS.1)).trans (hS.2.1 q h1 h2)⟩) hS.2.2 hc hs
theorem k_throw2 {is k : Nat} {text : String} {k1 m1 : kM} {o1 : Int32} {Qc : Array Value → State → Outcome → State → Prop} (G : kCtx D A C p s m args c cc nL RX2) (hl0 : l.stackTraces = false) (hlocks : meth.locks = false) (hP : kP D A C k1 m1 o1 H) (hS : kS A s H locs) (hsz : ls.size = nL) (hstr : (is, text) ∈ kStr)
    (d0 : decode cc pc = .ok (.new 40, 3)) (d3 : decode cc (pc + 3) = .ok (.dup, 1)) (d4 : decode cc (pc + 4) = .ok (.ldc is, 2)) (d6 : decode cc (pc + 6) = .ok (.invokespecial 44, 3)) (d9 : decode cc (pc + 9) = .ok (.athrow, 1)) (hx : ∀ x ∈ c.exceptionTable.toList, False)
    (hRf : 5 < R.frames) (hRl : (rest.map fun v => v.category).sum + 82 ≤ R.locals) (hRc : cells + 1 ≤ R.cells) (hRs : slots + 6 ≤ R.slots) (hc : cells + 1 ≤ mc) (hs : slots + 6 ≤ ms) (hk : k = 2) (e1 : k1 = ka) (e2 : m1 = mu) (e3 : o1 = o) :
    W p l e R s m args below meth c H locs cells slots (vx_MQ below Qc (kXC D A C ka mu o s.heap.size k) args s mc ms (kA A s.heap.size)) (F0 m pc ls rest) := by
  subst e1; subst e2; subst e3; subst hk
  have hT := G.2.2.2.2.2.1.2.2
  obtain ⟨sa, hsa⟩ := hT.2.2.1 _ hstr
  refine vx_throwS (own := RX2) (cls := kIAE) (names := kNames) (ik := 40) (ic := 44) (sa := sa) (text := text) (A := kA A s.heap.size) G.1 G.2.1 hl0 G.2.2.2.1 (by decide) (by decide) (G.2.2.2.2.1 _ kaw2.1) (G.2.2.2.2.1 _ kaw2.2) hsa (vx_hat (fun w hw => G.2.2.2.2.1 w (kat2 w hw)) kau2 (kN_use G.2.2.2.2.2.1.2.1)) kav2 hT.1 hT.2.1 hS (hsz.trans G.2.2.1.symm) d0 d3 d4 d6 d9 (fun x h => (hx x h).elim) hRf hRl hRc hRs hlocks (fun t _ hz ht => ⟨(), trivial, ⟨⟨by decide, rfl⟩, kP_kept hP ht⟩, Nat.le_trans hS.1 hz, fun q h1 h2 => (ht q (Nat.lt_of_lt_of_le h1 hS.1)).trans (hS.2.1 q h1 h2)⟩) hS.2.2 hc hs
theorem k_throw3 {is k : Nat} {text : String} {k1 m1 : kM} {o1 : Int32} {Qc : Array Value → State → Outcome → State → Prop} (G : kCtx D A C p s m args c cc nL RX2) (hl0 : l.stackTraces = false) (hlocks : meth.locks = false) (hP : kP D A C k1 m1 o1 H) (hS : kS A s H locs) (hsz : ls.size = nL) (hstr : (is, text) ∈ kStr)
    (d0 : decode cc pc = .ok (.new 141, 3)) (d3 : decode cc (pc + 3) = .ok (.dup, 1)) (d4 : decode cc (pc + 4) = .ok (.ldc is, 2)) (d6 : decode cc (pc + 6) = .ok (.invokespecial 145, 3)) (d9 : decode cc (pc + 9) = .ok (.athrow, 1)) (hx : ∀ x ∈ c.exceptionTable.toList, False)
    (hRf : 5 < R.frames) (hRl : (rest.map fun v => v.category).sum + 82 ≤ R.locals) (hRc : cells + 1 ≤ R.cells) (hRs : slots + 6 ≤ R.slots) (hc : cells + 1 ≤ mc) (hs : slots + 6 ≤ ms) (hk : k = 3) (e1 : k1 = ka) (e2 : m1 = mu) (e3 : o1 = o) :
    W p l e R s m args below meth c H locs cells slots (vx_MQ below Qc (kXC D A C ka mu o s.heap.size k) args s mc ms (kA A s.heap.size)) (F0 m pc ls rest) := by
  subst e1; subst e2; subst e3; subst hk
  have hT := G.2.2.2.2.2.1.2.2
  obtain ⟨sa, hsa⟩ := hT.2.2.1 _ hstr
  refine vx_throwS (own := RX2) (cls := kIOB) (names := kNames) (ik := 141) (ic := 145) (sa := sa) (text := text) (A := kA A s.heap.size) G.1 G.2.1 hl0 G.2.2.2.1 (by decide) (by decide) (G.2.2.2.2.1 _ kaw3.1) (G.2.2.2.2.1 _ kaw3.2) hsa (vx_hat (fun w hw => G.2.2.2.2.1 w (kat3 w hw)) kau3 (kN_use G.2.2.2.2.2.1.2.1)) kav3 hT.1 hT.2.1 hS (hsz.trans G.2.2.1.symm) d0 d3 d4 d6 d9 (fun x h => (hx x h).elim) hRf hRl hRc hRs hlocks (fun t _ hz ht => ⟨(), trivial, ⟨⟨by decide, rfl⟩, kP_kept hP ht⟩, Nat.le_trans hS.1 hz, fun q h1 h2 => (ht q (Nat.lt_of_lt_of_le h1 hS.1)).trans (hS.2.1 q h1 h2)⟩) hS.2.2 hc hs
variable {y : MethodName} {b : ByteArray} {n : Nat} {ret : Option FieldType} {rm : Room} {b0 : Nat} {As : List Value} {r : Int32} {ka' mu' : kM} {o' : Int32} {k kc : Nat} {ka0 mu0 : kM} {o0 : Int32} {Qc : Array Value → State → Outcome → State → Prop}
theorem k_runX {Qd : Array Value → State → Outcome → State → Prop} {XC : String → State → State → Prop} (G : kCtx D A C p s m args c cc nL own) (hP : kP D A C ka mu o H) (hS : kS A s H locs) (hsz : ls.size = nL) (hL : kLV own index y (.code y b n ret)) (hy : kYok y As.length)
    (hM : vx_Met l y (.code y b n ret :: kAll) rm (kPre D A C ka mu o H.size (.ref b0 :: As)) Qd XC rm.cells rm.slots (kA A H.size))
    (hrv : ∃ cell : Cell, H[b0]? = some cell ∧ cell.vm.isStatics = false ∧ s.vm.findClass y.cls = some cell.cls) (hR : rm.frames + 1 ≤ R.frames ∧ 8 + (n + 11) + rm.locals ≤ R.locals) (hf : cells + rm.cells ≤ R.cells ∧ slots + rm.slots ≤ R.slots)
    (hst : st0 = As.reverse ++ .ref b0 :: rest) (hW : (rest.map fun v => v.category).sum ≤ 8) (hdg : decode cc pc = .ok (.invokevirtual index, 3)) : vx_Run p l e R s m args below meth c H locs cells slots rm.cells rm.slots (F0 m pc ls st0) rest (Qd (Value.ref b0 :: As).toArray) XC (kA A H.size) :=
  vx_runV (As := As) (rest := rest) ⟨G.1, G.2.1, G.2.2.1, G.2.2.2.1, G.2.2.2.2.1⟩ hM (cwV As.length G.2.2.2.2.1 (kgoodV (fun _ h => h) hL.1 hL.2.1 hL.2.2.1 hL.2.2.2.1 hL.2.2.2.2) rfl rfl rfl ⟨rfl, hy⟩ hR) ⟨kPre_blind, hrv, kpre G hP hS _⟩ rfl rfl hsz hst (lv_room hW) hdg hf
theorem k_XVi (G : kCtx D A C p s m args c cc nL own) (hP : kP D A C ka mu o H) (hS : kS A s H locs) (hsz : ls.size = nL) (hL : kLV own index y (.code y b n ret)) (hy : kYok y As.length) (hM : kXi l y (.code y b n ret) rm D A C ka mu o H.size (.ref b0 :: As) k r ka' mu' o')
    (hrv : ∃ cell : Cell, H[b0]? = some cell ∧ cell.vm.isStatics = false ∧ s.vm.findClass y.cls = some cell.cls) (hR : rm.frames + 1 ≤ R.frames ∧ 8 + (n + 11) + rm.locals ≤ R.locals) (hf : cells + rm.cells ≤ R.cells ∧ slots + rm.slots ≤ R.slots) (hmc : cells + rm.cells ≤ mc ∧ slots + rm.slots ≤ ms) (hst : st0 = As.reverse ++ .ref b0 :: rest) (hW : (rest.map fun v => v.category).sum ≤ 8) (hx : ∀ x ∈ c.exceptionTable.toList, False) (hlocks : meth.locks = false) (hdg : decode cc pc = .ok (.invokevirtual index, 3))
    (hth : ¬ k = 0 → kc = k ∧ ka = ka0 ∧ mu = mu0 ∧ o = o0)
    (kk : k = 0 → ∀ (H1 : Heap) (locs1 : List Loc), kP D A C ka' mu' o' H1 → kS A s H1 locs1 → W p l e R s m args below meth c H1 locs1 (cells + rm.cells) (slots + rm.slots) (vx_MQ below Qc (kXC D A C ka0 mu0 o0 s.heap.size kc) args s mc ms (kA A s.heap.size)) (F0 m (pc + 3) ls (.int r :: rest))) :
    W p l e R s m args below meth c H locs cells slots (vx_MQ below Qc (kXC D A C ka0 mu0 o0 s.heap.size kc) args s mc ms (kA A s.heap.size)) (F0 m pc ls st0) := by
  refine vx_calli (k_runX G hP hS hsz hL hy hM hrv hR hf hst hW hdg) hS (fun q _ h => kA_mono hS.1 q h) (fun q h => kA_mono hS.1 q h) (fun q _ h => kA_mono hS.1 q h) (fun E ce q9 u t H1 locs1 ht _ _ hB _ _ hS1 hce hcv hcl => ?_) (fun x _ t H1 locs1 ht _ hx2 hB _ _ hS1 => ?_)
  · obtain ⟨⟨hk, hE⟩, hPt⟩ := hB
    obtain ⟨rfl, rfl, rfl, rfl⟩ := hth hk
    exact vx_out (fun x h => (hx x h).elim) hlocks hce hcv hcl (fun t2 ht2 _ => ⟨(), trivial, ⟨⟨hk, hE⟩, by rw [ht2, ← ht]; exact hPt⟩, hS1.F ht2⟩) hS1.2.2 hmc.1 hmc.2
  · obtain ⟨hk, rfl⟩ := hx2
    exact kk hk H1 locs1 (by rw [← ht]; exact hB) hS1
theorem k_XVv (G : kCtx D A C p s m args c cc nL own) (hP : kP D A C ka mu o H) (hS : kS A s H locs) (hsz : ls.size = nL) (hL : kLV own index y (.code y b n none)) (hy : kYok y As.length) (hM : kXv l y (.code y b n none) rm D A C ka mu o H.size (.ref b0 :: As) k ka' mu' o')
    (hrv : ∃ cell : Cell, H[b0]? = some cell ∧ cell.vm.isStatics = false ∧ s.vm.findClass y.cls = some cell.cls) (hR : rm.frames + 1 ≤ R.frames ∧ 8 + (n + 11) + rm.locals ≤ R.locals) (hf : cells + rm.cells ≤ R.cells ∧ slots + rm.slots ≤ R.slots) (hmc : cells + rm.cells ≤ mc ∧ slots + rm.slots ≤ ms) (hst : st0 = As.reverse ++ .ref b0 :: rest) (hW : (rest.map fun v => v.category).sum ≤ 8) (hx : ∀ x ∈ c.exceptionTable.toList, False) (hlocks : meth.locks = false) (hdg : decode cc pc = .ok (.invokevirtual index, 3))
    (hth : ¬ k = 0 → kc = k ∧ ka = ka0 ∧ mu = mu0 ∧ o = o0)
    (kk : k = 0 → ∀ (H1 : Heap) (locs1 : List Loc), kP D A C ka' mu' o' H1 → kS A s H1 locs1 → W p l e R s m args below meth c H1 locs1 (cells + rm.cells) (slots + rm.slots) (vx_MQ below Qc (kXC D A C ka0 mu0 o0 s.heap.size kc) args s mc ms (kA A s.heap.size)) (F0 m (pc + 3) ls rest)) :
    W p l e R s m args below meth c H locs cells slots (vx_MQ below Qc (kXC D A C ka0 mu0 o0 s.heap.size kc) args s mc ms (kA A s.heap.size)) (F0 m pc ls st0) := by
  refine vx_callv (k_runX G hP hS hsz hL hy hM hrv hR hf hst hW hdg) hS (fun q _ h => kA_mono hS.1 q h) (fun q h => kA_mono hS.1 q h) (fun q _ h => kA_mono hS.1 q h) (fun E ce q9 u t H1 locs1 ht _ _ hB _ _ hS1 hce hcv hcl => ?_) (fun _ t H1 locs1 ht _ hx2 hB _ _ hS1 => ?_)
  · obtain ⟨⟨hk, hE⟩, hPt⟩ := hB
    obtain ⟨rfl, rfl, rfl, rfl⟩ := hth hk
    exact vx_out (fun x h => (hx x h).elim) hlocks hce hcv hcl (fun t2 ht2 _ => ⟨(), trivial, ⟨⟨hk, hE⟩, by rw [ht2, ← ht]; exact hPt⟩, hS1.F ht2⟩) hS1.2.2 hmc.1 hmc.2
  · exact kk hx2 H1 locs1 (by rw [← ht]; exact hB) hS1
end KX
end
section
/-! J7_fill_53178 -/
def f_J7_fill_53178 (ka : kM) (p0 : Nat) (p1 : Int32) : kM :=
  (kup (kup (kup (kup ka (p0 + 12) (0 : Int32).toNatClampNeg p1) (p0 + 12) (1 : Int32).toNatClampNeg p1) (p0 + 12) (2 : Int32).toNatClampNeg p1) (p0 + 12) (3 : Int32).toNatClampNeg p1)
set_option maxHeartbeats 4000000 in
set_option maxRecDepth 100000 in
theorem c_J7_fill_53178 (l : Launch) (D : va_G) (A : Nat → Nat) (C : Nat → ClassId) (ka mu : kM) (o : Int32) (sz : Nat) (hA : kinj A) (p0 : Nat) (hp0 : p0 < 6) (p1 : Int32) : kMv l yJ7_fill_53178 (.code yJ7_fill_53178 cJ7_fill_53178 4 none) ({ frames := 0, cells := 0, slots := 0, locals := 0 }) D A C ka mu o sz [.ref (A (p0 + 12)), .int p1]  (f_J7_fill_53178 ka p0 p1) mu o := by
  refine kMv_of hA (by decide) (Nat.le_of_ble_eq_true rfl) (fun p e s m args below meth c G hr hlocks hP hS ls hl => ?_)
  have hl : lv_has ls 4 [(0, .ref (A (p0 + 12))), (1, .int p1)] := hl
  refine lv_iconst (v := 0) G.1 G.2.1 dJ7_fill_53178_0 (by decide) ?_
  refine lv_istore_n (lv' := [(2, .int 0), (0, .ref (A (p0 + 12))), (1, .int p1)]) G.1 G.2.1 dJ7_fill_53178_1 rfl hl (by decide) rfl (fun ls hl => ?_)
  refine lv_aload_n G.1 G.2.1 dJ7_fill_53178_2 rfl (lv_at hl 1 rfl) ?_
  refine kK_len (v := 4) (r := p0 + 12) G hP (kI_R hp0) (by omega) (by decide) dJ7_fill_53178_3 ?_
  refine lv_istore_n (lv' := [(3, .int 4), (2, .int 0), (0, .ref (A (p0 + 12))), (1, .int p1)]) G.1 G.2.1 dJ7_fill_53178_4 rfl hl (by decide) rfl (fun ls hl => ?_)
  refine lv_iload_n G.1 G.2.1 dJ7_fill_53178_5 rfl (lv_at hl 1 rfl) ?_
  refine lv_iload_n G.1 G.2.1 dJ7_fill_53178_6 rfl (lv_at hl 0 rfl) ?_
  refine lv_icmp_ge (tgt := 20) G.1 G.2.1 dJ7_fill_53178_7 (by decide) (fun c => absurd c (by decide)) (fun _ => ?_)
  refine lv_aload_n G.1 G.2.1 dJ7_fill_53178_10 rfl (lv_at hl 2 rfl) ?_
  refine lv_iload_n G.1 G.2.1 dJ7_fill_53178_11 rfl (lv_at hl 1 rfl) ?_
  refine lv_iload_n G.1 G.2.1 dJ7_fill_53178_12 rfl (lv_at hl 3 rfl) ?_
  refine kK_ast (r := p0 + 12) G hP hS (kI_R hp0) (by omega) (by unfold vp_in; decide) dJ7_fill_53178_13 (fun H locs hP hS => ?_)
  refine lv_iinc (v := 1) (lv' := [(2, .int 1), (3, .int 4), (0, .ref (A (p0 + 12))), (1, .int p1)]) G.1 G.2.1 dJ7_fill_53178_14 hl (k := 1) rfl (by decide) (by decide) rfl (fun ls hl => ?_)
  refine lv_goto (tgt := 5) G.1 G.2.1 dJ7_fill_53178_17 (by decide) ?_
  refine lv_iload_n G.1 G.2.1 dJ7_fill_53178_5 rfl (lv_at hl 0 rfl) ?_
  refine lv_iload_n G.1 G.2.1 dJ7_fill_53178_6 rfl (lv_at hl 1 rfl) ?_
  refine lv_icmp_ge (tgt := 20) G.1 G.2.1 dJ7_fill_53178_7 (by decide) (fun c => absurd c (by decide)) (fun _ => ?_)
  refine lv_aload_n G.1 G.2.1 dJ7_fill_53178_10 rfl (lv_at hl 2 rfl) ?_
  refine lv_iload_n G.1 G.2.1 dJ7_fill_53178_11 rfl (lv_at hl 0 rfl) ?_
  refine lv_iload_n G.1 G.2.1 dJ7_fill_53178_12 rfl (lv_at hl 3 rfl) ?_
  refine kK_ast (r := p0 + 12) G hP hS (kI_R hp0) (by omega) (by unfold vp_in; decide) dJ7_fill_53178_13 (fun H locs hP hS => ?_)
  refine lv_iinc (v := 2) (lv' := [(2, .int 2), (3, .int 4), (0, .ref (A (p0 + 12))), (1, .int p1)]) G.1 G.2.1 dJ7_fill_53178_14 hl (k := 0) rfl (by decide) (by decide) rfl (fun ls hl => ?_)
  refine lv_goto (tgt := 5) G.1 G.2.1 dJ7_fill_53178_17 (by decide) ?_
  refine lv_iload_n G.1 G.2.1 dJ7_fill_53178_5 rfl (lv_at hl 0 rfl) ?_
  refine lv_iload_n G.1 G.2.1 dJ7_fill_53178_6 rfl (lv_at hl 1 rfl) ?_
  refine lv_icmp_ge (tgt := 20) G.1 G.2.1 dJ7_fill_53178_7 (by decide) (fun c => absurd c (by decide)) (fun _ => ?_)
  refine lv_aload_n G.1 G.2.1 dJ7_fill_53178_10 rfl (lv_at hl 2 rfl) ?_
  refine lv_iload_n G.1 G.2.1 dJ7_fill_53178_11 rfl (lv_at hl 0 rfl) ?_
  refine lv_iload_n G.1 G.2.1 dJ7_fill_53178_12 rfl (lv_at hl 3 rfl) ?_
  refine kK_ast (r := p0 + 12) G hP hS (kI_R hp0) (by omega) (by unfold vp_in; decide) dJ7_fill_53178_13 (fun H locs hP hS => ?_)
  refine lv_iinc (v := 3) (lv' := [(2, .int 3), (3, .int 4), (0, .ref (A (p0 + 12))), (1, .int p1)]) G.1 G.2.1 dJ7_fill_53178_14 hl (k := 0) rfl (by decide) (by decide) rfl (fun ls hl => ?_)
  refine lv_goto (tgt := 5) G.1 G.2.1 dJ7_fill_53178_17 (by decide) ?_
  refine lv_iload_n G.1 G.2.1 dJ7_fill_53178_5 rfl (lv_at hl 0 rfl) ?_
  refine lv_iload_n G.1 G.2.1 dJ7_fill_53178_6 rfl (lv_at hl 1 rfl) ?_
  refine lv_icmp_ge (tgt := 20) G.1 G.2.1 dJ7_fill_53178_7 (by decide) (fun c => absurd c (by decide)) (fun _ => ?_)
  refine lv_aload_n G.1 G.2.1 dJ7_fill_53178_10 rfl (lv_at hl 2 rfl) ?_
  refine lv_iload_n G.1 G.2.1 dJ7_fill_53178_11 rfl (lv_at hl 0 rfl) ?_
  refine lv_iload_n G.1 G.2.1 dJ7_fill_53178_12 rfl (lv_at hl 3 rfl) ?_
  refine kK_ast (r := p0 + 12) G hP hS (kI_R hp0) (by omega) (by unfold vp_in; decide) dJ7_fill_53178_13 (fun H locs hP hS => ?_)
  refine lv_iinc (v := 4) (lv' := [(2, .int 4), (3, .int 4), (0, .ref (A (p0 + 12))), (1, .int p1)]) G.1 G.2.1 dJ7_fill_53178_14 hl (k := 0) rfl (by decide) (by decide) rfl (fun ls hl => ?_)
  refine lv_goto (tgt := 5) G.1 G.2.1 dJ7_fill_53178_17 (by decide) ?_
  refine lv_iload_n G.1 G.2.1 dJ7_fill_53178_5 rfl (lv_at hl 0 rfl) ?_
  refine lv_iload_n G.1 G.2.1 dJ7_fill_53178_6 rfl (lv_at hl 1 rfl) ?_
  refine lv_icmp_ge (tgt := 20) G.1 G.2.1 dJ7_fill_53178_7 (by decide) (fun _ => ?_) (fun c => absurd c (by decide))
  exact k_vret G hr hlocks hP hS (by rw [f_J7_fill_53178]) rfl rfl dJ7_fill_53178_20
/-! X1_tell -/
def f_X1_tell (ka : kM) (j : Nat) (p0 : Int32) (p1 : Int32) (p2 : Int32) (p3 : Int32) : kM :=
  (kup (kup (kup (kup (kup (kup ka (j + 6) 1 1) (j + 6) 2 p0) (j + 6) 3 p1) (j + 6) 4 p2) (j + 6) 5 p2) (j + 6) 7 p3)
set_option maxHeartbeats 4000000 in
set_option maxRecDepth 100000 in
theorem c_X1_tell (l : Launch) (D : va_G) (A : Nat → Nat) (C : Nat → ClassId) (ka mu : kM) (o : Int32) (sz : Nat) (hA : kinj A) (j : Nat) (hj : j < 6) (p0 : Int32) (p1 : Int32) (p2 : Int32) (p3 : Int32) : kMv l yX1_tell (.code yX1_tell cX1_tell 5 none) ({ frames := 0, cells := 0, slots := 0, locals := 0 }) D A C ka mu o sz [.ref (A (j + 6)), .int p0, .int p1, .int p2, .int p3]  (f_X1_tell ka j p0 p1 p2 p3) mu o := by
  refine kMv_of hA (by decide) (Nat.le_of_ble_eq_true rfl) (fun p e s m args below meth c G hr hlocks hP hS ls hl => ?_)
  have hl : lv_has ls 5 [(0, .ref (A (j + 6))), (1, .int p0), (2, .int p1), (3, .int p2), (4, .int p3)] := hl
  refine lv_aload_n G.1 G.2.1 dX1_tell_0 rfl (lv_at hl 0 rfl) ?_
  refine lv_iconst (v := 1) G.1 G.2.1 dX1_tell_1 (by decide) ?_
  refine k1_puti G hP hS hj 1 (by decide) (by decide) kq_67 rfl rfl rfl rfl dX1_tell_2 (fun H locs hP hS => ?_)
  refine lv_aload_n G.1 G.2.1 dX1_tell_5 rfl (lv_at hl 0 rfl) ?_
  refine lv_iload_n G.1 G.2.1 dX1_tell_6 rfl (lv_at hl 1 rfl) ?_
  refine k1_puti G hP hS hj 2 (by decide) (by decide) kq_69 rfl rfl rfl rfl dX1_tell_7 (fun H locs hP hS => ?_)
  refine lv_aload_n G.1 G.2.1 dX1_tell_10 rfl (lv_at hl 0 rfl) ?_
  refine lv_iload_n G.1 G.2.1 dX1_tell_11 rfl (lv_at hl 2 rfl) ?_
  refine k1_puti G hP hS hj 3 (by decide) (by decide) kq_71 rfl rfl rfl rfl dX1_tell_12 (fun H locs hP hS => ?_)
  refine lv_aload_n G.1 G.2.1 dX1_tell_15 rfl (lv_at hl 0 rfl) ?_
  refine lv_iload_n G.1 G.2.1 dX1_tell_16 rfl (lv_at hl 3 rfl) ?_
  refine k1_puti G hP hS hj 4 (by decide) (by decide) kq_72 rfl rfl rfl rfl dX1_tell_17 (fun H locs hP hS => ?_)
  refine lv_aload_n G.1 G.2.1 dX1_tell_20 rfl (lv_at hl 0 rfl) ?_
  refine lv_iload_n G.1 G.2.1 dX1_tell_21 rfl (lv_at hl 3 rfl) ?_
  refine k1_puti G hP hS hj 5 (by decide) (by decide) kq_73 rfl rfl rfl rfl dX1_tell_22 (fun H locs hP hS => ?_)
  refine lv_aload_n G.1 G.2.1 dX1_tell_25 rfl (lv_at hl 0 rfl) ?_
  refine lv_iload G.1 G.2.1 dX1_tell_26 (lv_at hl 4 rfl) ?_
  refine k1_puti G hP hS hj 7 (by decide) (by decide) kq_77 rfl rfl rfl rfl dX1_tell_28 (fun H locs hP hS => ?_)
  exact k_vret G hr hlocks hP hS (by rw [f_X1_tell]) rfl rfl dX1_tell_31
/-! X1_isTold -/
def f_X1_isTold (ka : kM) (j : Nat) : Int32 :=
  if (ka (j + 6) 1) = 0 then 0 else 1
set_option maxHeartbeats 4000000 in
set_option maxRecDepth 100000 in
theorem c_X1_isTold (l : Launch) (D : va_G) (A : Nat → Nat) (C : Nat → ClassId) (ka mu : kM) (o : Int32) (sz : Nat) (hA : kinj A) (j : Nat) (hj : j < 6) : kMi l yX1_isTold (.code yX1_isTold cX1_isTold 1 (some .boolean)) ({ frames := 0, cells := 0, slots := 0, locals := 0 }) D A C ka mu o sz [.ref (A (j + 6))] (f_X1_isTold ka j) ka mu o := by
  refine kMi_of hA (by decide) (Nat.le_of_ble_eq_true rfl) (fun p e s m args below meth c G hr hlocks hP hS ls hl => ?_)
  have hl : lv_has ls 1 [(0, .ref (A (j + 6)))] := hl
  refine lv_aload_n G.1 G.2.1 dX1_isTold_0 rfl (lv_at hl 0 rfl) ?_
  refine k1_geti G hP hj 1 (by decide) (by decide) kq_67 rfl dX1_isTold_1 ?_
  refine lv_if_eq (tgt := 11) G.1 G.2.1 dX1_isTold_4 (by decide) (fun c_4 => ?_) (fun c_4 => ?_)
  · refine lv_iconst (v := 0) G.1 G.2.1 dX1_isTold_11 (by decide) ?_
    exact k_zret G hr hlocks hP hS (by decide) (by rw [f_X1_isTold, if_pos c_4]) rfl rfl rfl dX1_isTold_12
  · refine lv_iconst (v := 1) G.1 G.2.1 dX1_isTold_7 (by decide) ?_
    refine lv_goto (tgt := 12) G.1 G.2.1 dX1_isTold_8 (by decide) ?_
    exact k_zret G hr hlocks hP hS (by decide) (by rw [f_X1_isTold, if_neg c_4]) rfl rfl rfl dX1_isTold_12
/-! X1_holds -/
def f_X1_holds (ka : kM) (j : Nat) (p0 : Int32) : Int32 :=
  if p0 < 0 then 0 else if (ka (j + 6) 3) ≤ p0 then 0 else 1
set_option maxHeartbeats 4000000 in
set_option maxRecDepth 100000 in
theorem c_X1_holds (l : Launch) (D : va_G) (A : Nat → Nat) (C : Nat → ClassId) (ka mu : kM) (o : Int32) (sz : Nat) (hA : kinj A) (j : Nat) (hj : j < 6) (p0 : Int32) : kMi l yX1_holds (.code yX1_holds cX1_holds 2 (some .boolean)) ({ frames := 0, cells := 0, slots := 0, locals := 0 }) D A C ka mu o sz [.ref (A (j + 6)), .int p0] (f_X1_holds ka j p0) ka mu o := by
  refine kMi_of hA (by decide) (Nat.le_of_ble_eq_true rfl) (fun p e s m args below meth c G hr hlocks hP hS ls hl => ?_)
  have hl : lv_has ls 2 [(0, .ref (A (j + 6))), (1, .int p0)] := hl
  refine lv_iload_n G.1 G.2.1 dX1_holds_0 rfl (lv_at hl 1 rfl) ?_
  refine lv_if_lt (tgt := 16) G.1 G.2.1 dX1_holds_1 (by decide) (fun c_1 => ?_) (fun c_1 => ?_)
  · refine lv_iconst (v := 0) G.1 G.2.1 dX1_holds_16 (by decide) ?_
    exact k_zret G hr hlocks hP hS (by decide) (by rw [f_X1_holds, if_pos c_1]) rfl rfl rfl dX1_holds_17
  · refine lv_iload_n G.1 G.2.1 dX1_holds_4 rfl (lv_at hl 1 rfl) ?_
    refine lv_aload_n G.1 G.2.1 dX1_holds_5 rfl (lv_at hl 0 rfl) ?_
    refine k1_geti G hP hj 3 (by decide) (by decide) kq_71 rfl dX1_holds_6 ?_
    refine lv_icmp_ge (tgt := 16) G.1 G.2.1 dX1_holds_9 (by decide) (fun c_9 => ?_) (fun c_9 => ?_)
    · refine lv_iconst (v := 0) G.1 G.2.1 dX1_holds_16 (by decide) ?_
      exact k_zret G hr hlocks hP hS (by decide) (by rw [f_X1_holds, if_neg c_1, if_pos c_9]) rfl rfl rfl dX1_holds_17
    · refine lv_iconst (v := 1) G.1 G.2.1 dX1_holds_12 (by decide) ?_
      refine lv_goto (tgt := 17) G.1 G.2.1 dX1_holds_13 (by decide) ?_
      exact k_zret G hr hlocks hP hS (by decide) (by rw [f_X1_holds, if_neg c_1, if_neg c_9]) rfl rfl rfl dX1_holds_17
/-! X1_meets -/
def f_X1_meets (ka : kM) (j : Nat) (p0 : Int32) (p1 : Int32) : Int32 :=
  if (f_X1_isTold ka j) = 0 then 0 else if ((ka (j + 6) 2) + (ka (j + 6) 3)) ≤ p0 then 0 else if (p0 + p1) ≤ (ka (j + 6) 2) then 0 else 1
set_option maxHeartbeats 4000000 in
set_option maxRecDepth 100000 in
theorem c_X1_meets (l : Launch) (D : va_G) (A : Nat → Nat) (C : Nat → ClassId) (ka mu : kM) (o : Int32) (sz : Nat) (hA : kinj A) (j : Nat) (hj : j < 6) (p0 : Int32) (p1 : Int32) : kMi l yX1_meets (.code yX1_meets cX1_meets 3 (some .boolean)) ({ frames := 1, cells := 0, slots := 0, locals := 20 }) D A C ka mu o sz [.ref (A (j + 6)), .int p0, .int p1] (f_X1_meets ka j p0 p1) ka mu o := by
  refine kMi_of hA (by decide) (Nat.le_of_ble_eq_true rfl) (fun p e s m args below meth c G hr hlocks hP hS ls hl => ?_)
  have hl : lv_has ls 3 [(0, .ref (A (j + 6))), (1, .int p0), (2, .int p1)] := hl
  refine lv_aload_n G.1 G.2.1 dX1_meets_0 rfl (lv_at hl 0 rfl) ?_
  refine k_Vi (As := []) (rest := []) G hP hS hl.1 kl_X1_34 yk_X1_isTold (c_X1_isTold l D A C _ _ _ _ G.2.2.2.2.2.2 j hj ) (kr1 G hP hj) (by decide) (by decide) rfl (Nat.le_of_ble_eq_true rfl) dX1_meets_1 (fun H locs hP hS => ?_)
  refine lv_if_eq (tgt := 34) G.1 G.2.1 dX1_meets_4 (by decide) (fun c_4 => ?_) (fun c_4 => ?_)
  · refine lv_iconst (v := 0) G.1 G.2.1 dX1_meets_34 (by decide) ?_
    exact k_zret G hr hlocks hP hS (by decide) (by rw [f_X1_meets, if_pos c_4]) rfl rfl rfl dX1_meets_35
  · refine lv_iload_n G.1 G.2.1 dX1_meets_7 rfl (lv_at hl 1 rfl) ?_
    refine lv_aload_n G.1 G.2.1 dX1_meets_8 rfl (lv_at hl 0 rfl) ?_
    refine k1_geti G hP hj 2 (by decide) (by decide) kq_69 rfl dX1_meets_9 ?_
    refine lv_aload_n G.1 G.2.1 dX1_meets_12 rfl (lv_at hl 0 rfl) ?_
    refine k1_geti G hP hj 3 (by decide) (by decide) kq_71 rfl dX1_meets_13 ?_
    refine lv_iadd G.1 G.2.1 dX1_meets_16 ?_
    refine lv_icmp_ge (tgt := 34) G.1 G.2.1 dX1_meets_17 (by decide) (fun c_17 => ?_) (fun c_17 => ?_)
    · refine lv_iconst (v := 0) G.1 G.2.1 dX1_meets_34 (by decide) ?_
      exact k_zret G hr hlocks hP hS (by decide) (by rw [f_X1_meets, if_neg c_4, if_pos c_17]) rfl rfl rfl dX1_meets_35
    · refine lv_aload_n G.1 G.2.1 dX1_meets_20 rfl (lv_at hl 0 rfl) ?_
      refine k1_geti G hP hj 2 (by decide) (by decide) kq_69 rfl dX1_meets_21 ?_
      refine lv_iload_n G.1 G.2.1 dX1_meets_24 rfl (lv_at hl 1 rfl) ?_
      refine lv_iload_n G.1 G.2.1 dX1_meets_25 rfl (lv_at hl 2 rfl) ?_
      refine lv_iadd G.1 G.2.1 dX1_meets_26 ?_
      refine lv_icmp_ge (tgt := 34) G.1 G.2.1 dX1_meets_27 (by decide) (fun c_27 => ?_) (fun c_27 => ?_)
      · refine lv_iconst (v := 0) G.1 G.2.1 dX1_meets_34 (by decide) ?_
        exact k_zret G hr hlocks hP hS (by decide) (by rw [f_X1_meets, if_neg c_4, if_neg c_17, if_pos c_27]) rfl rfl rfl dX1_meets_35
      · refine lv_iconst (v := 1) G.1 G.2.1 dX1_meets_30 (by decide) ?_
        refine lv_goto (tgt := 35) G.1 G.2.1 dX1_meets_31 (by decide) ?_
        exact k_zret G hr hlocks hP hS (by decide) (by rw [f_X1_meets, if_neg c_4, if_neg c_17, if_neg c_27]) rfl rfl rfl dX1_meets_35
/-! X1_jumpIf -/
def f_X1_jumpIf (ka : kM) (j : Nat) (p0 : Int32) (p1 : Int32) : kM :=
  if p0 = 0 then ka else (kup ka (j + 6) 5 ((ka (j + 6) 5) + p1))
set_option maxHeartbeats 4000000 in
set_option maxRecDepth 100000 in
theorem c_X1_jumpIf (l : Launch) (D : va_G) (A : Nat → Nat) (C : Nat → ClassId) (ka mu : kM) (o : Int32) (sz : Nat) (hA : kinj A) (j : Nat) (hj : j < 6) (p0 : Int32) (p1 : Int32) : kMv l yX1_jumpIf (.code yX1_jumpIf cX1_jumpIf 3 none) ({ frames := 0, cells := 0, slots := 0, locals := 0 }) D A C ka mu o sz [.ref (A (j + 6)), .int p0, .int p1]  (f_X1_jumpIf ka j p0 p1) mu o := by
  refine kMv_of hA (by decide) (Nat.le_of_ble_eq_true rfl) (fun p e s m args below meth c G hr hlocks hP hS ls hl => ?_)
  have hl : lv_has ls 3 [(0, .ref (A (j + 6))), (1, .int p0), (2, .int p1)] := hl
  refine lv_iload_n G.1 G.2.1 dX1_jumpIf_0 rfl (lv_at hl 1 rfl) ?_
  refine lv_if_eq (tgt := 14) G.1 G.2.1 dX1_jumpIf_1 (by decide) (fun c_1 => ?_) (fun c_1 => ?_)
  · exact k_vret G hr hlocks hP hS (by rw [f_X1_jumpIf, if_pos c_1]) rfl rfl dX1_jumpIf_14
  · refine lv_aload_n G.1 G.2.1 dX1_jumpIf_4 rfl (lv_at hl 0 rfl) ?_
    refine lv_dup G.1 G.2.1 dX1_jumpIf_5 rfl ?_
    refine k1_geti G hP hj 5 (by decide) (by decide) kq_73 rfl dX1_jumpIf_6 ?_
    refine lv_iload_n G.1 G.2.1 dX1_jumpIf_9 rfl (lv_at hl 2 rfl) ?_
    refine lv_iadd G.1 G.2.1 dX1_jumpIf_10 ?_
    refine k1_puti G hP hS hj 5 (by decide) (by decide) kq_73 rfl rfl rfl rfl dX1_jumpIf_11 (fun H locs hP hS => ?_)
    exact k_vret G hr hlocks hP hS (by rw [f_X1_jumpIf, if_neg c_1]) rfl rfl dX1_jumpIf_14
/-! X1_report -/
def f_X1_report (ka : kM) (j : Nat) (p0 : Int32) : Int32 :=
  if p0 = 0 then (ka (j + 6) 1) else if p0 = 1 then (ka (j + 6) 5) else if p0 = 2 then (if p0 < 2 then 0 else if (5 : Int32) < p0 then 0 else (ka (j + 12) (p0 - 2).toNatClampNeg)) else if p0 = 3 then (if p0 < 2 then 0 else if (5 : Int32) < p0 then 0 else (ka (j + 12) (p0 - 2).toNatClampNeg)) else if p0 = 4 then (if p0 < 2 then 0 else if (5 : Int32) < p0 then 0 else (ka (j + 12) (p0 - 2).toNatClampNeg)) else if p0 = 5 then (if p0 < 2 then 0 else if (5 : Int32) < p0 then 0 else (ka (j + 12) (p0 - 2).toNatClampNeg)) else if p0 = 6 then (ka (j + 6) 6) else if p0 = 7 then (ka (j + 6) 7) else if p0 = 8 then (ka (j + 6) 8) else if p0 = 9 then (ka (j + 6) 9) else if p0 < 2 then 0 else if (5 : Int32) < p0 then 0 else (ka (j + 12) (p0 - 2).toNatClampNeg)
set_option maxHeartbeats 4000000 in
set_option maxRecDepth 100000 in
theorem c_X1_report (l : Launch) (D : va_G) (A : Nat → Nat) (C : Nat → ClassId) (ka mu : kM) (o : Int32) (sz : Nat) (hA : kinj A) (j : Nat) (hj : j < 6) (p0 : Int32) : kMi l yX1_report (.code yX1_report cX1_report 2 (some .int)) ({ frames := 0, cells := 0, slots := 0, locals := 0 }) D A C ka mu o sz [.ref (A (j + 6)), .int p0] (f_X1_report ka j p0) ka mu o := by
  refine kMi_of hA (by decide) (Nat.le_of_ble_eq_true rfl) (fun p e s m args below meth c G hr hlocks hP hS ls hl => ?_)
  have hl : lv_has ls 2 [(0, .ref (A (j + 6))), (1, .int p0)] := hl
  refine lv_iload_n G.1 G.2.1 dX1_report_0 rfl (lv_at hl 1 rfl) ?_
  by_cases c_1_0 : p0 = 0
  · refine lv_tableIn (tgt := 56) G.1 G.2.1 dX1_report_1 (by rw [c_1_0]; decide) (by rw [c_1_0]; decide) (by rw [c_1_0]; rfl) (by decide) ?_
    refine lv_aload_n G.1 G.2.1 dX1_report_56 rfl (lv_at hl 0 rfl) ?_
    refine k1_geti G hP hj 1 (by decide) (by decide) kq_67 rfl dX1_report_57 ?_
    exact k_iret G hr hlocks hP hS (by rw [f_X1_report, if_pos c_1_0]) rfl rfl rfl dX1_report_60
  · by_cases c_1_1 : p0 = 1
    · refine lv_tableIn (tgt := 61) G.1 G.2.1 dX1_report_1 (by rw [c_1_1]; decide) (by rw [c_1_1]; decide) (by rw [c_1_1]; rfl) (by decide) ?_
      refine lv_aload_n G.1 G.2.1 dX1_report_61 rfl (lv_at hl 0 rfl) ?_
      refine k1_geti G hP hj 5 (by decide) (by decide) kq_73 rfl dX1_report_62 ?_
      exact k_iret G hr hlocks hP hS (by rw [f_X1_report, if_neg c_1_0, if_pos c_1_1]) rfl rfl rfl dX1_report_65
    · by_cases c_1_2 : p0 = 2
      · refine lv_tableIn (tgt := 86) G.1 G.2.1 dX1_report_1 (by rw [c_1_2]; decide) (by rw [c_1_2]; decide) (by rw [c_1_2]; rfl) (by decide) ?_
        refine lv_iload_n G.1 G.2.1 dX1_report_86 rfl (lv_at hl 1 rfl) ?_
        refine lv_iconst (v := 2) G.1 G.2.1 dX1_report_87 (by decide) ?_
        refine lv_icmp_lt (tgt := 107) G.1 G.2.1 dX1_report_88 (by decide) (fun c_88 => ?_) (fun c_88 => ?_)
        · refine lv_iconst (v := 0) G.1 G.2.1 dX1_report_107 (by decide) ?_
          exact k_iret G hr hlocks hP hS (by rw [f_X1_report, if_neg c_1_0, if_neg c_1_1, if_pos c_1_2, if_pos c_88]) rfl rfl rfl dX1_report_108
        · refine lv_iload_n G.1 G.2.1 dX1_report_91 rfl (lv_at hl 1 rfl) ?_
          refine lv_iconst (v := 5) G.1 G.2.1 dX1_report_92 (by decide) ?_
          refine lv_icmp_gt (tgt := 107) G.1 G.2.1 dX1_report_93 (by decide) (fun c_93 => ?_) (fun c_93 => ?_)
          · refine lv_iconst (v := 0) G.1 G.2.1 dX1_report_107 (by decide) ?_
            exact k_iret G hr hlocks hP hS (by rw [f_X1_report, if_neg c_1_0, if_neg c_1_1, if_pos c_1_2, if_neg c_88, if_pos c_93]) rfl rfl rfl dX1_report_108
          · refine lv_aload_n G.1 G.2.1 dX1_report_96 rfl (lv_at hl 0 rfl) ?_
            refine k1_getr G hP hj kq_65 dX1_report_97 ?_
            refine lv_iload_n G.1 G.2.1 dX1_report_100 rfl (lv_at hl 1 rfl) ?_
            refine lv_iconst (v := 2) G.1 G.2.1 dX1_report_101 (by decide) ?_
            refine lv_isub G.1 G.2.1 dX1_report_102 ?_
            refine kK_ald (r := j + 12) G hP (kI_R hj) (by omega) (kin_report c_88 c_93) dX1_report_103 ?_
            refine lv_goto (tgt := 108) G.1 G.2.1 dX1_report_104 (by decide) ?_
            exact k_iret G hr hlocks hP hS (by rw [f_X1_report, if_neg c_1_0, if_neg c_1_1, if_pos c_1_2, if_neg c_88, if_neg c_93]) rfl rfl rfl dX1_report_108
      · by_cases c_1_3 : p0 = 3
        · refine lv_tableIn (tgt := 86) G.1 G.2.1 dX1_report_1 (by rw [c_1_3]; decide) (by rw [c_1_3]; decide) (by rw [c_1_3]; rfl) (by decide) ?_
          refine lv_iload_n G.1 G.2.1 dX1_report_86 rfl (lv_at hl 1 rfl) ?_
          refine lv_iconst (v := 2) G.1 G.2.1 dX1_report_87 (by decide) ?_
          refine lv_icmp_lt (tgt := 107) G.1 G.2.1 dX1_report_88 (by decide) (fun c_88 => ?_) (fun c_88 => ?_)
          · refine lv_iconst (v := 0) G.1 G.2.1 dX1_report_107 (by decide) ?_
            exact k_iret G hr hlocks hP hS (by rw [f_X1_report, if_neg c_1_0, if_neg c_1_1, if_neg c_1_2, if_pos c_1_3, if_pos c_88]) rfl rfl rfl dX1_report_108
          · refine lv_iload_n G.1 G.2.1 dX1_report_91 rfl (lv_at hl 1 rfl) ?_
            refine lv_iconst (v := 5) G.1 G.2.1 dX1_report_92 (by decide) ?_
            refine lv_icmp_gt (tgt := 107) G.1 G.2.1 dX1_report_93 (by decide) (fun c_93 => ?_) (fun c_93 => ?_)
            · refine lv_iconst (v := 0) G.1 G.2.1 dX1_report_107 (by decide) ?_
              exact k_iret G hr hlocks hP hS (by rw [f_X1_report, if_neg c_1_0, if_neg c_1_1, if_neg c_1_2, if_pos c_1_3, if_neg c_88, if_pos c_93]) rfl rfl rfl dX1_report_108
            · refine lv_aload_n G.1 G.2.1 dX1_report_96 rfl (lv_at hl 0 rfl) ?_
              refine k1_getr G hP hj kq_65 dX1_report_97 ?_
              refine lv_iload_n G.1 G.2.1 dX1_report_100 rfl (lv_at hl 1 rfl) ?_
              refine lv_iconst (v := 2) G.1 G.2.1 dX1_report_101 (by decide) ?_
              refine lv_isub G.1 G.2.1 dX1_report_102 ?_
              refine kK_ald (r := j + 12) G hP (kI_R hj) (by omega) (kin_report c_88 c_93) dX1_report_103 ?_
              refine lv_goto (tgt := 108) G.1 G.2.1 dX1_report_104 (by decide) ?_
              exact k_iret G hr hlocks hP hS (by rw [f_X1_report, if_neg c_1_0, if_neg c_1_1, if_neg c_1_2, if_pos c_1_3, if_neg c_88, if_neg c_93]) rfl rfl rfl dX1_report_108
        · by_cases c_1_4 : p0 = 4
          · refine lv_tableIn (tgt := 86) G.1 G.2.1 dX1_report_1 (by rw [c_1_4]; decide) (by rw [c_1_4]; decide) (by rw [c_1_4]; rfl) (by decide) ?_
            refine lv_iload_n G.1 G.2.1 dX1_report_86 rfl (lv_at hl 1 rfl) ?_
            refine lv_iconst (v := 2) G.1 G.2.1 dX1_report_87 (by decide) ?_
            refine lv_icmp_lt (tgt := 107) G.1 G.2.1 dX1_report_88 (by decide) (fun c_88 => ?_) (fun c_88 => ?_)
            · refine lv_iconst (v := 0) G.1 G.2.1 dX1_report_107 (by decide) ?_
              exact k_iret G hr hlocks hP hS (by rw [f_X1_report, if_neg c_1_0, if_neg c_1_1, if_neg c_1_2, if_neg c_1_3, if_pos c_1_4, if_pos c_88]) rfl rfl rfl dX1_report_108
            · refine lv_iload_n G.1 G.2.1 dX1_report_91 rfl (lv_at hl 1 rfl) ?_
              refine lv_iconst (v := 5) G.1 G.2.1 dX1_report_92 (by decide) ?_
              refine lv_icmp_gt (tgt := 107) G.1 G.2.1 dX1_report_93 (by decide) (fun c_93 => ?_) (fun c_93 => ?_)
              · refine lv_iconst (v := 0) G.1 G.2.1 dX1_report_107 (by decide) ?_
                exact k_iret G hr hlocks hP hS (by rw [f_X1_report, if_neg c_1_0, if_neg c_1_1, if_neg c_1_2, if_neg c_1_3, if_pos c_1_4, if_neg c_88, if_pos c_93]) rfl rfl rfl dX1_report_108
              · refine lv_aload_n G.1 G.2.1 dX1_report_96 rfl (lv_at hl 0 rfl) ?_
                refine k1_getr G hP hj kq_65 dX1_report_97 ?_
                refine lv_iload_n G.1 G.2.1 dX1_report_100 rfl (lv_at hl 1 rfl) ?_
                refine lv_iconst (v := 2) G.1 G.2.1 dX1_report_101 (by decide) ?_
                refine lv_isub G.1 G.2.1 dX1_report_102 ?_
                refine kK_ald (r := j + 12) G hP (kI_R hj) (by omega) (kin_report c_88 c_93) dX1_report_103 ?_
                refine lv_goto (tgt := 108) G.1 G.2.1 dX1_report_104 (by decide) ?_
                exact k_iret G hr hlocks hP hS (by rw [f_X1_report, if_neg c_1_0, if_neg c_1_1, if_neg c_1_2, if_neg c_1_3, if_pos c_1_4, if_neg c_88, if_neg c_93]) rfl rfl rfl dX1_report_108
          · by_cases c_1_5 : p0 = 5
            · refine lv_tableIn (tgt := 86) G.1 G.2.1 dX1_report_1 (by rw [c_1_5]; decide) (by rw [c_1_5]; decide) (by rw [c_1_5]; rfl) (by decide) ?_
              refine lv_iload_n G.1 G.2.1 dX1_report_86 rfl (lv_at hl 1 rfl) ?_
              refine lv_iconst (v := 2) G.1 G.2.1 dX1_report_87 (by decide) ?_
              refine lv_icmp_lt (tgt := 107) G.1 G.2.1 dX1_report_88 (by decide) (fun c_88 => ?_) (fun c_88 => ?_)
              · refine lv_iconst (v := 0) G.1 G.2.1 dX1_report_107 (by decide) ?_
                exact k_iret G hr hlocks hP hS (by rw [f_X1_report, if_neg c_1_0, if_neg c_1_1, if_neg c_1_2, if_neg c_1_3, if_neg c_1_4, if_pos c_1_5, if_pos c_88]) rfl rfl rfl dX1_report_108
              · refine lv_iload_n G.1 G.2.1 dX1_report_91 rfl (lv_at hl 1 rfl) ?_
                refine lv_iconst (v := 5) G.1 G.2.1 dX1_report_92 (by decide) ?_
                refine lv_icmp_gt (tgt := 107) G.1 G.2.1 dX1_report_93 (by decide) (fun c_93 => ?_) (fun c_93 => ?_)
                · refine lv_iconst (v := 0) G.1 G.2.1 dX1_report_107 (by decide) ?_
                  exact k_iret G hr hlocks hP hS (by rw [f_X1_report, if_neg c_1_0, if_neg c_1_1, if_neg c_1_2, if_neg c_1_3, if_neg c_1_4, if_pos c_1_5, if_neg c_88, if_pos c_93]) rfl rfl rfl dX1_report_108
                · refine lv_aload_n G.1 G.2.1 dX1_report_96 rfl (lv_at hl 0 rfl) ?_
                  refine k1_getr G hP hj kq_65 dX1_report_97 ?_
                  refine lv_iload_n G.1 G.2.1 dX1_report_100 rfl (lv_at hl 1 rfl) ?_
                  refine lv_iconst (v := 2) G.1 G.2.1 dX1_report_101 (by decide) ?_
                  refine lv_isub G.1 G.2.1 dX1_report_102 ?_
                  refine kK_ald (r := j + 12) G hP (kI_R hj) (by omega) (kin_report c_88 c_93) dX1_report_103 ?_
                  refine lv_goto (tgt := 108) G.1 G.2.1 dX1_report_104 (by decide) ?_
                  exact k_iret G hr hlocks hP hS (by rw [f_X1_report, if_neg c_1_0, if_neg c_1_1, if_neg c_1_2, if_neg c_1_3, if_neg c_1_4, if_pos c_1_5, if_neg c_88, if_neg c_93]) rfl rfl rfl dX1_report_108
            · by_cases c_1_6 : p0 = 6
              · refine lv_tableIn (tgt := 66) G.1 G.2.1 dX1_report_1 (by rw [c_1_6]; decide) (by rw [c_1_6]; decide) (by rw [c_1_6]; rfl) (by decide) ?_
                refine lv_aload_n G.1 G.2.1 dX1_report_66 rfl (lv_at hl 0 rfl) ?_
                refine k1_geti G hP hj 6 (by decide) (by decide) kq_75 rfl dX1_report_67 ?_
                exact k_iret G hr hlocks hP hS (by rw [f_X1_report, if_neg c_1_0, if_neg c_1_1, if_neg c_1_2, if_neg c_1_3, if_neg c_1_4, if_neg c_1_5, if_pos c_1_6]) rfl rfl rfl dX1_report_70
              · by_cases c_1_7 : p0 = 7
                · refine lv_tableIn (tgt := 71) G.1 G.2.1 dX1_report_1 (by rw [c_1_7]; decide) (by rw [c_1_7]; decide) (by rw [c_1_7]; rfl) (by decide) ?_
                  refine lv_aload_n G.1 G.2.1 dX1_report_71 rfl (lv_at hl 0 rfl) ?_
                  refine k1_geti G hP hj 7 (by decide) (by decide) kq_77 rfl dX1_report_72 ?_
                  exact k_iret G hr hlocks hP hS (by rw [f_X1_report, if_neg c_1_0, if_neg c_1_1, if_neg c_1_2, if_neg c_1_3, if_neg c_1_4, if_neg c_1_5, if_neg c_1_6, if_pos c_1_7]) rfl rfl rfl dX1_report_75
                · by_cases c_1_8 : p0 = 8
                  · refine lv_tableIn (tgt := 76) G.1 G.2.1 dX1_report_1 (by rw [c_1_8]; decide) (by rw [c_1_8]; decide) (by rw [c_1_8]; rfl) (by decide) ?_
                    refine lv_aload_n G.1 G.2.1 dX1_report_76 rfl (lv_at hl 0 rfl) ?_
                    refine k1_geti G hP hj 8 (by decide) (by decide) kq_78 rfl dX1_report_77 ?_
                    exact k_iret G hr hlocks hP hS (by rw [f_X1_report, if_neg c_1_0, if_neg c_1_1, if_neg c_1_2, if_neg c_1_3, if_neg c_1_4, if_neg c_1_5, if_neg c_1_6, if_neg c_1_7, if_pos c_1_8]) rfl rfl rfl dX1_report_80
                  · by_cases c_1_9 : p0 = 9
                    · refine lv_tableIn (tgt := 81) G.1 G.2.1 dX1_report_1 (by rw [c_1_9]; decide) (by rw [c_1_9]; decide) (by rw [c_1_9]; rfl) (by decide) ?_
                      refine lv_aload_n G.1 G.2.1 dX1_report_81 rfl (lv_at hl 0 rfl) ?_
                      refine k1_geti G hP hj 9 (by decide) (by decide) kq_79 rfl dX1_report_82 ?_
                      exact k_iret G hr hlocks hP hS (by rw [f_X1_report, if_neg c_1_0, if_neg c_1_1, if_neg c_1_2, if_neg c_1_3, if_neg c_1_4, if_neg c_1_5, if_neg c_1_6, if_neg c_1_7, if_neg c_1_8, if_pos c_1_9]) rfl rfl rfl dX1_report_85
                    · refine lv_tableOut (tgt := 86) G.1 G.2.1 dX1_report_1 (by have q0 := lv_neT c_1_0 (a := 0) (by decide); have q1 := lv_neT c_1_1 (a := 1) (by decide); have q2 := lv_neT c_1_2 (a := 2) (by decide); have q3 := lv_neT c_1_3 (a := 3) (by decide); have q4 := lv_neT c_1_4 (a := 4) (by decide); have q5 := lv_neT c_1_5 (a := 5) (by decide); have q6 := lv_neT c_1_6 (a := 6) (by decide); have q7 := lv_neT c_1_7 (a := 7) (by decide); have q8 := lv_neT c_1_8 (a := 8) (by decide); have q9 := lv_neT c_1_9 (a := 9) (by decide); omega) (by decide) ?_
                      refine lv_iload_n G.1 G.2.1 dX1_report_86 rfl (lv_at hl 1 rfl) ?_
                      refine lv_iconst (v := 2) G.1 G.2.1 dX1_report_87 (by decide) ?_
                      refine lv_icmp_lt (tgt := 107) G.1 G.2.1 dX1_report_88 (by decide) (fun c_88 => ?_) (fun c_88 => ?_)
                      · refine lv_iconst (v := 0) G.1 G.2.1 dX1_report_107 (by decide) ?_
                        exact k_iret G hr hlocks hP hS (by rw [f_X1_report, if_neg c_1_0, if_neg c_1_1, if_neg c_1_2, if_neg c_1_3, if_neg c_1_4, if_neg c_1_5, if_neg c_1_6, if_neg c_1_7, if_neg c_1_8, if_neg c_1_9, if_pos c_88]) rfl rfl rfl dX1_report_108
                      · refine lv_iload_n G.1 G.2.1 dX1_report_91 rfl (lv_at hl 1 rfl) ?_
                        refine lv_iconst (v := 5) G.1 G.2.1 dX1_report_92 (by decide) ?_
                        refine lv_icmp_gt (tgt := 107) G.1 G.2.1 dX1_report_93 (by decide) (fun c_93 => ?_) (fun c_93 => ?_)
                        · refine lv_iconst (v := 0) G.1 G.2.1 dX1_report_107 (by decide) ?_
                          exact k_iret G hr hlocks hP hS (by rw [f_X1_report, if_neg c_1_0, if_neg c_1_1, if_neg c_1_2, if_neg c_1_3, if_neg c_1_4, if_neg c_1_5, if_neg c_1_6, if_neg c_1_7, if_neg c_1_8, if_neg c_1_9, if_neg c_88, if_pos c_93]) rfl rfl rfl dX1_report_108
                        · refine lv_aload_n G.1 G.2.1 dX1_report_96 rfl (lv_at hl 0 rfl) ?_
                          refine k1_getr G hP hj kq_65 dX1_report_97 ?_
                          refine lv_iload_n G.1 G.2.1 dX1_report_100 rfl (lv_at hl 1 rfl) ?_
                          refine lv_iconst (v := 2) G.1 G.2.1 dX1_report_101 (by decide) ?_
                          refine lv_isub G.1 G.2.1 dX1_report_102 ?_
                          refine kK_ald (r := j + 12) G hP (kI_R hj) (by omega) (kin_report c_88 c_93) dX1_report_103 ?_
                          refine lv_goto (tgt := 108) G.1 G.2.1 dX1_report_104 (by decide) ?_
                          exact k_iret G hr hlocks hP hS (by rw [f_X1_report, if_neg c_1_0, if_neg c_1_1, if_neg c_1_2, if_neg c_1_3, if_neg c_1_4, if_neg c_1_5, if_neg c_1_6, if_neg c_1_7, if_neg c_1_8, if_neg c_1_9, if_neg c_88, if_neg c_93]) rfl rfl rfl dX1_report_108
/-! X1_restartAfter -/
def f_X1_restartAfter (ka : kM) (j : Nat) (p0 : Int32) : Int32 × kM :=
  if ((kup (kup ka (j + 6) 8 p0) (j + 6) 9 (((kup ka (j + 6) 8 p0) (j + 6) 9) + 1)) (j + 6) 7) = 0 then (0, kup (kup (kup ka (j + 6) 8 p0) (j + 6) 9 (((kup ka (j + 6) 8 p0) (j + 6) 9) + 1)) (j + 6) 1 3) else (1, kup (f_J7_fill_53178 (kup (kup (kup ka (j + 6) 8 p0) (j + 6) 9 (((kup ka (j + 6) 8 p0) (j + 6) 9) + 1)) (j + 6) 7 (((kup (kup ka (j + 6) 8 p0) (j + 6) 9 (((kup ka (j + 6) 8 p0) (j + 6) 9) + 1)) (j + 6) 7) - 1)) j 0) (j + 6) 5 ((f_J7_fill_53178 (kup (kup (kup ka (j + 6) 8 p0) (j + 6) 9 (((kup ka (j + 6) 8 p0) (j + 6) 9) + 1)) (j + 6) 7 (((kup (kup ka (j + 6) 8 p0) (j + 6) 9 (((kup ka (j + 6) 8 p0) (j + 6) 9) + 1)) (j + 6) 7) - 1)) j 0) (j + 6) 4))
set_option maxHeartbeats 4000000 in
set_option maxRecDepth 100000 in
theorem c_X1_restartAfter (l : Launch) (D : va_G) (A : Nat → Nat) (C : Nat → ClassId) (ka mu : kM) (o : Int32) (sz : Nat) (hA : kinj A) (j : Nat) (hj : j < 6) (p0 : Int32) : kMi l yX1_restartAfter (.code yX1_restartAfter cX1_restartAfter 2 (some .boolean)) ({ frames := 1, cells := 0, slots := 0, locals := 23 }) D A C ka mu o sz [.ref (A (j + 6)), .int p0] ((f_X1_restartAfter ka j p0).1) ((f_X1_restartAfter ka j p0).2) mu o := by
  refine kMi_of hA (by decide) (Nat.le_of_ble_eq_true rfl) (fun p e s m args below meth c G hr hlocks hP hS ls hl => ?_)
  have hl : lv_has ls 2 [(0, .ref (A (j + 6))), (1, .int p0)] := hl
  refine lv_aload_n G.1 G.2.1 dX1_restartAfter_0 rfl (lv_at hl 0 rfl) ?_
  refine lv_iload_n G.1 G.2.1 dX1_restartAfter_1 rfl (lv_at hl 1 rfl) ?_
  refine k1_puti G hP hS hj 8 (by decide) (by decide) kq_78 rfl rfl rfl rfl dX1_restartAfter_2 (fun H locs hP hS => ?_)
  refine lv_aload_n G.1 G.2.1 dX1_restartAfter_5 rfl (lv_at hl 0 rfl) ?_
  refine lv_dup G.1 G.2.1 dX1_restartAfter_6 rfl ?_
  refine k1_geti G hP hj 9 (by decide) (by decide) kq_79 rfl dX1_restartAfter_7 ?_
  refine lv_iconst (v := 1) G.1 G.2.1 dX1_restartAfter_10 (by decide) ?_
  refine lv_iadd G.1 G.2.1 dX1_restartAfter_11 ?_
  refine k1_puti G hP hS hj 9 (by decide) (by decide) kq_79 rfl rfl rfl rfl dX1_restartAfter_12 (fun H locs hP hS => ?_)
  refine lv_aload_n G.1 G.2.1 dX1_restartAfter_15 rfl (lv_at hl 0 rfl) ?_
  refine k1_geti G hP hj 7 (by decide) (by decide) kq_77 rfl dX1_restartAfter_16 ?_
  refine lv_if_ne (tgt := 29) G.1 G.2.1 dX1_restartAfter_19 (by decide) (fun c_19 => ?_) (fun c_19 => ?_)
  · refine lv_aload_n G.1 G.2.1 dX1_restartAfter_29 rfl (lv_at hl 0 rfl) ?_
    refine lv_dup G.1 G.2.1 dX1_restartAfter_30 rfl ?_
    refine k1_geti G hP hj 7 (by decide) (by decide) kq_77 rfl dX1_restartAfter_31 ?_
    refine lv_iconst (v := 1) G.1 G.2.1 dX1_restartAfter_34 (by decide) ?_
    refine lv_isub G.1 G.2.1 dX1_restartAfter_35 ?_
    refine k1_puti G hP hS hj 7 (by decide) (by decide) kq_77 rfl rfl rfl rfl dX1_restartAfter_36 (fun H locs hP hS => ?_)
    refine lv_aload_n G.1 G.2.1 dX1_restartAfter_39 rfl (lv_at hl 0 rfl) ?_
    refine k1_getr G hP hj kq_65 dX1_restartAfter_40 ?_
    refine lv_iconst (v := 0) G.1 G.2.1 dX1_restartAfter_43 (by decide) ?_
    refine k_Sv (As := [.ref (A (j + 12)), .int 0]) (rest := []) G hP hS hl.1 kl_X1_44 yk_J7_fill_53178 (c_J7_fill_53178 l D A C _ _ _ _ G.2.2.2.2.2.2 j hj 0 )  (by decide) (by decide) rfl (Nat.le_of_ble_eq_true rfl) dX1_restartAfter_44 (fun H locs hP hS => ?_)
    refine lv_aload_n G.1 G.2.1 dX1_restartAfter_47 rfl (lv_at hl 0 rfl) ?_
    refine lv_aload_n G.1 G.2.1 dX1_restartAfter_48 rfl (lv_at hl 0 rfl) ?_
    refine k1_geti G hP hj 4 (by decide) (by decide) kq_72 rfl dX1_restartAfter_49 ?_
    refine k1_puti G hP hS hj 5 (by decide) (by decide) kq_73 rfl rfl rfl rfl dX1_restartAfter_52 (fun H locs hP hS => ?_)
    refine lv_iconst (v := 1) G.1 G.2.1 dX1_restartAfter_55 (by decide) ?_
    exact k_zret G hr hlocks hP hS (by decide) (by rw [f_X1_restartAfter, if_neg c_19]) (by rw [f_X1_restartAfter, if_neg c_19]) rfl rfl dX1_restartAfter_56
  · refine lv_aload_n G.1 G.2.1 dX1_restartAfter_22 rfl (lv_at hl 0 rfl) ?_
    refine lv_iconst (v := 3) G.1 G.2.1 dX1_restartAfter_23 (by decide) ?_
    refine k1_puti G hP hS hj 1 (by decide) (by decide) kq_67 rfl rfl rfl rfl dX1_restartAfter_24 (fun H locs hP hS => ?_)
    refine lv_iconst (v := 0) G.1 G.2.1 dX1_restartAfter_27 (by decide) ?_
    exact k_zret G hr hlocks hP hS (by decide) (by rw [f_X1_restartAfter, if_pos c_19]) (by rw [f_X1_restartAfter, if_pos c_19]) rfl rfl dX1_restartAfter_28
end
section
/-! X0_tell -/
def f_X0_tell (ka : kM) (j : Nat) (p0 : Int32) (p1 : Int32) (p2 : Int32) : kM :=
  (kup (kup (kup (kup ka (j + 18) 1 1) (j + 18) 2 p0) (j + 18) 3 p1) (j + 18) 4 p2)
set_option maxHeartbeats 4000000 in
set_option maxRecDepth 100000 in
theorem c_X0_tell (l : Launch) (D : va_G) (A : Nat → Nat) (C : Nat → ClassId) (ka mu : kM) (o : Int32) (sz : Nat) (hA : kinj A) (j : Nat) (hj : j < 8) (p0 : Int32) (p1 : Int32) (p2 : Int32) : kMv l yX0_tell (.code yX0_tell cX0_tell 4 none) ({ frames := 0, cells := 0, slots := 0, locals := 0 }) D A C ka mu o sz [.ref (A (j + 18)), .int p0, .int p1, .int p2]  (f_X0_tell ka j p0 p1 p2) mu o := by
  refine kMv_of hA (by decide) (Nat.le_of_ble_eq_true rfl) (fun p e s m args below meth c G hr hlocks hP hS ls hl => ?_)
  have hl : lv_has ls 4 [(0, .ref (A (j + 18))), (1, .int p0), (2, .int p1), (3, .int p2)] := hl
  refine lv_aload_n G.1 G.2.1 dX0_tell_0 rfl (lv_at hl 0 rfl) ?_
  refine lv_iconst (v := 1) G.1 G.2.1 dX0_tell_1 (by decide) ?_
  refine k0_puti G hP hS hj 1 (by decide) (by decide) kq_110 rfl rfl (by decide) (by decide) dX0_tell_2 (fun H locs hP hS => ?_)
  refine lv_aload_n G.1 G.2.1 dX0_tell_5 rfl (lv_at hl 0 rfl) ?_
  refine lv_iload_n G.1 G.2.1 dX0_tell_6 rfl (lv_at hl 1 rfl) ?_
  refine k0_puti G hP hS hj 2 (by decide) (by decide) kq_112 rfl rfl rfl rfl dX0_tell_7 (fun H locs hP hS => ?_)
  refine lv_aload_n G.1 G.2.1 dX0_tell_10 rfl (lv_at hl 0 rfl) ?_
  refine lv_iload_n G.1 G.2.1 dX0_tell_11 rfl (lv_at hl 2 rfl) ?_
  refine k0_puti G hP hS hj 3 (by decide) (by decide) kq_114 rfl rfl rfl rfl dX0_tell_12 (fun H locs hP hS => ?_)
  refine lv_aload_n G.1 G.2.1 dX0_tell_15 rfl (lv_at hl 0 rfl) ?_
  refine lv_iload_n G.1 G.2.1 dX0_tell_16 rfl (lv_at hl 3 rfl) ?_
  refine k0_puti G hP hS hj 4 (by decide) (by decide) kq_116 rfl rfl rfl rfl dX0_tell_17 (fun H locs hP hS => ?_)
  exact k_vret G hr hlocks hP hS (by rw [f_X0_tell]) rfl rfl dX0_tell_20
/-! X0_isSlot -/
def f_X0_isSlot (ka : kM) (j : Nat) : Int32 :=
  if (ka (j + 18) 4) = 0 then 1 else 0
set_option maxHeartbeats 4000000 in
set_option maxRecDepth 100000 in
theorem c_X0_isSlot (l : Launch) (D : va_G) (A : Nat → Nat) (C : Nat → ClassId) (ka mu : kM) (o : Int32) (sz : Nat) (hA : kinj A) (j : Nat) (hj : j < 8) : kMi l yX0_isSlot (.code yX0_isSlot cX0_isSlot 1 (some .boolean)) ({ frames := 0, cells := 0, slots := 0, locals := 0 }) D A C ka mu o sz [.ref (A (j + 18))] (f_X0_isSlot ka j) ka mu o := by
  refine kMi_of hA (by decide) (Nat.le_of_ble_eq_true rfl) (fun p e s m args below meth c G hr hlocks hP hS ls hl => ?_)
  have hl : lv_has ls 1 [(0, .ref (A (j + 18)))] := hl
  refine lv_aload_n G.1 G.2.1 dX0_isSlot_0 rfl (lv_at hl 0 rfl) ?_
  refine k0_geti G hP hj 4 (by decide) (by decide) kq_116 rfl dX0_isSlot_1 ?_
  refine lv_if_ne (tgt := 11) G.1 G.2.1 dX0_isSlot_4 (by decide) (fun c_4 => ?_) (fun c_4 => ?_)
  · refine lv_iconst (v := 0) G.1 G.2.1 dX0_isSlot_11 (by decide) ?_
    exact k_zret G hr hlocks hP hS (by decide) (by rw [f_X0_isSlot, if_neg c_4]) rfl rfl rfl dX0_isSlot_12
  · refine lv_iconst (v := 1) G.1 G.2.1 dX0_isSlot_7 (by decide) ?_
    refine lv_goto (tgt := 12) G.1 G.2.1 dX0_isSlot_8 (by decide) ?_
    exact k_zret G hr hlocks hP hS (by decide) (by rw [f_X0_isSlot, if_pos c_4]) rfl rfl rfl dX0_isSlot_12
/-! X0_spotOf -/
def f_X0_spotOf (ka : kM) (j : Nat) (p0 : Int32) : Int32 :=
  (((ka (j + 18) 5) + p0) &&& 7)
set_option maxHeartbeats 4000000 in
set_option maxRecDepth 100000 in
theorem c_X0_spotOf (l : Launch) (D : va_G) (A : Nat → Nat) (C : Nat → ClassId) (ka mu : kM) (o : Int32) (sz : Nat) (hA : kinj A) (j : Nat) (hj : j < 8) (p0 : Int32) : kMi l yX0_spotOf (.code yX0_spotOf cX0_spotOf 2 (some .int)) ({ frames := 0, cells := 0, slots := 0, locals := 0 }) D A C ka mu o sz [.ref (A (j + 18)), .int p0] (f_X0_spotOf ka j p0) ka mu o := by
  refine kMi_of hA (by decide) (Nat.le_of_ble_eq_true rfl) (fun p e s m args below meth c G hr hlocks hP hS ls hl => ?_)
  have hl : lv_has ls 2 [(0, .ref (A (j + 18))), (1, .int p0)] := hl
  refine lv_aload_n G.1 G.2.1 dX0_spotOf_0 rfl (lv_at hl 0 rfl) ?_
  refine k0_geti G hP hj 5 (by decide) (by decide) kq_117 rfl dX0_spotOf_1 ?_
  refine lv_iload_n G.1 G.2.1 dX0_spotOf_4 rfl (lv_at hl 1 rfl) ?_
  refine lv_iadd G.1 G.2.1 dX0_spotOf_5 ?_
  refine lv_bipush (v := 7) G.1 G.2.1 dX0_spotOf_6 (by decide) ?_
  refine lv_iand G.1 G.2.1 dX0_spotOf_8 ?_
  exact k_iret G hr hlocks hP hS (by rw [f_X0_spotOf]) rfl rfl rfl dX0_spotOf_9
/-! X0_put -/
def f_X0_put (ka : kM) (j : Nat) (p0 : Int32) (p1 : Int32) : Int32 × kM :=
  if (f_X0_isSlot ka j) = 0 then (if (ka (j + 18) 4) ≤ (ka (j + 18) 6) then (0, kup ka (j + 18) 9 ((ka (j + 18) 9) + 1)) else (1, kup (kup (kup ka (j + 26) (f_X0_spotOf ka j (ka (j + 18) 6)).toNatClampNeg p0) (j + 18) 6 (((kup ka (j + 26) (f_X0_spotOf ka j (ka (j + 18) 6)).toNatClampNeg p0) (j + 18) 6) + 1)) (j + 18) 8 (((kup (kup ka (j + 26) (f_X0_spotOf ka j (ka (j + 18) 6)).toNatClampNeg p0) (j + 18) 6 (((kup ka (j + 26) (f_X0_spotOf ka j (ka (j + 18) 6)).toNatClampNeg p0) (j + 18) 6) + 1)) (j + 18) 8) + 1))) else (1, kup (kup (kup (kup ka (j + 26) (0 : Int32).toNatClampNeg p0) (j + 18) 6 1) (j + 18) 7 p1) (j + 18) 8 (((kup (kup (kup ka (j + 26) (0 : Int32).toNatClampNeg p0) (j + 18) 6 1) (j + 18) 7 p1) (j + 18) 8) + 1))
set_option maxHeartbeats 4000000 in
set_option maxRecDepth 100000 in
theorem c_X0_put (l : Launch) (D : va_G) (A : Nat → Nat) (C : Nat → ClassId) (ka mu : kM) (o : Int32) (sz : Nat) (hA : kinj A) (j : Nat) (hj : j < 8) (p0 : Int32) (p1 : Int32) : kMi l yX0_put (.code yX0_put cX0_put 3 (some .boolean)) ({ frames := 1, cells := 0, slots := 0, locals := 21 }) D A C ka mu o sz [.ref (A (j + 18)), .int p0, .int p1] ((f_X0_put ka j p0 p1).1) ((f_X0_put ka j p0 p1).2) mu o := by
  refine kMi_of hA (by decide) (Nat.le_of_ble_eq_true rfl) (fun p e s m args below meth c G hr hlocks hP hS ls hl => ?_)
  have hl : lv_has ls 3 [(0, .ref (A (j + 18))), (1, .int p0), (2, .int p1)] := hl
  refine lv_aload_n G.1 G.2.1 dX0_put_0 rfl (lv_at hl 0 rfl) ?_
  refine k_Vi (As := []) (rest := []) G hP hS hl.1 kl_X0_29 yk_X0_isSlot (c_X0_isSlot l D A C _ _ _ _ G.2.2.2.2.2.2 j hj ) (kr0 G hP hj) (by decide) (by decide) rfl (Nat.le_of_ble_eq_true rfl) dX0_put_1 (fun H locs hP hS => ?_)
  refine lv_if_eq (tgt := 27) G.1 G.2.1 dX0_put_4 (by decide) (fun c_4 => ?_) (fun c_4 => ?_)
  · refine lv_aload_n G.1 G.2.1 dX0_put_27 rfl (lv_at hl 0 rfl) ?_
    refine k0_geti G hP hj 6 (by decide) (by decide) kq_118 rfl dX0_put_28 ?_
    refine lv_aload_n G.1 G.2.1 dX0_put_31 rfl (lv_at hl 0 rfl) ?_
    refine k0_geti G hP hj 4 (by decide) (by decide) kq_116 rfl dX0_put_32 ?_
    refine lv_icmp_ge (tgt := 65) G.1 G.2.1 dX0_put_35 (by decide) (fun c_35 => ?_) (fun c_35 => ?_)
    · refine lv_aload_n G.1 G.2.1 dX0_put_65 rfl (lv_at hl 0 rfl) ?_
      refine lv_dup G.1 G.2.1 dX0_put_66 rfl ?_
      refine k0_geti G hP hj 9 (by decide) (by decide) kq_122 rfl dX0_put_67 ?_
      refine lv_iconst (v := 1) G.1 G.2.1 dX0_put_70 (by decide) ?_
      refine lv_iadd G.1 G.2.1 dX0_put_71 ?_
      refine k0_puti G hP hS hj 9 (by decide) (by decide) kq_122 rfl rfl rfl rfl dX0_put_72 (fun H locs hP hS => ?_)
      refine lv_iconst (v := 0) G.1 G.2.1 dX0_put_75 (by decide) ?_
      exact k_zret G hr hlocks hP hS (by decide) (by rw [f_X0_put, if_pos c_4, if_pos c_35]) (by rw [f_X0_put, if_pos c_4, if_pos c_35]) rfl rfl dX0_put_76
    · refine lv_aload_n G.1 G.2.1 dX0_put_38 rfl (lv_at hl 0 rfl) ?_
      refine k0_getr G hP hj kq_109 dX0_put_39 ?_
      refine lv_aload_n G.1 G.2.1 dX0_put_42 rfl (lv_at hl 0 rfl) ?_
      refine lv_aload_n G.1 G.2.1 dX0_put_43 rfl (lv_at hl 0 rfl) ?_
      refine k0_geti G hP hj 6 (by decide) (by decide) kq_118 rfl dX0_put_44 ?_
      refine k_Vi (As := [.int (ka (j + 18) 6)]) (rest := [.ref (A (j + 26))]) G hP hS hl.1 kl_X0_39 yk_X0_spotOf (c_X0_spotOf l D A C _ _ _ _ G.2.2.2.2.2.2 j hj (ka (j + 18) 6) ) (kr0 G hP hj) (by decide) (by decide) rfl (Nat.le_of_ble_eq_true rfl) dX0_put_47 (fun H locs hP hS => ?_)
      refine lv_iload_n G.1 G.2.1 dX0_put_50 rfl (lv_at hl 1 rfl) ?_
      refine kK_ast (r := j + 26) G hP hS (kI_W hj) (by omega) (kin_and7 _) dX0_put_51 (fun H locs hP hS => ?_)
      refine lv_aload_n G.1 G.2.1 dX0_put_52 rfl (lv_at hl 0 rfl) ?_
      refine lv_dup G.1 G.2.1 dX0_put_53 rfl ?_
      refine k0_geti G hP hj 6 (by decide) (by decide) kq_118 rfl dX0_put_54 ?_
      refine lv_iconst (v := 1) G.1 G.2.1 dX0_put_57 (by decide) ?_
      refine lv_iadd G.1 G.2.1 dX0_put_58 ?_
      refine k0_puti G hP hS hj 6 (by decide) (by decide) kq_118 rfl rfl rfl rfl dX0_put_59 (fun H locs hP hS => ?_)
      refine lv_goto (tgt := 77) G.1 G.2.1 dX0_put_62 (by decide) ?_
      refine lv_aload_n G.1 G.2.1 dX0_put_77 rfl (lv_at hl 0 rfl) ?_
      refine lv_dup G.1 G.2.1 dX0_put_78 rfl ?_
      refine k0_geti G hP hj 8 (by decide) (by decide) kq_121 rfl dX0_put_79 ?_
      refine lv_iconst (v := 1) G.1 G.2.1 dX0_put_82 (by decide) ?_
      refine lv_iadd G.1 G.2.1 dX0_put_83 ?_
      refine k0_puti G hP hS hj 8 (by decide) (by decide) kq_121 rfl rfl rfl rfl dX0_put_84 (fun H locs hP hS => ?_)
      refine lv_iconst (v := 1) G.1 G.2.1 dX0_put_87 (by decide) ?_
      exact k_zret G hr hlocks hP hS (by decide) (by rw [f_X0_put, if_pos c_4, if_neg c_35]) (by rw [f_X0_put, if_pos c_4, if_neg c_35]) rfl rfl dX0_put_88
  · refine lv_aload_n G.1 G.2.1 dX0_put_7 rfl (lv_at hl 0 rfl) ?_
    refine k0_getr G hP hj kq_109 dX0_put_8 ?_
    refine lv_iconst (v := 0) G.1 G.2.1 dX0_put_11 (by decide) ?_
    refine lv_iload_n G.1 G.2.1 dX0_put_12 rfl (lv_at hl 1 rfl) ?_
    refine kK_ast (r := j + 26) G hP hS (kI_W hj) (by omega) (by unfold vp_in; decide) dX0_put_13 (fun H locs hP hS => ?_)
    refine lv_aload_n G.1 G.2.1 dX0_put_14 rfl (lv_at hl 0 rfl) ?_
    refine lv_iconst (v := 1) G.1 G.2.1 dX0_put_15 (by decide) ?_
    refine k0_puti G hP hS hj 6 (by decide) (by decide) kq_118 rfl rfl rfl rfl dX0_put_16 (fun H locs hP hS => ?_)
    refine lv_aload_n G.1 G.2.1 dX0_put_19 rfl (lv_at hl 0 rfl) ?_
    refine lv_iload_n G.1 G.2.1 dX0_put_20 rfl (lv_at hl 2 rfl) ?_
    refine k0_puti G hP hS hj 7 (by decide) (by decide) kq_120 rfl rfl rfl rfl dX0_put_21 (fun H locs hP hS => ?_)
    refine lv_goto (tgt := 77) G.1 G.2.1 dX0_put_24 (by decide) ?_
    refine lv_aload_n G.1 G.2.1 dX0_put_77 rfl (lv_at hl 0 rfl) ?_
    refine lv_dup G.1 G.2.1 dX0_put_78 rfl ?_
    refine k0_geti G hP hj 8 (by decide) (by decide) kq_121 rfl dX0_put_79 ?_
    refine lv_iconst (v := 1) G.1 G.2.1 dX0_put_82 (by decide) ?_
    refine lv_iadd G.1 G.2.1 dX0_put_83 ?_
    refine k0_puti G hP hS hj 8 (by decide) (by decide) kq_121 rfl rfl rfl rfl dX0_put_84 (fun H locs hP hS => ?_)
    refine lv_iconst (v := 1) G.1 G.2.1 dX0_put_87 (by decide) ?_
    exact k_zret G hr hlocks hP hS (by decide) (by rw [f_X0_put, if_neg c_4]) (by rw [f_X0_put, if_neg c_4]) rfl rfl dX0_put_88
/-! X0_dropTaken -/
def f_X0_dropTaken (ka : kM) (j : Nat) : kM :=
  if (f_X0_isSlot ka j) = 0 then (if (ka (j + 18) 6) ≤ 0 then ka else (kup (kup ka (j + 18) 5 (f_X0_spotOf ka j 1)) (j + 18) 6 (((kup ka (j + 18) 5 (f_X0_spotOf ka j 1)) (j + 18) 6) - 1))) else ka
set_option maxHeartbeats 4000000 in
set_option maxRecDepth 100000 in
theorem c_X0_dropTaken (l : Launch) (D : va_G) (A : Nat → Nat) (C : Nat → ClassId) (ka mu : kM) (o : Int32) (sz : Nat) (hA : kinj A) (j : Nat) (hj : j < 8) : kMv l yX0_dropTaken (.code yX0_dropTaken cX0_dropTaken 1 none) ({ frames := 1, cells := 0, slots := 0, locals := 21 }) D A C ka mu o sz [.ref (A (j + 18))]  (f_X0_dropTaken ka j) mu o := by
  refine kMv_of hA (by decide) (Nat.le_of_ble_eq_true rfl) (fun p e s m args below meth c G hr hlocks hP hS ls hl => ?_)
  have hl : lv_has ls 1 [(0, .ref (A (j + 18)))] := hl
  refine lv_aload_n G.1 G.2.1 dX0_dropTaken_0 rfl (lv_at hl 0 rfl) ?_
  refine k_Vi (As := []) (rest := []) G hP hS hl.1 kl_X0_29 yk_X0_isSlot (c_X0_isSlot l D A C _ _ _ _ G.2.2.2.2.2.2 j hj ) (kr0 G hP hj) (by decide) (by decide) rfl (Nat.le_of_ble_eq_true rfl) dX0_dropTaken_1 (fun H locs hP hS => ?_)
  refine lv_if_ne (tgt := 33) G.1 G.2.1 dX0_dropTaken_4 (by decide) (fun c_4 => ?_) (fun c_4 => ?_)
  · exact k_vret G hr hlocks hP hS (by rw [f_X0_dropTaken, if_neg c_4]) rfl rfl dX0_dropTaken_33
  · refine lv_aload_n G.1 G.2.1 dX0_dropTaken_7 rfl (lv_at hl 0 rfl) ?_
    refine k0_geti G hP hj 6 (by decide) (by decide) kq_118 rfl dX0_dropTaken_8 ?_
    refine lv_if_le (tgt := 33) G.1 G.2.1 dX0_dropTaken_11 (by decide) (fun c_11 => ?_) (fun c_11 => ?_)
    · exact k_vret G hr hlocks hP hS (by rw [f_X0_dropTaken, if_pos c_4, if_pos c_11]) rfl rfl dX0_dropTaken_33
    · refine lv_aload_n G.1 G.2.1 dX0_dropTaken_14 rfl (lv_at hl 0 rfl) ?_
      refine lv_aload_n G.1 G.2.1 dX0_dropTaken_15 rfl (lv_at hl 0 rfl) ?_
      refine lv_iconst (v := 1) G.1 G.2.1 dX0_dropTaken_16 (by decide) ?_
      refine k_Vi (As := [.int 1]) (rest := [.ref (A (j + 18))]) G hP hS hl.1 kl_X0_39 yk_X0_spotOf (c_X0_spotOf l D A C _ _ _ _ G.2.2.2.2.2.2 j hj 1 ) (kr0 G hP hj) (by decide) (by decide) rfl (Nat.le_of_ble_eq_true rfl) dX0_dropTaken_17 (fun H locs hP hS => ?_)
      refine k0_puti G hP hS hj 5 (by decide) (by decide) kq_117 rfl rfl rfl rfl dX0_dropTaken_20 (fun H locs hP hS => ?_)
      refine lv_aload_n G.1 G.2.1 dX0_dropTaken_23 rfl (lv_at hl 0 rfl) ?_
      refine lv_dup G.1 G.2.1 dX0_dropTaken_24 rfl ?_
      refine k0_geti G hP hj 6 (by decide) (by decide) kq_118 rfl dX0_dropTaken_25 ?_
      refine lv_iconst (v := 1) G.1 G.2.1 dX0_dropTaken_28 (by decide) ?_
      refine lv_isub G.1 G.2.1 dX0_dropTaken_29 ?_
      refine k0_puti G hP hS hj 6 (by decide) (by decide) kq_118 rfl rfl rfl rfl dX0_dropTaken_30 (fun H locs hP hS => ?_)
      exact k_vret G hr hlocks hP hS (by rw [f_X0_dropTaken, if_pos c_4, if_neg c_11]) rfl rfl dX0_dropTaken_33
/-! X0_wordAt -/
def f_X0_wordAt (ka : kM) (j : Nat) (p0 : Int32) : Int32 :=
  if p0 < 0 then 0 else if (ka (j + 18) 6) ≤ p0 then 0 else (ka (j + 26) (f_X0_spotOf ka j p0).toNatClampNeg)
set_option maxHeartbeats 4000000 in
set_option maxRecDepth 100000 in
theorem c_X0_wordAt (l : Launch) (D : va_G) (A : Nat → Nat) (C : Nat → ClassId) (ka mu : kM) (o : Int32) (sz : Nat) (hA : kinj A) (j : Nat) (hj : j < 8) (p0 : Int32) : kMi l yX0_wordAt (.code yX0_wordAt cX0_wordAt 2 (some .int)) ({ frames := 1, cells := 0, slots := 0, locals := 21 }) D A C ka mu o sz [.ref (A (j + 18)), .int p0] (f_X0_wordAt ka j p0) ka mu o := by
  refine kMi_of hA (by decide) (Nat.le_of_ble_eq_true rfl) (fun p e s m args below meth c G hr hlocks hP hS ls hl => ?_)
  have hl : lv_has ls 2 [(0, .ref (A (j + 18))), (1, .int p0)] := hl
  refine lv_iload_n G.1 G.2.1 dX0_wordAt_0 rfl (lv_at hl 1 rfl) ?_
  refine lv_if_lt (tgt := 25) G.1 G.2.1 dX0_wordAt_1 (by decide) (fun c_1 => ?_) (fun c_1 => ?_)
  · refine lv_iconst (v := 0) G.1 G.2.1 dX0_wordAt_25 (by decide) ?_
    exact k_iret G hr hlocks hP hS (by rw [f_X0_wordAt, if_pos c_1]) rfl rfl rfl dX0_wordAt_26
  · refine lv_iload_n G.1 G.2.1 dX0_wordAt_4 rfl (lv_at hl 1 rfl) ?_
    refine lv_aload_n G.1 G.2.1 dX0_wordAt_5 rfl (lv_at hl 0 rfl) ?_
    refine k0_geti G hP hj 6 (by decide) (by decide) kq_118 rfl dX0_wordAt_6 ?_
    refine lv_icmp_ge (tgt := 25) G.1 G.2.1 dX0_wordAt_9 (by decide) (fun c_9 => ?_) (fun c_9 => ?_)
    · refine lv_iconst (v := 0) G.1 G.2.1 dX0_wordAt_25 (by decide) ?_
      exact k_iret G hr hlocks hP hS (by rw [f_X0_wordAt, if_neg c_1, if_pos c_9]) rfl rfl rfl dX0_wordAt_26
    · refine lv_aload_n G.1 G.2.1 dX0_wordAt_12 rfl (lv_at hl 0 rfl) ?_
      refine k0_getr G hP hj kq_109 dX0_wordAt_13 ?_
      refine lv_aload_n G.1 G.2.1 dX0_wordAt_16 rfl (lv_at hl 0 rfl) ?_
      refine lv_iload_n G.1 G.2.1 dX0_wordAt_17 rfl (lv_at hl 1 rfl) ?_
      refine k_Vi (As := [.int p0]) (rest := [.ref (A (j + 26))]) G hP hS hl.1 kl_X0_39 yk_X0_spotOf (c_X0_spotOf l D A C _ _ _ _ G.2.2.2.2.2.2 j hj p0 ) (kr0 G hP hj) (by decide) (by decide) rfl (Nat.le_of_ble_eq_true rfl) dX0_wordAt_18 (fun H locs hP hS => ?_)
      refine kK_ald (r := j + 26) G hP (kI_W hj) (by omega) (kin_and7 _) dX0_wordAt_21 ?_
      refine lv_goto (tgt := 26) G.1 G.2.1 dX0_wordAt_22 (by decide) ?_
      exact k_iret G hr hlocks hP hS (by rw [f_X0_wordAt, if_neg c_1, if_neg c_9]) rfl rfl rfl dX0_wordAt_26
/-! X0_age -/
def f_X0_age (ka : kM) (j : Nat) (p0 : Int32) : Int32 :=
  if (f_X0_isSlot ka j) = 0 then 0 else if (ka (j + 18) 6) ≤ 0 then 0 else (if 1000000 < (p0 - (ka (j + 18) 7)) then 1000000 else p0 - (ka (j + 18) 7))
set_option maxHeartbeats 4000000 in
set_option maxRecDepth 100000 in
theorem c_X0_age (l : Launch) (D : va_G) (A : Nat → Nat) (C : Nat → ClassId) (ka mu : kM) (o : Int32) (sz : Nat) (hA : kinj A) (j : Nat) (hj : j < 8) (p0 : Int32) : kMi l yX0_age (.code yX0_age cX0_age 2 (some .int)) ({ frames := 2, cells := 0, slots := 0, locals := 41 }) D A C ka mu o sz [.ref (A (j + 18)), .int p0] (f_X0_age ka j p0) ka mu o := by
  refine kMi_of hA (by decide) (Nat.le_of_ble_eq_true rfl) (fun p e s m args below meth c G hr hlocks hP hS ls hl => ?_)
  have hl : lv_has ls 2 [(0, .ref (A (j + 18))), (1, .int p0)] := hl
  refine lv_aload_n G.1 G.2.1 dX0_age_0 rfl (lv_at hl 0 rfl) ?_
  refine k_Vi (As := []) (rest := []) G hP hS hl.1 kl_X0_29 yk_X0_isSlot (c_X0_isSlot l D A C _ _ _ _ G.2.2.2.2.2.2 j hj ) (kr0 G hP hj) (by decide) (by decide) rfl (Nat.le_of_ble_eq_true rfl) dX0_age_1 (fun H locs hP hS => ?_)
  refine lv_if_eq (tgt := 28) G.1 G.2.1 dX0_age_4 (by decide) (fun c_4 => ?_) (fun c_4 => ?_)
  · refine lv_iconst (v := 0) G.1 G.2.1 dX0_age_28 (by decide) ?_
    exact k_iret G hr hlocks hP hS (by rw [f_X0_age, if_pos c_4]) rfl rfl rfl dX0_age_29
  · refine lv_aload_n G.1 G.2.1 dX0_age_7 rfl (lv_at hl 0 rfl) ?_
    refine k0_geti G hP hj 6 (by decide) (by decide) kq_118 rfl dX0_age_8 ?_
    refine lv_if_le (tgt := 28) G.1 G.2.1 dX0_age_11 (by decide) (fun c_11 => ?_) (fun c_11 => ?_)
    · refine lv_iconst (v := 0) G.1 G.2.1 dX0_age_28 (by decide) ?_
      exact k_iret G hr hlocks hP hS (by rw [f_X0_age, if_neg c_4, if_pos c_11]) rfl rfl rfl dX0_age_29
    · refine lv_iload_n G.1 G.2.1 dX0_age_14 rfl (lv_at hl 1 rfl) ?_
      refine lv_aload_n G.1 G.2.1 dX0_age_15 rfl (lv_at hl 0 rfl) ?_
      refine k0_geti G hP hj 7 (by decide) (by decide) kq_120 rfl dX0_age_16 ?_
      refine lv_isub G.1 G.2.1 dX0_age_19 ?_
      refine lv_ldc (v := 1000000) G.1 G.2.1 G.2.2.2.1 (G.2.2.2.2.1 _ kq_447) dX0_age_20 ?_
      refine va_mmin G.1 G.2.1 (G.2.2.1.trans hl.1.symm) G.2.2.2.1 (G.2.2.2.2.1 _ kq_448) (G.2.2.2.2.1 _ kq_449) (G.2.2.2.2.1 _ kq_48) (G.2.2.2.2.1 _ kq_450) (by decide) (Nat.le_of_ble_eq_true rfl) (by decide) (by decide) dX0_age_22 ?_
      refine lv_goto (tgt := 29) G.1 G.2.1 dX0_age_25 (by decide) ?_
      exact k_iret G hr hlocks hP hS (by rw [f_X0_age, if_neg c_4, if_neg c_11]) rfl rfl rfl dX0_age_29
/-! X0_report -/
def f_X0_report (ka : kM) (j : Nat) (p0 : Int32) (p1 : Int32) : Int32 :=
  if p0 = 0 then (ka (j + 18) 6) else if p0 = 1 then (f_X0_wordAt ka j 0) else if p0 = 2 then (f_X0_age ka j p1) else if p0 = 3 then (ka (j + 18) 8) else (ka (j + 18) 9)
set_option maxHeartbeats 4000000 in
set_option maxRecDepth 100000 in
theorem c_X0_report (l : Launch) (D : va_G) (A : Nat → Nat) (C : Nat → ClassId) (ka mu : kM) (o : Int32) (sz : Nat) (hA : kinj A) (j : Nat) (hj : j < 8) (p0 : Int32) (p1 : Int32) : kMi l yX0_report (.code yX0_report cX0_report 3 (some .int)) ({ frames := 3, cells := 0, slots := 0, locals := 62 }) D A C ka mu o sz [.ref (A (j + 18)), .int p0, .int p1] (f_X0_report ka j p0 p1) ka mu o := by
  refine kMi_of hA (by decide) (Nat.le_of_ble_eq_true rfl) (fun p e s m args below meth c G hr hlocks hP hS ls hl => ?_)
  have hl : lv_has ls 3 [(0, .ref (A (j + 18))), (1, .int p0), (2, .int p1)] := hl
  refine lv_iload_n G.1 G.2.1 dX0_report_0 rfl (lv_at hl 1 rfl) ?_
  by_cases c_1_0 : p0 = 0
  · refine lv_tableIn (tgt := 32) G.1 G.2.1 dX0_report_1 (by rw [c_1_0]; decide) (by rw [c_1_0]; decide) (by rw [c_1_0]; rfl) (by decide) ?_
    refine lv_aload_n G.1 G.2.1 dX0_report_32 rfl (lv_at hl 0 rfl) ?_
    refine k0_geti G hP hj 6 (by decide) (by decide) kq_118 rfl dX0_report_33 ?_
    exact k_iret G hr hlocks hP hS (by rw [f_X0_report, if_pos c_1_0]) rfl rfl rfl dX0_report_36
  · by_cases c_1_1 : p0 = 1
    · refine lv_tableIn (tgt := 37) G.1 G.2.1 dX0_report_1 (by rw [c_1_1]; decide) (by rw [c_1_1]; decide) (by rw [c_1_1]; rfl) (by decide) ?_
      refine lv_aload_n G.1 G.2.1 dX0_report_37 rfl (lv_at hl 0 rfl) ?_
      refine lv_iconst (v := 0) G.1 G.2.1 dX0_report_38 (by decide) ?_
      refine k_Vi (As := [.int 0]) (rest := []) G hP hS hl.1 kl_X0_59 yk_X0_wordAt (c_X0_wordAt l D A C _ _ _ _ G.2.2.2.2.2.2 j hj 0 ) (kr0 G hP hj) (by decide) (by decide) rfl (Nat.le_of_ble_eq_true rfl) dX0_report_39 (fun H locs hP hS => ?_)
      exact k_iret G hr hlocks hP hS (by rw [f_X0_report, if_neg c_1_0, if_pos c_1_1]) rfl rfl rfl dX0_report_42
    · by_cases c_1_2 : p0 = 2
      · refine lv_tableIn (tgt := 43) G.1 G.2.1 dX0_report_1 (by rw [c_1_2]; decide) (by rw [c_1_2]; decide) (by rw [c_1_2]; rfl) (by decide) ?_
        refine lv_aload_n G.1 G.2.1 dX0_report_43 rfl (lv_at hl 0 rfl) ?_
        refine lv_iload_n G.1 G.2.1 dX0_report_44 rfl (lv_at hl 2 rfl) ?_
        refine k_Vi (As := [.int p1]) (rest := []) G hP hS hl.1 kl_X0_62 yk_X0_age (c_X0_age l D A C _ _ _ _ G.2.2.2.2.2.2 j hj p1 ) (kr0 G hP hj) (by decide) (by decide) rfl (Nat.le_of_ble_eq_true rfl) dX0_report_45 (fun H locs hP hS => ?_)
        exact k_iret G hr hlocks hP hS (by rw [f_X0_report, if_neg c_1_0, if_neg c_1_1, if_pos c_1_2]) rfl rfl rfl dX0_report_48
      · by_cases c_1_3 : p0 = 3
        · refine lv_tableIn (tgt := 49) G.1 G.2.1 dX0_report_1 (by rw [c_1_3]; decide) (by rw [c_1_3]; decide) (by rw [c_1_3]; rfl) (by decide) ?_
          refine lv_aload_n G.1 G.2.1 dX0_report_49 rfl (lv_at hl 0 rfl) ?_
          refine k0_geti G hP hj 8 (by decide) (by decide) kq_121 rfl dX0_report_50 ?_
          exact k_iret G hr hlocks hP hS (by rw [f_X0_report, if_neg c_1_0, if_neg c_1_1, if_neg c_1_2, if_pos c_1_3]) rfl rfl rfl dX0_report_53
        · refine lv_tableOut (tgt := 54) G.1 G.2.1 dX0_report_1 (by have q0 := lv_neT c_1_0 (a := 0) (by decide); have q1 := lv_neT c_1_1 (a := 1) (by decide); have q2 := lv_neT c_1_2 (a := 2) (by decide); have q3 := lv_neT c_1_3 (a := 3) (by decide); omega) (by decide) ?_
          refine lv_aload_n G.1 G.2.1 dX0_report_54 rfl (lv_at hl 0 rfl) ?_
          refine k0_geti G hP hj 9 (by decide) (by decide) kq_122 rfl dX0_report_55 ?_
          exact k_iret G hr hlocks hP hS (by rw [f_X0_report, if_neg c_1_0, if_neg c_1_1, if_neg c_1_2, if_neg c_1_3]) rfl rfl rfl dX0_report_58
end
section
/-! ===== what the private methods' answers say of indices ===== -/
theorem holds_in {ka : kM} {j : Nat} {i : Int32} (h : ¬ f_X1_holds ka j i = 0) : ¬ i < 0 ∧ ¬ ka (j + 6) 3 ≤ i := by
  unfold f_X1_holds at h
  by_cases h1 : i < 0
  · rw [if_pos h1] at h; exact absurd rfl h
  · rw [if_neg h1] at h
    by_cases h2 : ka (j + 6) 3 ≤ i
    · rw [if_pos h2] at h; exact absurd rfl h
    · exact ⟨h1, h2⟩
theorem kin_mem {ka : kM} {j : Nat} {i : Int32} (hB : kB ka j) (h : ¬ f_X1_holds ka j i = 0) : vp_in (ka (j + 6) 2 + i) 512 := kin_memo hB.1 hB.2.2 (holds_in h).1 (holds_in h).2
theorem kin_run {ka : kM} {j : Nat} {v i : Int32} (hB : kB ka j) (h : ¬ f_X1_holds ka j i = 0) : vp_in (kup ka (j + 6) 5 v (j + 6) 2 + i) 512 := by
  rw [kup_j (by decide)]; exact kin_mem hB h
theorem kB_up5 {ka : kM} {j r : Nat} {v : Int32} (hB : kB ka j) : kB (kup ka r 5 v) j := by
  unfold kB; rw [kup_j (by decide), kup_j (by decide)]; exact hB
theorem kB_up0 {ka : kM} {j k : Nat} {v : Int32} (hB : kB ka j) : kB (kup ka 0 k v) j := by
  unfold kB; rw [kup_r (by omega), kup_r (by omega)]; exact hB
theorem kin_own {ka : kM} {v : Int32} (hI : kInv ka) (h : ¬ kup ka 0 11 v 4 (kup ka 0 11 v 0 8).toNatClampNeg = -1) : vp_in (kup ka 0 11 v 4 (kup ka 0 11 v 0 8).toNatClampNeg) 6 := by
  rw [kup_r (by decide), kup_j (by decide)] at h ⊢
  rcases hI.2.1 _ (kx_lt hI.1) with g | g
  · exact absurd g h
  · exact g
end
section
/-! X2_isChannel -/
def f_X2_isChannel (ka : kM) (p0 : Int32) : Int32 :=
  if p0 < 0 then 0 else if (8 : Int32) ≤ p0 then 0 else if (ka (p0.toNatClampNeg + 18) 1) = 0 then 0 else 1
set_option maxHeartbeats 4000000 in
set_option maxRecDepth 100000 in
theorem c_X2_isChannel (l : Launch) (D : va_G) (A : Nat → Nat) (C : Nat → ClassId) (ka mu : kM) (o : Int32) (sz : Nat) (hA : kinj A) (p0 : Int32) : kMi l yX2_isChannel (.code yX2_isChannel cX2_isChannel 2 (some .boolean)) ({ frames := 0, cells := 0, slots := 0, locals := 0 }) D A C ka mu o sz [.ref (A 0), .int p0] (f_X2_isChannel ka p0) ka mu o := by
  refine kMi_of hA (by decide) (Nat.le_of_ble_eq_true rfl) (fun p e s m args below meth c G hr hlocks hP hS ls hl => ?_)
  have hl : lv_has ls 2 [(0, .ref (A 0)), (1, .int p0)] := hl
  refine lv_iload_n G.1 G.2.1 dX2_isChannel_0 rfl (lv_at hl 1 rfl) ?_
  refine lv_if_lt (tgt := 26) G.1 G.2.1 dX2_isChannel_1 (by decide) (fun c_1 => ?_) (fun c_1 => ?_)
  · refine lv_iconst (v := 0) G.1 G.2.1 dX2_isChannel_26 (by decide) ?_
    exact k_zret G hr hlocks hP hS (by decide) (by rw [f_X2_isChannel, if_pos c_1]) rfl rfl rfl dX2_isChannel_27
  · refine lv_iload_n G.1 G.2.1 dX2_isChannel_4 rfl (lv_at hl 1 rfl) ?_
    refine lv_bipush (v := 8) G.1 G.2.1 dX2_isChannel_5 (by decide) ?_
    refine lv_icmp_ge (tgt := 26) G.1 G.2.1 dX2_isChannel_7 (by decide) (fun c_7 => ?_) (fun c_7 => ?_)
    · refine lv_iconst (v := 0) G.1 G.2.1 dX2_isChannel_26 (by decide) ?_
      exact k_zret G hr hlocks hP hS (by decide) (by rw [f_X2_isChannel, if_neg c_1, if_pos c_7]) rfl rfl rfl dX2_isChannel_27
    · refine lv_aload_n G.1 G.2.1 dX2_isChannel_10 rfl (lv_at hl 0 rfl) ?_
      refine k2_getr G hP 2 (by decide) kq_146 rfl dX2_isChannel_11 ?_
      refine lv_iload_n G.1 G.2.1 dX2_isChannel_14 rfl (lv_at hl 1 rfl) ?_
      have hin_15 : vp_in p0 8 := (kin_of (n := 8) (by decide) c_1 c_7)
      refine kC_ald G hP hin_15 dX2_isChannel_15 ?_
      have hj_15 : p0.toNatClampNeg < 8 := kx_lt hin_15
      refine k0N_geti G hP hj_15 1 (by decide) (by decide) kq_111 rfl dX2_isChannel_16 ?_
      refine lv_if_eq (tgt := 26) G.1 G.2.1 dX2_isChannel_19 (by decide) (fun c_19 => ?_) (fun c_19 => ?_)
      · refine lv_iconst (v := 0) G.1 G.2.1 dX2_isChannel_26 (by decide) ?_
        exact k_zret G hr hlocks hP hS (by decide) (by rw [f_X2_isChannel, if_neg c_1, if_neg c_7, if_pos c_19]) rfl rfl rfl dX2_isChannel_27
      · refine lv_iconst (v := 1) G.1 G.2.1 dX2_isChannel_22 (by decide) ?_
        refine lv_goto (tgt := 27) G.1 G.2.1 dX2_isChannel_23 (by decide) ?_
        exact k_zret G hr hlocks hP hS (by decide) (by rw [f_X2_isChannel, if_neg c_1, if_neg c_7, if_neg c_19]) rfl rfl rfl dX2_isChannel_27
/-! X2_isInMemory -/
def f_X2_isInMemory (ka : kM) (p0 : Int32) (p1 : Int32) : Int32 :=
  if p0 < 0 then 0 else if (512 : Int32) ≤ p0 then 0 else if p1 < 1 then 0 else if (512 - p0) < p1 then 0 else 1
set_option maxHeartbeats 4000000 in
set_option maxRecDepth 100000 in
theorem c_X2_isInMemory (l : Launch) (D : va_G) (A : Nat → Nat) (C : Nat → ClassId) (ka mu : kM) (o : Int32) (sz : Nat) (hA : kinj A) (p0 : Int32) (p1 : Int32) : kMi l yX2_isInMemory (.code yX2_isInMemory cX2_isInMemory 2 (some .boolean)) ({ frames := 0, cells := 0, slots := 0, locals := 0 }) D A C ka mu o sz [.int p0, .int p1] (f_X2_isInMemory ka p0 p1) ka mu o := by
  refine kMi_of hA (by decide) (Nat.le_of_ble_eq_true rfl) (fun p e s m args below meth c G hr hlocks hP hS ls hl => ?_)
  have hl : lv_has ls 2 [(0, .int p0), (1, .int p1)] := hl
  refine lv_iload_n G.1 G.2.1 dX2_isInMemory_0 rfl (lv_at hl 0 rfl) ?_
  refine lv_if_lt (tgt := 29) G.1 G.2.1 dX2_isInMemory_1 (by decide) (fun c_1 => ?_) (fun c_1 => ?_)
  · refine lv_iconst (v := 0) G.1 G.2.1 dX2_isInMemory_29 (by decide) ?_
    exact k_zret G hr hlocks hP hS (by decide) (by rw [f_X2_isInMemory, if_pos c_1]) rfl rfl rfl dX2_isInMemory_30
  · refine lv_iload_n G.1 G.2.1 dX2_isInMemory_4 rfl (lv_at hl 0 rfl) ?_
    refine lv_sipush (v := 512) G.1 G.2.1 dX2_isInMemory_5 (by decide) ?_
    refine lv_icmp_ge (tgt := 29) G.1 G.2.1 dX2_isInMemory_8 (by decide) (fun c_8 => ?_) (fun c_8 => ?_)
    · refine lv_iconst (v := 0) G.1 G.2.1 dX2_isInMemory_29 (by decide) ?_
      exact k_zret G hr hlocks hP hS (by decide) (by rw [f_X2_isInMemory, if_neg c_1, if_pos c_8]) rfl rfl rfl dX2_isInMemory_30
    · refine lv_iload_n G.1 G.2.1 dX2_isInMemory_11 rfl (lv_at hl 1 rfl) ?_
      refine lv_iconst (v := 1) G.1 G.2.1 dX2_isInMemory_12 (by decide) ?_
      refine lv_icmp_lt (tgt := 29) G.1 G.2.1 dX2_isInMemory_13 (by decide) (fun c_13 => ?_) (fun c_13 => ?_)
      · refine lv_iconst (v := 0) G.1 G.2.1 dX2_isInMemory_29 (by decide) ?_
        exact k_zret G hr hlocks hP hS (by decide) (by rw [f_X2_isInMemory, if_neg c_1, if_neg c_8, if_pos c_13]) rfl rfl rfl dX2_isInMemory_30
      · refine lv_iload_n G.1 G.2.1 dX2_isInMemory_16 rfl (lv_at hl 1 rfl) ?_
        refine lv_sipush (v := 512) G.1 G.2.1 dX2_isInMemory_17 (by decide) ?_
        refine lv_iload_n G.1 G.2.1 dX2_isInMemory_20 rfl (lv_at hl 0 rfl) ?_
        refine lv_isub G.1 G.2.1 dX2_isInMemory_21 ?_
        refine lv_icmp_gt (tgt := 29) G.1 G.2.1 dX2_isInMemory_22 (by decide) (fun c_22 => ?_) (fun c_22 => ?_)
        · refine lv_iconst (v := 0) G.1 G.2.1 dX2_isInMemory_29 (by decide) ?_
          exact k_zret G hr hlocks hP hS (by decide) (by rw [f_X2_isInMemory, if_neg c_1, if_neg c_8, if_neg c_13, if_pos c_22]) rfl rfl rfl dX2_isInMemory_30
        · refine lv_iconst (v := 1) G.1 G.2.1 dX2_isInMemory_25 (by decide) ?_
          refine lv_goto (tgt := 30) G.1 G.2.1 dX2_isInMemory_26 (by decide) ?_
          exact k_zret G hr hlocks hP hS (by decide) (by rw [f_X2_isInMemory, if_neg c_1, if_neg c_8, if_neg c_13, if_neg c_22]) rfl rfl rfl dX2_isInMemory_30
/-! X2_computed -/
def f_X2_computed (ka : kM) (p0 : Int32) (p1 : Int32) (p2 : Int32) (p3 : Int32) : Int32 :=
  if p0 = 1 then p3 else if p0 = 2 then (p1 + p2) else if p0 = 3 then (p1 - p2) else if p0 = 4 then (p1 * p2) else (p1 ^^^ p2)
set_option maxHeartbeats 4000000 in
set_option maxRecDepth 100000 in
theorem c_X2_computed (l : Launch) (D : va_G) (A : Nat → Nat) (C : Nat → ClassId) (ka mu : kM) (o : Int32) (sz : Nat) (hA : kinj A) (p0 : Int32) (p1 : Int32) (p2 : Int32) (p3 : Int32) : kMi l yX2_computed (.code yX2_computed cX2_computed 4 (some .int)) ({ frames := 0, cells := 0, slots := 0, locals := 0 }) D A C ka mu o sz [.int p0, .int p1, .int p2, .int p3] (f_X2_computed ka p0 p1 p2 p3) ka mu o := by
  refine kMi_of hA (by decide) (Nat.le_of_ble_eq_true rfl) (fun p e s m args below meth c G hr hlocks hP hS ls hl => ?_)
  have hl : lv_has ls 4 [(0, .int p0), (1, .int p1), (2, .int p2), (3, .int p3)] := hl
  refine lv_iload_n G.1 G.2.1 dX2_computed_0 rfl (lv_at hl 0 rfl) ?_
  by_cases c_1_1 : p0 = 1
  · refine lv_tableIn (tgt := 32) G.1 G.2.1 dX2_computed_1 (by rw [c_1_1]; decide) (by rw [c_1_1]; decide) (by rw [c_1_1]; rfl) (by decide) ?_
    refine lv_iload_n G.1 G.2.1 dX2_computed_32 rfl (lv_at hl 3 rfl) ?_
    exact k_iret G hr hlocks hP hS (by rw [f_X2_computed, if_pos c_1_1]) rfl rfl rfl dX2_computed_33
  · by_cases c_1_2 : p0 = 2
    · refine lv_tableIn (tgt := 34) G.1 G.2.1 dX2_computed_1 (by rw [c_1_2]; decide) (by rw [c_1_2]; decide) (by rw [c_1_2]; rfl) (by decide) ?_
      refine lv_iload_n G.1 G.2.1 dX2_computed_34 rfl (lv_at hl 1 rfl) ?_
      refine lv_iload_n G.1 G.2.1 dX2_computed_35 rfl (lv_at hl 2 rfl) ?_
      refine lv_iadd G.1 G.2.1 dX2_computed_36 ?_
      exact k_iret G hr hlocks hP hS (by rw [f_X2_computed, if_neg c_1_1, if_pos c_1_2]) rfl rfl rfl dX2_computed_37
    · by_cases c_1_3 : p0 = 3
      · refine lv_tableIn (tgt := 38) G.1 G.2.1 dX2_computed_1 (by rw [c_1_3]; decide) (by rw [c_1_3]; decide) (by rw [c_1_3]; rfl) (by decide) ?_
        refine lv_iload_n G.1 G.2.1 dX2_computed_38 rfl (lv_at hl 1 rfl) ?_
        refine lv_iload_n G.1 G.2.1 dX2_computed_39 rfl (lv_at hl 2 rfl) ?_
        refine lv_isub G.1 G.2.1 dX2_computed_40 ?_
        exact k_iret G hr hlocks hP hS (by rw [f_X2_computed, if_neg c_1_1, if_neg c_1_2, if_pos c_1_3]) rfl rfl rfl dX2_computed_41
      · by_cases c_1_4 : p0 = 4
        · refine lv_tableIn (tgt := 42) G.1 G.2.1 dX2_computed_1 (by rw [c_1_4]; decide) (by rw [c_1_4]; decide) (by rw [c_1_4]; rfl) (by decide) ?_
          refine lv_iload_n G.1 G.2.1 dX2_computed_42 rfl (lv_at hl 1 rfl) ?_
          refine lv_iload_n G.1 G.2.1 dX2_computed_43 rfl (lv_at hl 2 rfl) ?_
          refine lv_imul G.1 G.2.1 dX2_computed_44 ?_
          exact k_iret G hr hlocks hP hS (by rw [f_X2_computed, if_neg c_1_1, if_neg c_1_2, if_neg c_1_3, if_pos c_1_4]) rfl rfl rfl dX2_computed_45
        · refine lv_tableOut (tgt := 46) G.1 G.2.1 dX2_computed_1 (by have q0 := lv_neT c_1_1 (a := 1) (by decide); have q1 := lv_neT c_1_2 (a := 2) (by decide); have q2 := lv_neT c_1_3 (a := 3) (by decide); have q3 := lv_neT c_1_4 (a := 4) (by decide); omega) (by decide) ?_
          refine lv_iload_n G.1 G.2.1 dX2_computed_46 rfl (lv_at hl 1 rfl) ?_
          refine lv_iload_n G.1 G.2.1 dX2_computed_47 rfl (lv_at hl 2 rfl) ?_
          refine lv_ixor G.1 G.2.1 dX2_computed_48 ?_
          exact k_iret G hr hlocks hP hS (by rw [f_X2_computed, if_neg c_1_1, if_neg c_1_2, if_neg c_1_3, if_neg c_1_4]) rfl rfl rfl dX2_computed_49
/-! X2_load -/
def f_X2_load (ka : kM) (p0 : Nat) (p1 : Int32) (p2 : Int32) : Int32 × kM :=
  if (f_X1_holds ka p0 p2) = 0 then (2, ka) else (0, kup ka (p0 + 12) p1.toNatClampNeg (ka 1 ((ka (p0 + 6) 2) + p2).toNatClampNeg))
set_option maxHeartbeats 4000000 in
set_option maxRecDepth 100000 in
theorem c_X2_load (l : Launch) (D : va_G) (A : Nat → Nat) (C : Nat → ClassId) (ka mu : kM) (o : Int32) (sz : Nat) (hA : kinj A) (p0 : Nat) (hp0 : p0 < 6) (p1 : Int32) (p2 : Int32) (ha : vp_in p1 4) (hB : kB ka p0) : kMi l yX2_load (.code yX2_load cX2_load 4 (some .int)) ({ frames := 1, cells := 0, slots := 0, locals := 21 }) D A C ka mu o sz [.ref (A 0), .ref (A (p0 + 6)), .int p1, .int p2] ((f_X2_load ka p0 p1 p2).1) ((f_X2_load ka p0 p1 p2).2) mu o := by
  refine kMi_of hA (by decide) (Nat.le_of_ble_eq_true rfl) (fun p e s m args below meth c G hr hlocks hP hS ls hl => ?_)
  have hl : lv_has ls 4 [(0, .ref (A 0)), (1, .ref (A (p0 + 6))), (2, .int p1), (3, .int p2)] := hl
  refine lv_aload_n G.1 G.2.1 dX2_load_0 rfl (lv_at hl 1 rfl) ?_
  refine lv_iload_n G.1 G.2.1 dX2_load_1 rfl (lv_at hl 3 rfl) ?_
  refine k_Ni (As := [.int p2]) (rest := []) G hP hS hl.1 kl_X2_138 yk_X1_holds (c_X1_holds l D A C _ _ _ _ G.2.2.2.2.2.2 p0 hp0 p2 ) (kr1 G hP hp0) (by decide) (by decide) rfl (Nat.le_of_ble_eq_true rfl) dX2_load_2 (fun H locs hP hS => ?_)
  refine lv_if_ne (tgt := 10) G.1 G.2.1 dX2_load_5 (by decide) (fun c_5 => ?_) (fun c_5 => ?_)
  · refine lv_aload_n G.1 G.2.1 dX2_load_10 rfl (lv_at hl 1 rfl) ?_
    refine k1N_getr G hP hp0 kq_66 dX2_load_11 ?_
    refine lv_iload_n G.1 G.2.1 dX2_load_14 rfl (lv_at hl 2 rfl) ?_
    refine lv_aload_n G.1 G.2.1 dX2_load_15 rfl (lv_at hl 0 rfl) ?_
    refine k2_getr G hP 0 (by decide) kq_144 rfl dX2_load_16 ?_
    refine lv_aload_n G.1 G.2.1 dX2_load_19 rfl (lv_at hl 1 rfl) ?_
    refine k1N_geti G hP hp0 2 (by decide) (by decide) kq_70 rfl dX2_load_20 ?_
    refine lv_iload_n G.1 G.2.1 dX2_load_23 rfl (lv_at hl 3 rfl) ?_
    refine lv_iadd G.1 G.2.1 dX2_load_24 ?_
    refine kK_ald (r := 1) G hP kI_1 (by omega) (kin_mem hB c_5) dX2_load_25 ?_
    refine kK_ast (r := p0 + 12) G hP hS (kI_R hp0) (by omega) ha dX2_load_26 (fun H locs hP hS => ?_)
    refine lv_iconst (v := 0) G.1 G.2.1 dX2_load_27 (by decide) ?_
    exact k_iret G hr hlocks hP hS (by rw [f_X2_load, if_neg c_5]) (by rw [f_X2_load, if_neg c_5]) rfl rfl dX2_load_28
  · refine lv_iconst (v := 2) G.1 G.2.1 dX2_load_8 (by decide) ?_
    exact k_iret G hr hlocks hP hS (by rw [f_X2_load, if_pos c_5]) (by rw [f_X2_load, if_pos c_5]) rfl rfl dX2_load_9
/-! X2_store -/
def f_X2_store (ka : kM) (p0 : Nat) (p1 : Int32) (p2 : Int32) : Int32 × kM :=
  if (f_X1_holds ka p0 p2) = 0 then (2, ka) else (0, kup ka 1 ((ka (p0 + 6) 2) + p2).toNatClampNeg (ka (p0 + 12) p1.toNatClampNeg))
set_option maxHeartbeats 4000000 in
set_option maxRecDepth 100000 in
theorem c_X2_store (l : Launch) (D : va_G) (A : Nat → Nat) (C : Nat → ClassId) (ka mu : kM) (o : Int32) (sz : Nat) (hA : kinj A) (p0 : Nat) (hp0 : p0 < 6) (p1 : Int32) (p2 : Int32) (ha : vp_in p1 4) (hB : kB ka p0) : kMi l yX2_store (.code yX2_store cX2_store 4 (some .int)) ({ frames := 1, cells := 0, slots := 0, locals := 21 }) D A C ka mu o sz [.ref (A 0), .ref (A (p0 + 6)), .int p1, .int p2] ((f_X2_store ka p0 p1 p2).1) ((f_X2_store ka p0 p1 p2).2) mu o := by
  refine kMi_of hA (by decide) (Nat.le_of_ble_eq_true rfl) (fun p e s m args below meth c G hr hlocks hP hS ls hl => ?_)
  have hl : lv_has ls 4 [(0, .ref (A 0)), (1, .ref (A (p0 + 6))), (2, .int p1), (3, .int p2)] := hl
  refine lv_aload_n G.1 G.2.1 dX2_store_0 rfl (lv_at hl 1 rfl) ?_
  refine lv_iload_n G.1 G.2.1 dX2_store_1 rfl (lv_at hl 3 rfl) ?_
  refine k_Ni (As := [.int p2]) (rest := []) G hP hS hl.1 kl_X2_138 yk_X1_holds (c_X1_holds l D A C _ _ _ _ G.2.2.2.2.2.2 p0 hp0 p2 ) (kr1 G hP hp0) (by decide) (by decide) rfl (Nat.le_of_ble_eq_true rfl) dX2_store_2 (fun H locs hP hS => ?_)
  refine lv_if_ne (tgt := 10) G.1 G.2.1 dX2_store_5 (by decide) (fun c_5 => ?_) (fun c_5 => ?_)
  · refine lv_aload_n G.1 G.2.1 dX2_store_10 rfl (lv_at hl 0 rfl) ?_
    refine k2_getr G hP 0 (by decide) kq_144 rfl dX2_store_11 ?_
    refine lv_aload_n G.1 G.2.1 dX2_store_14 rfl (lv_at hl 1 rfl) ?_
    refine k1N_geti G hP hp0 2 (by decide) (by decide) kq_70 rfl dX2_store_15 ?_
    refine lv_iload_n G.1 G.2.1 dX2_store_18 rfl (lv_at hl 3 rfl) ?_
    refine lv_iadd G.1 G.2.1 dX2_store_19 ?_
    refine lv_aload_n G.1 G.2.1 dX2_store_20 rfl (lv_at hl 1 rfl) ?_
    refine k1N_getr G hP hp0 kq_66 dX2_store_21 ?_
    refine lv_iload_n G.1 G.2.1 dX2_store_24 rfl (lv_at hl 2 rfl) ?_
    refine kK_ald (r := p0 + 12) G hP (kI_R hp0) (by omega) ha dX2_store_25 ?_
    refine kK_ast (r := 1) G hP hS kI_1 (by omega) (kin_mem hB c_5) dX2_store_26 (fun H locs hP hS => ?_)
    refine lv_iconst (v := 0) G.1 G.2.1 dX2_store_27 (by decide) ?_
    exact k_iret G hr hlocks hP hS (by rw [f_X2_store, if_neg c_5]) (by rw [f_X2_store, if_neg c_5]) rfl rfl dX2_store_28
  · refine lv_iconst (v := 2) G.1 G.2.1 dX2_store_8 (by decide) ?_
    exact k_iret G hr hlocks hP hS (by rw [f_X2_store, if_pos c_5]) (by rw [f_X2_store, if_pos c_5]) rfl rfl dX2_store_9
/-! X2_moveWindowOn -/
def f_X2_moveWindowOn (ka : kM) : kM :=
  if ((kup ka 0 9 ((ka 0 9) + 1)) 5 ((kup ka 0 9 ((ka 0 9) + 1)) 0 8).toNatClampNeg) ≤ ((kup ka 0 9 ((ka 0 9) + 1)) 0 9) then (if ((kup (kup (kup (kup ka 0 9 ((ka 0 9) + 1)) 0 9 0) 0 10 0) 0 8 (((kup (kup (kup ka 0 9 ((ka 0 9) + 1)) 0 9 0) 0 10 0) 0 8) + 1)) 0 8) < ((kup (kup (kup (kup ka 0 9 ((ka 0 9) + 1)) 0 9 0) 0 10 0) 0 8 (((kup (kup (kup ka 0 9 ((ka 0 9) + 1)) 0 9 0) 0 10 0) 0 8) + 1)) 0 5) then (kup (kup (kup (kup ka 0 9 ((ka 0 9) + 1)) 0 9 0) 0 10 0) 0 8 (((kup (kup (kup ka 0 9 ((ka 0 9) + 1)) 0 9 0) 0 10 0) 0 8) + 1)) else (kup (kup (kup (kup (kup ka 0 9 ((ka 0 9) + 1)) 0 9 0) 0 10 0) 0 8 (((kup (kup (kup ka 0 9 ((ka 0 9) + 1)) 0 9 0) 0 10 0) 0 8) + 1)) 0 8 0)) else (kup ka 0 9 ((ka 0 9) + 1))
set_option maxHeartbeats 4000000 in
set_option maxRecDepth 100000 in
theorem c_X2_moveWindowOn (l : Launch) (D : va_G) (A : Nat → Nat) (C : Nat → ClassId) (ka mu : kM) (o : Int32) (sz : Nat) (hA : kinj A)  (hw : vp_in (ka 0 8) 12) : kMv l yX2_moveWindowOn (.code yX2_moveWindowOn cX2_moveWindowOn 1 none) ({ frames := 0, cells := 0, slots := 0, locals := 0 }) D A C ka mu o sz [.ref (A 0)]  (f_X2_moveWindowOn ka) mu o := by
  refine kMv_of hA (by decide) (Nat.le_of_ble_eq_true rfl) (fun p e s m args below meth c G hr hlocks hP hS ls hl => ?_)
  have hl : lv_has ls 1 [(0, .ref (A 0))] := hl
  refine lv_aload_n G.1 G.2.1 dX2_moveWindowOn_0 rfl (lv_at hl 0 rfl) ?_
  refine lv_dup G.1 G.2.1 dX2_moveWindowOn_1 rfl ?_
  refine k2_geti G hP 9 (by decide) (by decide) kq_153 rfl dX2_moveWindowOn_2 ?_
  refine lv_iconst (v := 1) G.1 G.2.1 dX2_moveWindowOn_5 (by decide) ?_
  refine lv_iadd G.1 G.2.1 dX2_moveWindowOn_6 ?_
  refine k2_puti G hP hS 9 (by decide) (by decide) kq_153 rfl rfl rfl rfl dX2_moveWindowOn_7 (fun H locs hP hS => ?_)
  refine lv_aload_n G.1 G.2.1 dX2_moveWindowOn_10 rfl (lv_at hl 0 rfl) ?_
  refine k2_geti G hP 9 (by decide) (by decide) kq_153 rfl dX2_moveWindowOn_11 ?_
  refine lv_aload_n G.1 G.2.1 dX2_moveWindowOn_14 rfl (lv_at hl 0 rfl) ?_
  refine k2_getr G hP 4 (by decide) kq_148 rfl dX2_moveWindowOn_15 ?_
  refine lv_aload_n G.1 G.2.1 dX2_moveWindowOn_18 rfl (lv_at hl 0 rfl) ?_
  refine k2_geti G hP 8 (by decide) (by decide) kq_152 rfl dX2_moveWindowOn_19 ?_
  refine kK_ald (r := 5) G hP kI_5 (by omega) (by rw [kup_j (by decide)]; exact hw) dX2_moveWindowOn_22 ?_
  refine lv_icmp_ge (tgt := 27) G.1 G.2.1 dX2_moveWindowOn_23 (by decide) (fun c_23 => ?_) (fun c_23 => ?_)
  · refine lv_aload_n G.1 G.2.1 dX2_moveWindowOn_27 rfl (lv_at hl 0 rfl) ?_
    refine lv_iconst (v := 0) G.1 G.2.1 dX2_moveWindowOn_28 (by decide) ?_
    refine k2_puti G hP hS 9 (by decide) (by decide) kq_153 rfl rfl rfl rfl dX2_moveWindowOn_29 (fun H locs hP hS => ?_)
    refine lv_aload_n G.1 G.2.1 dX2_moveWindowOn_32 rfl (lv_at hl 0 rfl) ?_
    refine lv_iconst (v := 0) G.1 G.2.1 dX2_moveWindowOn_33 (by decide) ?_
    refine k2_puti G hP hS 10 (by decide) (by decide) kq_154 rfl rfl (by decide) (by decide) dX2_moveWindowOn_34 (fun H locs hP hS => ?_)
    refine lv_aload_n G.1 G.2.1 dX2_moveWindowOn_37 rfl (lv_at hl 0 rfl) ?_
    refine lv_dup G.1 G.2.1 dX2_moveWindowOn_38 rfl ?_
    refine k2_geti G hP 8 (by decide) (by decide) kq_152 rfl dX2_moveWindowOn_39 ?_
    refine lv_iconst (v := 1) G.1 G.2.1 dX2_moveWindowOn_42 (by decide) ?_
    refine lv_iadd G.1 G.2.1 dX2_moveWindowOn_43 ?_
    refine k2_puti G hP hS 8 (by decide) (by decide) kq_152 rfl rfl rfl rfl dX2_moveWindowOn_44 (fun H locs hP hS => ?_)
    refine lv_aload_n G.1 G.2.1 dX2_moveWindowOn_47 rfl (lv_at hl 0 rfl) ?_
    refine k2_geti G hP 8 (by decide) (by decide) kq_152 rfl dX2_moveWindowOn_48 ?_
    refine lv_aload_n G.1 G.2.1 dX2_moveWindowOn_51 rfl (lv_at hl 0 rfl) ?_
    refine k2_geti G hP 5 (by decide) (by decide) kq_149 rfl dX2_moveWindowOn_52 ?_
    refine lv_icmp_lt (tgt := 63) G.1 G.2.1 dX2_moveWindowOn_55 (by decide) (fun c_55 => ?_) (fun c_55 => ?_)
    · exact k_vret G hr hlocks hP hS (by rw [f_X2_moveWindowOn, if_pos c_23, if_pos c_55]) rfl rfl dX2_moveWindowOn_63
    · refine lv_aload_n G.1 G.2.1 dX2_moveWindowOn_58 rfl (lv_at hl 0 rfl) ?_
      refine lv_iconst (v := 0) G.1 G.2.1 dX2_moveWindowOn_59 (by decide) ?_
      refine k2_puti G hP hS 8 (by decide) (by decide) kq_152 rfl rfl rfl rfl dX2_moveWindowOn_60 (fun H locs hP hS => ?_)
      exact k_vret G hr hlocks hP hS (by rw [f_X2_moveWindowOn, if_pos c_23, if_neg c_55]) rfl rfl dX2_moveWindowOn_63
  · exact k_vret G hr hlocks hP hS (by rw [f_X2_moveWindowOn, if_neg c_23]) rfl rfl dX2_moveWindowOn_26
/-! X2_current -/
def f_X2_current (ka : kM) : Int32 :=
  if (ka 0 7) = 0 then (-1) else (ka 4 (ka 0 8).toNatClampNeg)
set_option maxHeartbeats 4000000 in
set_option maxRecDepth 100000 in
theorem c_X2_current (l : Launch) (D : va_G) (A : Nat → Nat) (C : Nat → ClassId) (ka mu : kM) (o : Int32) (sz : Nat) (hA : kinj A)  (hw : vp_in (ka 0 8) 12) : kMi l yX2_current (.code yX2_current cX2_current 1 (some .int)) ({ frames := 0, cells := 0, slots := 0, locals := 0 }) D A C ka mu o sz [.ref (A 0)] (f_X2_current ka) ka mu o := by
  refine kMi_of hA (by decide) (Nat.le_of_ble_eq_true rfl) (fun p e s m args below meth c G hr hlocks hP hS ls hl => ?_)
  have hl : lv_has ls 1 [(0, .ref (A 0))] := hl
  refine lv_aload_n G.1 G.2.1 dX2_current_0 rfl (lv_at hl 0 rfl) ?_
  refine k2_geti G hP 7 (by decide) (by decide) kq_151 rfl dX2_current_1 ?_
  refine lv_if_eq (tgt := 19) G.1 G.2.1 dX2_current_4 (by decide) (fun c_4 => ?_) (fun c_4 => ?_)
  · refine lv_iconst (v := (-1)) G.1 G.2.1 dX2_current_19 (by decide) ?_
    exact k_iret G hr hlocks hP hS (by rw [f_X2_current, if_pos c_4]) rfl rfl rfl dX2_current_20
  · refine lv_aload_n G.1 G.2.1 dX2_current_7 rfl (lv_at hl 0 rfl) ?_
    refine k2_getr G hP 3 (by decide) kq_147 rfl dX2_current_8 ?_
    refine lv_aload_n G.1 G.2.1 dX2_current_11 rfl (lv_at hl 0 rfl) ?_
    refine k2_geti G hP 8 (by decide) (by decide) kq_152 rfl dX2_current_12 ?_
    refine kK_ald (r := 4) G hP kI_4 (by omega) hw dX2_current_15 ?_
    refine lv_goto (tgt := 20) G.1 G.2.1 dX2_current_16 (by decide) ?_
    exact k_iret G hr hlocks hP hS (by rw [f_X2_current, if_neg c_4]) rfl rfl rfl dX2_current_20
/-! X2_ticks -/
def f_X2_ticks (ka : kM) : Int32 :=
  (ka 0 11)
set_option maxHeartbeats 4000000 in
set_option maxRecDepth 100000 in
theorem c_X2_ticks (l : Launch) (D : va_G) (A : Nat → Nat) (C : Nat → ClassId) (ka mu : kM) (o : Int32) (sz : Nat) (hA : kinj A)  : kMi l yX2_ticks (.code yX2_ticks cX2_ticks 1 (some .int)) ({ frames := 0, cells := 0, slots := 0, locals := 0 }) D A C ka mu o sz [.ref (A 0)] (f_X2_ticks ka) ka mu o := by
  refine kMi_of hA (by decide) (Nat.le_of_ble_eq_true rfl) (fun p e s m args below meth c G hr hlocks hP hS ls hl => ?_)
  have hl : lv_has ls 1 [(0, .ref (A 0))] := hl
  refine lv_aload_n G.1 G.2.1 dX2_ticks_0 rfl (lv_at hl 0 rfl) ?_
  refine k2_geti G hP 11 (by decide) (by decide) kq_155 rfl dX2_ticks_1 ?_
  exact k_iret G hr hlocks hP hS (by rw [f_X2_ticks]) rfl rfl rfl dX2_ticks_4
end
section
theorem kin_chan {ka : kM} {i : Int32} (h : ¬ f_X2_isChannel ka i = 0) : vp_in i 8 := by
  unfold f_X2_isChannel at h
  by_cases h1 : i < 0
  · rw [if_pos h1] at h; exact absurd rfl h
  · rw [if_neg h1] at h
    by_cases h2 : 8 ≤ i
    · rw [if_pos h2] at h; exact absurd rfl h
    · exact kin_of (n := 8) (by decide) h1 h2
end
section
/-! X2_send -/
def f_X2_send (ka : kM) (p0 : Int32) (p1 : Int32) (p2 : Int32) (p3 : Int32) : Int32 × kM :=
  if (f_X2_isChannel ka p3) = 0 then (3, ka) else if (ka (p3.toNatClampNeg + 18) 2) = p0 then (if ((f_X0_put ka p3.toNatClampNeg (ka (p0.toNatClampNeg + 12) p1.toNatClampNeg) (ka 0 11)).1) = 0 then (0, kup ((f_X0_put ka p3.toNatClampNeg (ka (p0.toNatClampNeg + 12) p1.toNatClampNeg) (ka 0 11)).2) (p0.toNatClampNeg + 12) p2.toNatClampNeg 0) else (0, kup ((f_X0_put ka p3.toNatClampNeg (ka (p0.toNatClampNeg + 12) p1.toNatClampNeg) (ka 0 11)).2) (p0.toNatClampNeg + 12) p2.toNatClampNeg 1)) else (3, ka)
set_option maxHeartbeats 4000000 in
set_option maxRecDepth 100000 in
theorem c_X2_send (l : Launch) (D : va_G) (A : Nat → Nat) (C : Nat → ClassId) (ka mu : kM) (o : Int32) (sz : Nat) (hA : kinj A) (p0 : Int32) (p1 : Int32) (p2 : Int32) (p3 : Int32) (hp : vp_in p0 6) (ha : vp_in p1 4) (hb : vp_in p2 4) : kMi l yX2_send (.code yX2_send cX2_send 6 (some .int)) ({ frames := 2, cells := 0, slots := 0, locals := 43 }) D A C ka mu o sz [.ref (A 0), .int p0, .int p1, .int p2, .int p3] ((f_X2_send ka p0 p1 p2 p3).1) ((f_X2_send ka p0 p1 p2 p3).2) mu o := by
  refine kMi_of hA (by decide) (Nat.le_of_ble_eq_true rfl) (fun p e s m args below meth c G hr hlocks hP hS ls hl => ?_)
  have hl : lv_has ls 6 [(0, .ref (A 0)), (1, .int p0), (2, .int p1), (3, .int p2), (4, .int p3)] := hl
  refine lv_aload_n G.1 G.2.1 dX2_send_0 rfl (lv_at hl 0 rfl) ?_
  refine lv_iload G.1 G.2.1 dX2_send_1 (lv_at hl 4 rfl) ?_
  refine k_Vi (As := [.int p3]) (rest := []) G hP hS hl.1 kl_X2_110 yk_X2_isChannel (c_X2_isChannel l D A C _ _ _ _ G.2.2.2.2.2.2 p3 ) (kr2 G hP) (by decide) (by decide) rfl (Nat.le_of_ble_eq_true rfl) dX2_send_3 (fun H locs hP hS => ?_)
  refine lv_if_eq (tgt := 23) G.1 G.2.1 dX2_send_6 (by decide) (fun c_6 => ?_) (fun c_6 => ?_)
  · refine lv_iconst (v := 3) G.1 G.2.1 dX2_send_23 (by decide) ?_
    exact k_iret G hr hlocks hP hS (by rw [f_X2_send, if_pos c_6]) (by rw [f_X2_send, if_pos c_6]) rfl rfl dX2_send_24
  · refine lv_aload_n G.1 G.2.1 dX2_send_9 rfl (lv_at hl 0 rfl) ?_
    refine k2_getr G hP 2 (by decide) kq_146 rfl dX2_send_10 ?_
    refine lv_iload G.1 G.2.1 dX2_send_13 (lv_at hl 4 rfl) ?_
    have hin_15 : vp_in p3 8 := (kin_chan c_6)
    refine kC_ald G hP hin_15 dX2_send_15 ?_
    have hj_15 : p3.toNatClampNeg < 8 := kx_lt hin_15
    refine k0N_geti G hP hj_15 2 (by decide) (by decide) kq_113 rfl dX2_send_16 ?_
    refine lv_iload_n G.1 G.2.1 dX2_send_19 rfl (lv_at hl 1 rfl) ?_
    refine lv_icmp_eq (tgt := 25) G.1 G.2.1 dX2_send_20 (by decide) (fun c_20 => ?_) (fun c_20 => ?_)
    · refine lv_aload_n G.1 G.2.1 dX2_send_25 rfl (lv_at hl 0 rfl) ?_
      refine k2_getr G hP 1 (by decide) kq_145 rfl dX2_send_26 ?_
      refine lv_iload_n G.1 G.2.1 dX2_send_29 rfl (lv_at hl 1 rfl) ?_
      have hin_30 : vp_in p0 6 := hp
      refine kP_ald G hP hin_30 dX2_send_30 ?_
      have hj_30 : p0.toNatClampNeg < 6 := kx_lt hin_30
      refine k1N_getr G hP hj_30 kq_66 dX2_send_31 ?_
      refine lv_astore (lv' := [(5, .ref (A (p0.toNatClampNeg + 12))), (0, .ref (A 0)), (1, .int p0), (2, .int p1), (3, .int p2), (4, .int p3)]) G.1 G.2.1 dX2_send_34 hl (by decide) rfl (fun ls hl => ?_)
      refine lv_aload G.1 G.2.1 dX2_send_36 (lv_at hl 0 rfl) ?_
      refine lv_iload_n G.1 G.2.1 dX2_send_38 rfl (lv_at hl 4 rfl) ?_
      refine lv_aload_n G.1 G.2.1 dX2_send_39 rfl (lv_at hl 1 rfl) ?_
      refine k2_getr G hP 2 (by decide) kq_146 rfl dX2_send_40 ?_
      refine lv_iload G.1 G.2.1 dX2_send_43 (lv_at hl 5 rfl) ?_
      have hin_45 : vp_in p3 8 := (kin_chan c_6)
      refine kC_ald G hP hin_45 dX2_send_45 ?_
      have hj_45 : p3.toNatClampNeg < 8 := kx_lt hin_45
      refine lv_aload G.1 G.2.1 dX2_send_46 (lv_at hl 0 rfl) ?_
      refine lv_iload_n G.1 G.2.1 dX2_send_48 rfl (lv_at hl 3 rfl) ?_
      refine kK_ald (r := p0.toNatClampNeg + 12) G hP (kI_R hj_30) (by omega) ha dX2_send_49 ?_
      refine lv_aload_n G.1 G.2.1 dX2_send_50 rfl (lv_at hl 1 rfl) ?_
      refine k2_geti G hP 11 (by decide) (by decide) kq_155 rfl dX2_send_51 ?_
      refine k_Ni (As := [.int (ka (p0.toNatClampNeg + 12) p1.toNatClampNeg), .int (ka 0 11)]) (rest := [.int p2, .ref (A (p0.toNatClampNeg + 12))]) G hP hS hl.1 kl_X2_203 yk_X0_put (c_X0_put l D A C _ _ _ _ G.2.2.2.2.2.2 p3.toNatClampNeg hj_45 (ka (p0.toNatClampNeg + 12) p1.toNatClampNeg) (ka 0 11) ) (kr0 G hP hj_45) (by decide) (by decide) rfl (Nat.le_of_ble_eq_true rfl) dX2_send_54 (fun H locs hP hS => ?_)
      refine lv_if_eq (tgt := 64) G.1 G.2.1 dX2_send_57 (by decide) (fun c_57 => ?_) (fun c_57 => ?_)
      · refine lv_iconst (v := 0) G.1 G.2.1 dX2_send_64 (by decide) ?_
        refine kK_ast (r := p0.toNatClampNeg + 12) G hP hS (kI_R hj_30) (by omega) hb dX2_send_65 (fun H locs hP hS => ?_)
        refine lv_iconst (v := 0) G.1 G.2.1 dX2_send_66 (by decide) ?_
        exact k_iret G hr hlocks hP hS (by rw [f_X2_send, if_neg c_6, if_pos c_20, if_pos c_57]) (by rw [f_X2_send, if_neg c_6, if_pos c_20, if_pos c_57]) rfl rfl dX2_send_67
      · refine lv_iconst (v := 1) G.1 G.2.1 dX2_send_60 (by decide) ?_
        refine lv_goto (tgt := 65) G.1 G.2.1 dX2_send_61 (by decide) ?_
        refine kK_ast (r := p0.toNatClampNeg + 12) G hP hS (kI_R hj_30) (by omega) hb dX2_send_65 (fun H locs hP hS => ?_)
        refine lv_iconst (v := 0) G.1 G.2.1 dX2_send_66 (by decide) ?_
        exact k_iret G hr hlocks hP hS (by rw [f_X2_send, if_neg c_6, if_pos c_20, if_neg c_57]) (by rw [f_X2_send, if_neg c_6, if_pos c_20, if_neg c_57]) rfl rfl dX2_send_67
    · refine lv_iconst (v := 3) G.1 G.2.1 dX2_send_23 (by decide) ?_
      exact k_iret G hr hlocks hP hS (by rw [f_X2_send, if_neg c_6, if_neg c_20]) (by rw [f_X2_send, if_neg c_6, if_neg c_20]) rfl rfl dX2_send_24
/-! X2_take -/
def f_X2_take (ka : kM) (p0 : Int32) (p1 : Int32) (p2 : Int32) (p3 : Int32) : Int32 × kM :=
  if (f_X2_isChannel ka p3) = 0 then (3, ka) else if (ka (p3.toNatClampNeg + 18) 3) = p0 then (if (ka (p3.toNatClampNeg + 18) 6) = 0 then (0, kup ka (p0.toNatClampNeg + 12) p2.toNatClampNeg 0) else if (f_X0_isSlot (kup ka (p0.toNatClampNeg + 12) p1.toNatClampNeg (f_X0_wordAt ka p3.toNatClampNeg 0)) p3.toNatClampNeg) = 0 then (0, f_X0_dropTaken (kup (kup ka (p0.toNatClampNeg + 12) p1.toNatClampNeg (f_X0_wordAt ka p3.toNatClampNeg 0)) (p0.toNatClampNeg + 12) p2.toNatClampNeg 1) p3.toNatClampNeg) else (0, f_X0_dropTaken (kup (kup ka (p0.toNatClampNeg + 12) p1.toNatClampNeg (f_X0_wordAt ka p3.toNatClampNeg 0)) (p0.toNatClampNeg + 12) p2.toNatClampNeg ((f_X0_age (kup ka (p0.toNatClampNeg + 12) p1.toNatClampNeg (f_X0_wordAt ka p3.toNatClampNeg 0)) p3.toNatClampNeg ((kup ka (p0.toNatClampNeg + 12) p1.toNatClampNeg (f_X0_wordAt ka p3.toNatClampNeg 0)) 0 11)) + 1)) p3.toNatClampNeg)) else (3, ka)
set_option maxHeartbeats 4000000 in
set_option maxRecDepth 100000 in
theorem c_X2_take (l : Launch) (D : va_G) (A : Nat → Nat) (C : Nat → ClassId) (ka mu : kM) (o : Int32) (sz : Nat) (hA : kinj A) (p0 : Int32) (p1 : Int32) (p2 : Int32) (p3 : Int32) (hp : vp_in p0 6) (ha : vp_in p1 4) (hb : vp_in p2 4) : kMi l yX2_take (.code yX2_take cX2_take 7 (some .int)) ({ frames := 3, cells := 0, slots := 0, locals := 62 }) D A C ka mu o sz [.ref (A 0), .int p0, .int p1, .int p2, .int p3] ((f_X2_take ka p0 p1 p2 p3).1) ((f_X2_take ka p0 p1 p2 p3).2) mu o := by
  refine kMi_of hA (by decide) (Nat.le_of_ble_eq_true rfl) (fun p e s m args below meth c G hr hlocks hP hS ls hl => ?_)
  have hl : lv_has ls 7 [(0, .ref (A 0)), (1, .int p0), (2, .int p1), (3, .int p2), (4, .int p3)] := hl
  refine lv_aload_n G.1 G.2.1 dX2_take_0 rfl (lv_at hl 0 rfl) ?_
  refine lv_iload G.1 G.2.1 dX2_take_1 (lv_at hl 4 rfl) ?_
  refine k_Vi (As := [.int p3]) (rest := []) G hP hS hl.1 kl_X2_110 yk_X2_isChannel (c_X2_isChannel l D A C _ _ _ _ G.2.2.2.2.2.2 p3 ) (kr2 G hP) (by decide) (by decide) rfl (Nat.le_of_ble_eq_true rfl) dX2_take_3 (fun H locs hP hS => ?_)
  refine lv_if_eq (tgt := 23) G.1 G.2.1 dX2_take_6 (by decide) (fun c_6 => ?_) (fun c_6 => ?_)
  · refine lv_iconst (v := 3) G.1 G.2.1 dX2_take_23 (by decide) ?_
    exact k_iret G hr hlocks hP hS (by rw [f_X2_take, if_pos c_6]) (by rw [f_X2_take, if_pos c_6]) rfl rfl dX2_take_24
  · refine lv_aload_n G.1 G.2.1 dX2_take_9 rfl (lv_at hl 0 rfl) ?_
    refine k2_getr G hP 2 (by decide) kq_146 rfl dX2_take_10 ?_
    refine lv_iload G.1 G.2.1 dX2_take_13 (lv_at hl 4 rfl) ?_
    have hin_15 : vp_in p3 8 := (kin_chan c_6)
    refine kC_ald G hP hin_15 dX2_take_15 ?_
    have hj_15 : p3.toNatClampNeg < 8 := kx_lt hin_15
    refine k0N_geti G hP hj_15 3 (by decide) (by decide) kq_115 rfl dX2_take_16 ?_
    refine lv_iload_n G.1 G.2.1 dX2_take_19 rfl (lv_at hl 1 rfl) ?_
    refine lv_icmp_eq (tgt := 25) G.1 G.2.1 dX2_take_20 (by decide) (fun c_20 => ?_) (fun c_20 => ?_)
    · refine lv_aload_n G.1 G.2.1 dX2_take_25 rfl (lv_at hl 0 rfl) ?_
      refine k2_getr G hP 2 (by decide) kq_146 rfl dX2_take_26 ?_
      refine lv_iload G.1 G.2.1 dX2_take_29 (lv_at hl 4 rfl) ?_
      have hin_31 : vp_in p3 8 := (kin_chan c_6)
      refine kC_ald G hP hin_31 dX2_take_31 ?_
      have hj_31 : p3.toNatClampNeg < 8 := kx_lt hin_31
      refine lv_astore (lv' := [(5, .ref (A (p3.toNatClampNeg + 18))), (0, .ref (A 0)), (1, .int p0), (2, .int p1), (3, .int p2), (4, .int p3)]) G.1 G.2.1 dX2_take_32 hl (by decide) rfl (fun ls hl => ?_)
      refine lv_aload_n G.1 G.2.1 dX2_take_34 rfl (lv_at hl 1 rfl) ?_
      refine k2_getr G hP 1 (by decide) kq_145 rfl dX2_take_35 ?_
      refine lv_iload_n G.1 G.2.1 dX2_take_38 rfl (lv_at hl 2 rfl) ?_
      have hin_39 : vp_in p0 6 := hp
      refine kP_ald G hP hin_39 dX2_take_39 ?_
      have hj_39 : p0.toNatClampNeg < 6 := kx_lt hin_39
      refine k1N_getr G hP hj_39 kq_66 dX2_take_40 ?_
      refine lv_astore (lv' := [(6, .ref (A (p0.toNatClampNeg + 12))), (5, .ref (A (p3.toNatClampNeg + 18))), (0, .ref (A 0)), (1, .int p0), (2, .int p1), (3, .int p2), (4, .int p3)]) G.1 G.2.1 dX2_take_43 hl (by decide) rfl (fun ls hl => ?_)
      refine lv_aload G.1 G.2.1 dX2_take_45 (lv_at hl 1 rfl) ?_
      refine k0N_geti G hP hj_31 6 (by decide) (by decide) kq_119 rfl dX2_take_47 ?_
      refine lv_if_ne (tgt := 60) G.1 G.2.1 dX2_take_50 (by decide) (fun c_50 => ?_) (fun c_50 => ?_)
      · refine lv_aload G.1 G.2.1 dX2_take_60 (lv_at hl 0 rfl) ?_
        refine lv_iload_n G.1 G.2.1 dX2_take_62 rfl (lv_at hl 4 rfl) ?_
        refine lv_aload G.1 G.2.1 dX2_take_63 (lv_at hl 1 rfl) ?_
        refine lv_iconst (v := 0) G.1 G.2.1 dX2_take_65 (by decide) ?_
        refine k_Ni (As := [.int 0]) (rest := [.int p1, .ref (A (p0.toNatClampNeg + 12))]) G hP hS hl.1 kl_X2_126 yk_X0_wordAt (c_X0_wordAt l D A C _ _ _ _ G.2.2.2.2.2.2 p3.toNatClampNeg hj_31 0 ) (kr0 G hP hj_31) (by decide) (by decide) rfl (Nat.le_of_ble_eq_true rfl) dX2_take_66 (fun H locs hP hS => ?_)
        refine kK_ast (r := p0.toNatClampNeg + 12) G hP hS (kI_R hj_39) (by omega) ha dX2_take_69 (fun H locs hP hS => ?_)
        refine lv_aload G.1 G.2.1 dX2_take_70 (lv_at hl 0 rfl) ?_
        refine lv_iload_n G.1 G.2.1 dX2_take_72 rfl (lv_at hl 5 rfl) ?_
        refine lv_aload G.1 G.2.1 dX2_take_73 (lv_at hl 1 rfl) ?_
        refine k_Ni (As := []) (rest := [.int p2, .ref (A (p0.toNatClampNeg + 12))]) G hP hS hl.1 kl_X2_123 yk_X0_isSlot (c_X0_isSlot l D A C _ _ _ _ G.2.2.2.2.2.2 p3.toNatClampNeg hj_31 ) (kr0 G hP hj_31) (by decide) (by decide) rfl (Nat.le_of_ble_eq_true rfl) dX2_take_75 (fun H locs hP hS => ?_)
        refine lv_if_eq (tgt := 95) G.1 G.2.1 dX2_take_78 (by decide) (fun c_78 => ?_) (fun c_78 => ?_)
        · refine lv_iconst (v := 1) G.1 G.2.1 dX2_take_95 (by decide) ?_
          refine kK_ast (r := p0.toNatClampNeg + 12) G hP hS (kI_R hj_39) (by omega) hb dX2_take_96 (fun H locs hP hS => ?_)
          refine lv_aload G.1 G.2.1 dX2_take_97 (lv_at hl 1 rfl) ?_
          refine k_Nv (As := []) (rest := []) G hP hS hl.1 kl_X2_215 yk_X0_dropTaken (c_X0_dropTaken l D A C _ _ _ _ G.2.2.2.2.2.2 p3.toNatClampNeg hj_31 ) (kr0 G hP hj_31) (by decide) (by decide) rfl (Nat.le_of_ble_eq_true rfl) dX2_take_99 (fun H locs hP hS => ?_)
          refine lv_iconst (v := 0) G.1 G.2.1 dX2_take_102 (by decide) ?_
          exact k_iret G hr hlocks hP hS (by rw [f_X2_take, if_neg c_6, if_pos c_20, if_neg c_50, if_pos c_78]) (by rw [f_X2_take, if_neg c_6, if_pos c_20, if_neg c_50, if_pos c_78]) rfl rfl dX2_take_103
        · refine lv_aload G.1 G.2.1 dX2_take_81 (lv_at hl 1 rfl) ?_
          refine lv_aload_n G.1 G.2.1 dX2_take_83 rfl (lv_at hl 2 rfl) ?_
          refine k2_geti G hP 11 (by decide) (by decide) kq_155 rfl dX2_take_84 ?_
          refine k_Ni (As := [.int ((kup ka (p0.toNatClampNeg + 12) p1.toNatClampNeg (f_X0_wordAt ka p3.toNatClampNeg 0)) 0 11)]) (rest := [.int p2, .ref (A (p0.toNatClampNeg + 12))]) G hP hS hl.1 kl_X2_212 yk_X0_age (c_X0_age l D A C _ _ _ _ G.2.2.2.2.2.2 p3.toNatClampNeg hj_31 ((kup ka (p0.toNatClampNeg + 12) p1.toNatClampNeg (f_X0_wordAt ka p3.toNatClampNeg 0)) 0 11) ) (kr0 G hP hj_31) (by decide) (by decide) rfl (Nat.le_of_ble_eq_true rfl) dX2_take_87 (fun H locs hP hS => ?_)
          refine lv_iconst (v := 1) G.1 G.2.1 dX2_take_90 (by decide) ?_
          refine lv_iadd G.1 G.2.1 dX2_take_91 ?_
          refine lv_goto (tgt := 96) G.1 G.2.1 dX2_take_92 (by decide) ?_
          refine kK_ast (r := p0.toNatClampNeg + 12) G hP hS (kI_R hj_39) (by omega) hb dX2_take_96 (fun H locs hP hS => ?_)
          refine lv_aload G.1 G.2.1 dX2_take_97 (lv_at hl 1 rfl) ?_
          refine k_Nv (As := []) (rest := []) G hP hS hl.1 kl_X2_215 yk_X0_dropTaken (c_X0_dropTaken l D A C _ _ _ _ G.2.2.2.2.2.2 p3.toNatClampNeg hj_31 ) (kr0 G hP hj_31) (by decide) (by decide) rfl (Nat.le_of_ble_eq_true rfl) dX2_take_99 (fun H locs hP hS => ?_)
          refine lv_iconst (v := 0) G.1 G.2.1 dX2_take_102 (by decide) ?_
          exact k_iret G hr hlocks hP hS (by rw [f_X2_take, if_neg c_6, if_pos c_20, if_neg c_50, if_neg c_78]) (by rw [f_X2_take, if_neg c_6, if_pos c_20, if_neg c_50, if_neg c_78]) rfl rfl dX2_take_103
      · refine lv_aload G.1 G.2.1 dX2_take_53 (lv_at hl 0 rfl) ?_
        refine lv_iload_n G.1 G.2.1 dX2_take_55 rfl (lv_at hl 5 rfl) ?_
        refine lv_iconst (v := 0) G.1 G.2.1 dX2_take_56 (by decide) ?_
        refine kK_ast (r := p0.toNatClampNeg + 12) G hP hS (kI_R hj_39) (by omega) hb dX2_take_57 (fun H locs hP hS => ?_)
        refine lv_iconst (v := 0) G.1 G.2.1 dX2_take_58 (by decide) ?_
        exact k_iret G hr hlocks hP hS (by rw [f_X2_take, if_neg c_6, if_pos c_20, if_pos c_50]) (by rw [f_X2_take, if_neg c_6, if_pos c_20, if_pos c_50]) rfl rfl dX2_take_59
    · refine lv_iconst (v := 3) G.1 G.2.1 dX2_take_23 (by decide) ?_
      exact k_iret G hr hlocks hP hS (by rw [f_X2_take, if_neg c_6, if_neg c_20]) (by rw [f_X2_take, if_neg c_6, if_neg c_20]) rfl rfl dX2_take_24
/-! X2_perform -/
def f_X2_perform (ka : kM) (p0 : Int32) (p1 : Int32) : Int32 × kM :=
  if p1 &&& 15 = 0 then (0, kup ka (p0.toNatClampNeg + 6) 1 2) else if p1 &&& 15 = 1 then (0, kup ka (p0.toNatClampNeg + 12) ((p1 >>> (4 &&& 31)) &&& 3).toNatClampNeg (f_X2_computed ka (p1 &&& 15) (ka (p0.toNatClampNeg + 12) ((p1 >>> (4 &&& 31)) &&& 3).toNatClampNeg) (ka (p0.toNatClampNeg + 12) ((p1 >>> (6 &&& 31)) &&& 3).toNatClampNeg) (p1 >>> (8 &&& 31)))) else if p1 &&& 15 = 2 then (0, kup ka (p0.toNatClampNeg + 12) ((p1 >>> (4 &&& 31)) &&& 3).toNatClampNeg (f_X2_computed ka (p1 &&& 15) (ka (p0.toNatClampNeg + 12) ((p1 >>> (4 &&& 31)) &&& 3).toNatClampNeg) (ka (p0.toNatClampNeg + 12) ((p1 >>> (6 &&& 31)) &&& 3).toNatClampNeg) (p1 >>> (8 &&& 31)))) else if p1 &&& 15 = 3 then (0, kup ka (p0.toNatClampNeg + 12) ((p1 >>> (4 &&& 31)) &&& 3).toNatClampNeg (f_X2_computed ka (p1 &&& 15) (ka (p0.toNatClampNeg + 12) ((p1 >>> (4 &&& 31)) &&& 3).toNatClampNeg) (ka (p0.toNatClampNeg + 12) ((p1 >>> (6 &&& 31)) &&& 3).toNatClampNeg) (p1 >>> (8 &&& 31)))) else if p1 &&& 15 = 4 then (0, kup ka (p0.toNatClampNeg + 12) ((p1 >>> (4 &&& 31)) &&& 3).toNatClampNeg (f_X2_computed ka (p1 &&& 15) (ka (p0.toNatClampNeg + 12) ((p1 >>> (4 &&& 31)) &&& 3).toNatClampNeg) (ka (p0.toNatClampNeg + 12) ((p1 >>> (6 &&& 31)) &&& 3).toNatClampNeg) (p1 >>> (8 &&& 31)))) else if p1 &&& 15 = 5 then (0, kup ka (p0.toNatClampNeg + 12) ((p1 >>> (4 &&& 31)) &&& 3).toNatClampNeg (f_X2_computed ka (p1 &&& 15) (ka (p0.toNatClampNeg + 12) ((p1 >>> (4 &&& 31)) &&& 3).toNatClampNeg) (ka (p0.toNatClampNeg + 12) ((p1 >>> (6 &&& 31)) &&& 3).toNatClampNeg) (p1 >>> (8 &&& 31)))) else if p1 &&& 15 = 6 then ((f_X2_load ka p0.toNatClampNeg ((p1 >>> (4 &&& 31)) &&& 3) ((ka (p0.toNatClampNeg + 12) ((p1 >>> (6 &&& 31)) &&& 3).toNatClampNeg) + (p1 >>> (8 &&& 31)))).1, (f_X2_load ka p0.toNatClampNeg ((p1 >>> (4 &&& 31)) &&& 3) ((ka (p0.toNatClampNeg + 12) ((p1 >>> (6 &&& 31)) &&& 3).toNatClampNeg) + (p1 >>> (8 &&& 31)))).2) else if p1 &&& 15 = 7 then ((f_X2_store ka p0.toNatClampNeg ((p1 >>> (4 &&& 31)) &&& 3) ((ka (p0.toNatClampNeg + 12) ((p1 >>> (6 &&& 31)) &&& 3).toNatClampNeg) + (p1 >>> (8 &&& 31)))).1, (f_X2_store ka p0.toNatClampNeg ((p1 >>> (4 &&& 31)) &&& 3) ((ka (p0.toNatClampNeg + 12) ((p1 >>> (6 &&& 31)) &&& 3).toNatClampNeg) + (p1 >>> (8 &&& 31)))).2) else if p1 &&& 15 = 8 then (if (ka (p0.toNatClampNeg + 12) ((p1 >>> (4 &&& 31)) &&& 3).toNatClampNeg) = 0 then (0, f_X1_jumpIf ka p0.toNatClampNeg 1 (p1 >>> (8 &&& 31))) else (0, f_X1_jumpIf ka p0.toNatClampNeg 0 (p1 >>> (8 &&& 31)))) else if p1 &&& 15 = 9 then (if (0 : Int32) ≤ (ka (p0.toNatClampNeg + 12) ((p1 >>> (4 &&& 31)) &&& 3).toNatClampNeg) then (0, f_X1_jumpIf ka p0.toNatClampNeg 0 (p1 >>> (8 &&& 31))) else (0, f_X1_jumpIf ka p0.toNatClampNeg 1 (p1 >>> (8 &&& 31)))) else if p1 &&& 15 = 10 then (0, kup ka (p0.toNatClampNeg + 6) 5 (ka (p0.toNatClampNeg + 12) ((p1 >>> (4 &&& 31)) &&& 3).toNatClampNeg)) else if p1 &&& 15 = 11 then ((f_X2_send ka p0 ((p1 >>> (4 &&& 31)) &&& 3) ((p1 >>> (6 &&& 31)) &&& 3) (p1 >>> (8 &&& 31))).1, (f_X2_send ka p0 ((p1 >>> (4 &&& 31)) &&& 3) ((p1 >>> (6 &&& 31)) &&& 3) (p1 >>> (8 &&& 31))).2) else if p1 &&& 15 = 12 then ((f_X2_take ka p0 ((p1 >>> (4 &&& 31)) &&& 3) ((p1 >>> (6 &&& 31)) &&& 3) (p1 >>> (8 &&& 31))).1, (f_X2_take ka p0 ((p1 >>> (4 &&& 31)) &&& 3) ((p1 >>> (6 &&& 31)) &&& 3) (p1 >>> (8 &&& 31))).2) else if p1 &&& 15 = 13 then (0, kup ka 0 10 1) else if p1 &&& 15 = 14 then (0, kup ka (p0.toNatClampNeg + 12) ((p1 >>> (4 &&& 31)) &&& 3).toNatClampNeg (ka (p0.toNatClampNeg + 6) 6)) else if p1 &&& 15 = 15 then (4, ka) else (0, kup ka (p0.toNatClampNeg + 12) ((p1 >>> (4 &&& 31)) &&& 3).toNatClampNeg (f_X2_computed ka (p1 &&& 15) (ka (p0.toNatClampNeg + 12) ((p1 >>> (4 &&& 31)) &&& 3).toNatClampNeg) (ka (p0.toNatClampNeg + 12) ((p1 >>> (6 &&& 31)) &&& 3).toNatClampNeg) (p1 >>> (8 &&& 31))))
set_option maxHeartbeats 4000000 in
set_option maxRecDepth 100000 in
theorem c_X2_perform (l : Launch) (D : va_G) (A : Nat → Nat) (C : Nat → ClassId) (ka mu : kM) (o : Int32) (sz : Nat) (hA : kinj A) (p0 : Int32) (p1 : Int32) (hp : vp_in p0 6) (hB : kB ka p0.toNatClampNeg) : kMi l yX2_perform (.code yX2_perform cX2_perform 8 (some .int)) ({ frames := 4, cells := 0, slots := 0, locals := 88 }) D A C ka mu o sz [.ref (A 0), .int p0, .int p1] ((f_X2_perform ka p0 p1).1) ((f_X2_perform ka p0 p1).2) mu o := by
  refine kMi_of hA (by decide) (Nat.le_of_ble_eq_true rfl) (fun p e s m args below meth c G hr hlocks hP hS ls hl => ?_)
  have hl : lv_has ls 8 [(0, .ref (A 0)), (1, .int p0), (2, .int p1)] := hl
  refine lv_aload_n G.1 G.2.1 dX2_perform_0 rfl (lv_at hl 0 rfl) ?_
  refine k2_getr G hP 1 (by decide) kq_145 rfl dX2_perform_1 ?_
  refine lv_iload_n G.1 G.2.1 dX2_perform_4 rfl (lv_at hl 1 rfl) ?_
  have hin_5 : vp_in p0 6 := hp
  refine kP_ald G hP hin_5 dX2_perform_5 ?_
  have hj_5 : p0.toNatClampNeg < 6 := kx_lt hin_5
  refine lv_astore_n (lv' := [(3, .ref (A (p0.toNatClampNeg + 6))), (0, .ref (A 0)), (1, .int p0), (2, .int p1)]) G.1 G.2.1 dX2_perform_6 rfl hl (by decide) rfl (fun ls hl => ?_)
  refine lv_aload_n G.1 G.2.1 dX2_perform_7 rfl (lv_at hl 0 rfl) ?_
  refine k1N_getr G hP hj_5 kq_66 dX2_perform_8 ?_
  refine lv_astore (lv' := [(4, .ref (A (p0.toNatClampNeg + 12))), (3, .ref (A (p0.toNatClampNeg + 6))), (0, .ref (A 0)), (1, .int p0), (2, .int p1)]) G.1 G.2.1 dX2_perform_11 hl (by decide) rfl (fun ls hl => ?_)
  refine lv_iload_n G.1 G.2.1 dX2_perform_13 rfl (lv_at hl 4 rfl) ?_
  refine lv_iconst (v := 4) G.1 G.2.1 dX2_perform_14 (by decide) ?_
  refine lv_ishr G.1 G.2.1 dX2_perform_15 ?_
  refine lv_iconst (v := 3) G.1 G.2.1 dX2_perform_16 (by decide) ?_
  refine lv_iand G.1 G.2.1 dX2_perform_17 ?_
  refine lv_istore (lv' := [(5, .int ((p1 >>> (4 &&& 31)) &&& 3)), (4, .ref (A (p0.toNatClampNeg + 12))), (3, .ref (A (p0.toNatClampNeg + 6))), (0, .ref (A 0)), (1, .int p0), (2, .int p1)]) G.1 G.2.1 dX2_perform_18 hl (by decide) rfl (fun ls hl => ?_)
  refine lv_iload_n G.1 G.2.1 dX2_perform_20 rfl (lv_at hl 5 rfl) ?_
  refine lv_bipush (v := 6) G.1 G.2.1 dX2_perform_21 (by decide) ?_
  refine lv_ishr G.1 G.2.1 dX2_perform_23 ?_
  refine lv_iconst (v := 3) G.1 G.2.1 dX2_perform_24 (by decide) ?_
  refine lv_iand G.1 G.2.1 dX2_perform_25 ?_
  refine lv_istore (lv' := [(6, .int ((p1 >>> (6 &&& 31)) &&& 3)), (5, .int ((p1 >>> (4 &&& 31)) &&& 3)), (4, .ref (A (p0.toNatClampNeg + 12))), (3, .ref (A (p0.toNatClampNeg + 6))), (0, .ref (A 0)), (1, .int p0), (2, .int p1)]) G.1 G.2.1 dX2_perform_26 hl (by decide) rfl (fun ls hl => ?_)
  refine lv_iload_n G.1 G.2.1 dX2_perform_28 rfl (lv_at hl 6 rfl) ?_
  refine lv_bipush (v := 8) G.1 G.2.1 dX2_perform_29 (by decide) ?_
  refine lv_ishr G.1 G.2.1 dX2_perform_31 ?_
  refine lv_istore (lv' := [(7, .int (p1 >>> (8 &&& 31))), (6, .int ((p1 >>> (6 &&& 31)) &&& 3)), (5, .int ((p1 >>> (4 &&& 31)) &&& 3)), (4, .ref (A (p0.toNatClampNeg + 12))), (3, .ref (A (p0.toNatClampNeg + 6))), (0, .ref (A 0)), (1, .int p0), (2, .int p1)]) G.1 G.2.1 dX2_perform_32 hl (by decide) rfl (fun ls hl => ?_)
  refine lv_iload_n G.1 G.2.1 dX2_perform_34 rfl (lv_at hl 7 rfl) ?_
  refine lv_bipush (v := 15) G.1 G.2.1 dX2_perform_35 (by decide) ?_
  refine lv_iand G.1 G.2.1 dX2_perform_37 ?_
  by_cases c_38_0 : p1 &&& 15 = 0
  · refine lv_tableIn (tgt := 116) G.1 G.2.1 dX2_perform_38 (by rw [c_38_0]; decide) (by rw [c_38_0]; decide) (by rw [c_38_0]; rfl) (by decide) ?_
    refine lv_aload_n G.1 G.2.1 dX2_perform_116 rfl (lv_at hl 4 rfl) ?_
    refine lv_iconst (v := 2) G.1 G.2.1 dX2_perform_117 (by decide) ?_
    refine k1N_puti G hP hS hj_5 1 (by decide) (by decide) kq_68 rfl rfl rfl rfl dX2_perform_118 (fun H locs hP hS => ?_)
    refine lv_iconst (v := 0) G.1 G.2.1 dX2_perform_121 (by decide) ?_
    exact k_iret G hr hlocks hP hS (by rw [f_X2_perform, if_pos c_38_0]) (by rw [f_X2_perform, if_pos c_38_0]) rfl rfl dX2_perform_122
  · by_cases c_38_1 : p1 &&& 15 = 1
    · refine lv_tableIn (tgt := 252) G.1 G.2.1 dX2_perform_38 (by rw [c_38_1]; decide) (by rw [c_38_1]; decide) (by rw [c_38_1]; rfl) (by decide) ?_
      refine lv_aload G.1 G.2.1 dX2_perform_252 (lv_at hl 3 rfl) ?_
      refine lv_iload G.1 G.2.1 dX2_perform_254 (lv_at hl 2 rfl) ?_
      refine lv_iload_n G.1 G.2.1 dX2_perform_256 rfl (lv_at hl 7 rfl) ?_
      refine lv_bipush (v := 15) G.1 G.2.1 dX2_perform_257 (by decide) ?_
      refine lv_iand G.1 G.2.1 dX2_perform_259 ?_
      refine lv_aload G.1 G.2.1 dX2_perform_260 (lv_at hl 3 rfl) ?_
      refine lv_iload G.1 G.2.1 dX2_perform_262 (lv_at hl 2 rfl) ?_
      refine kK_ald (r := p0.toNatClampNeg + 12) G hP (kI_R hj_5) (by omega) (kin_and3 _) dX2_perform_264 ?_
      refine lv_aload G.1 G.2.1 dX2_perform_265 (lv_at hl 3 rfl) ?_
      refine lv_iload G.1 G.2.1 dX2_perform_267 (lv_at hl 1 rfl) ?_
      refine kK_ald (r := p0.toNatClampNeg + 12) G hP (kI_R hj_5) (by omega) (kin_and3 _) dX2_perform_269 ?_
      refine lv_iload G.1 G.2.1 dX2_perform_270 (lv_at hl 0 rfl) ?_
      refine k_Si (As := [.int (p1 &&& 15), .int (ka (p0.toNatClampNeg + 12) ((p1 >>> (4 &&& 31)) &&& 3).toNatClampNeg), .int (ka (p0.toNatClampNeg + 12) ((p1 >>> (6 &&& 31)) &&& 3).toNatClampNeg), .int (p1 >>> (8 &&& 31))]) (rest := [.int ((p1 >>> (4 &&& 31)) &&& 3), .ref (A (p0.toNatClampNeg + 12))]) G hP hS hl.1 kl_X2_197 yk_X2_computed (c_X2_computed l D A C _ _ _ _ G.2.2.2.2.2.2 (p1 &&& 15) (ka (p0.toNatClampNeg + 12) ((p1 >>> (4 &&& 31)) &&& 3).toNatClampNeg) (ka (p0.toNatClampNeg + 12) ((p1 >>> (6 &&& 31)) &&& 3).toNatClampNeg) (p1 >>> (8 &&& 31)) )  (by decide) (by decide) rfl (Nat.le_of_ble_eq_true rfl) dX2_perform_272 (fun H locs hP hS => ?_)
      refine kK_ast (r := p0.toNatClampNeg + 12) G hP hS (kI_R hj_5) (by omega) (kin_and3 _) dX2_perform_275 (fun H locs hP hS => ?_)
      refine lv_iconst (v := 0) G.1 G.2.1 dX2_perform_276 (by decide) ?_
      exact k_iret G hr hlocks hP hS (by rw [f_X2_perform, if_neg c_38_0, if_pos c_38_1]) (by rw [f_X2_perform, if_neg c_38_0, if_pos c_38_1]) rfl rfl dX2_perform_277
    · by_cases c_38_2 : p1 &&& 15 = 2
      · refine lv_tableIn (tgt := 252) G.1 G.2.1 dX2_perform_38 (by rw [c_38_2]; decide) (by rw [c_38_2]; decide) (by rw [c_38_2]; rfl) (by decide) ?_
        refine lv_aload G.1 G.2.1 dX2_perform_252 (lv_at hl 3 rfl) ?_
        refine lv_iload G.1 G.2.1 dX2_perform_254 (lv_at hl 2 rfl) ?_
        refine lv_iload_n G.1 G.2.1 dX2_perform_256 rfl (lv_at hl 7 rfl) ?_
        refine lv_bipush (v := 15) G.1 G.2.1 dX2_perform_257 (by decide) ?_
        refine lv_iand G.1 G.2.1 dX2_perform_259 ?_
        refine lv_aload G.1 G.2.1 dX2_perform_260 (lv_at hl 3 rfl) ?_
        refine lv_iload G.1 G.2.1 dX2_perform_262 (lv_at hl 2 rfl) ?_
        refine kK_ald (r := p0.toNatClampNeg + 12) G hP (kI_R hj_5) (by omega) (kin_and3 _) dX2_perform_264 ?_
        refine lv_aload G.1 G.2.1 dX2_perform_265 (lv_at hl 3 rfl) ?_
        refine lv_iload G.1 G.2.1 dX2_perform_267 (lv_at hl 1 rfl) ?_
        refine kK_ald (r := p0.toNatClampNeg + 12) G hP (kI_R hj_5) (by omega) (kin_and3 _) dX2_perform_269 ?_
        refine lv_iload G.1 G.2.1 dX2_perform_270 (lv_at hl 0 rfl) ?_
        refine k_Si (As := [.int (p1 &&& 15), .int (ka (p0.toNatClampNeg + 12) ((p1 >>> (4 &&& 31)) &&& 3).toNatClampNeg), .int (ka (p0.toNatClampNeg + 12) ((p1 >>> (6 &&& 31)) &&& 3).toNatClampNeg), .int (p1 >>> (8 &&& 31))]) (rest := [.int ((p1 >>> (4 &&& 31)) &&& 3), .ref (A (p0.toNatClampNeg + 12))]) G hP hS hl.1 kl_X2_197 yk_X2_computed (c_X2_computed l D A C _ _ _ _ G.2.2.2.2.2.2 (p1 &&& 15) (ka (p0.toNatClampNeg + 12) ((p1 >>> (4 &&& 31)) &&& 3).toNatClampNeg) (ka (p0.toNatClampNeg + 12) ((p1 >>> (6 &&& 31)) &&& 3).toNatClampNeg) (p1 >>> (8 &&& 31)) )  (by decide) (by decide) rfl (Nat.le_of_ble_eq_true rfl) dX2_perform_272 (fun H locs hP hS => ?_)
        refine kK_ast (r := p0.toNatClampNeg + 12) G hP hS (kI_R hj_5) (by omega) (kin_and3 _) dX2_perform_275 (fun H locs hP hS => ?_)
        refine lv_iconst (v := 0) G.1 G.2.1 dX2_perform_276 (by decide) ?_
        exact k_iret G hr hlocks hP hS (by rw [f_X2_perform, if_neg c_38_0, if_neg c_38_1, if_pos c_38_2]) (by rw [f_X2_perform, if_neg c_38_0, if_neg c_38_1, if_pos c_38_2]) rfl rfl dX2_perform_277
      · by_cases c_38_3 : p1 &&& 15 = 3
        · refine lv_tableIn (tgt := 252) G.1 G.2.1 dX2_perform_38 (by rw [c_38_3]; decide) (by rw [c_38_3]; decide) (by rw [c_38_3]; rfl) (by decide) ?_
          refine lv_aload G.1 G.2.1 dX2_perform_252 (lv_at hl 3 rfl) ?_
          refine lv_iload G.1 G.2.1 dX2_perform_254 (lv_at hl 2 rfl) ?_
          refine lv_iload_n G.1 G.2.1 dX2_perform_256 rfl (lv_at hl 7 rfl) ?_
          refine lv_bipush (v := 15) G.1 G.2.1 dX2_perform_257 (by decide) ?_
          refine lv_iand G.1 G.2.1 dX2_perform_259 ?_
          refine lv_aload G.1 G.2.1 dX2_perform_260 (lv_at hl 3 rfl) ?_
          refine lv_iload G.1 G.2.1 dX2_perform_262 (lv_at hl 2 rfl) ?_
          refine kK_ald (r := p0.toNatClampNeg + 12) G hP (kI_R hj_5) (by omega) (kin_and3 _) dX2_perform_264 ?_
          refine lv_aload G.1 G.2.1 dX2_perform_265 (lv_at hl 3 rfl) ?_
          refine lv_iload G.1 G.2.1 dX2_perform_267 (lv_at hl 1 rfl) ?_
          refine kK_ald (r := p0.toNatClampNeg + 12) G hP (kI_R hj_5) (by omega) (kin_and3 _) dX2_perform_269 ?_
          refine lv_iload G.1 G.2.1 dX2_perform_270 (lv_at hl 0 rfl) ?_
          refine k_Si (As := [.int (p1 &&& 15), .int (ka (p0.toNatClampNeg + 12) ((p1 >>> (4 &&& 31)) &&& 3).toNatClampNeg), .int (ka (p0.toNatClampNeg + 12) ((p1 >>> (6 &&& 31)) &&& 3).toNatClampNeg), .int (p1 >>> (8 &&& 31))]) (rest := [.int ((p1 >>> (4 &&& 31)) &&& 3), .ref (A (p0.toNatClampNeg + 12))]) G hP hS hl.1 kl_X2_197 yk_X2_computed (c_X2_computed l D A C _ _ _ _ G.2.2.2.2.2.2 (p1 &&& 15) (ka (p0.toNatClampNeg + 12) ((p1 >>> (4 &&& 31)) &&& 3).toNatClampNeg) (ka (p0.toNatClampNeg + 12) ((p1 >>> (6 &&& 31)) &&& 3).toNatClampNeg) (p1 >>> (8 &&& 31)) )  (by decide) (by decide) rfl (Nat.le_of_ble_eq_true rfl) dX2_perform_272 (fun H locs hP hS => ?_)
          refine kK_ast (r := p0.toNatClampNeg + 12) G hP hS (kI_R hj_5) (by omega) (kin_and3 _) dX2_perform_275 (fun H locs hP hS => ?_)
          refine lv_iconst (v := 0) G.1 G.2.1 dX2_perform_276 (by decide) ?_
          exact k_iret G hr hlocks hP hS (by rw [f_X2_perform, if_neg c_38_0, if_neg c_38_1, if_neg c_38_2, if_pos c_38_3]) (by rw [f_X2_perform, if_neg c_38_0, if_neg c_38_1, if_neg c_38_2, if_pos c_38_3]) rfl rfl dX2_perform_277
        · by_cases c_38_4 : p1 &&& 15 = 4
          · refine lv_tableIn (tgt := 252) G.1 G.2.1 dX2_perform_38 (by rw [c_38_4]; decide) (by rw [c_38_4]; decide) (by rw [c_38_4]; rfl) (by decide) ?_
            refine lv_aload G.1 G.2.1 dX2_perform_252 (lv_at hl 3 rfl) ?_
            refine lv_iload G.1 G.2.1 dX2_perform_254 (lv_at hl 2 rfl) ?_
            refine lv_iload_n G.1 G.2.1 dX2_perform_256 rfl (lv_at hl 7 rfl) ?_
            refine lv_bipush (v := 15) G.1 G.2.1 dX2_perform_257 (by decide) ?_
            refine lv_iand G.1 G.2.1 dX2_perform_259 ?_
            refine lv_aload G.1 G.2.1 dX2_perform_260 (lv_at hl 3 rfl) ?_
            refine lv_iload G.1 G.2.1 dX2_perform_262 (lv_at hl 2 rfl) ?_
            refine kK_ald (r := p0.toNatClampNeg + 12) G hP (kI_R hj_5) (by omega) (kin_and3 _) dX2_perform_264 ?_
            refine lv_aload G.1 G.2.1 dX2_perform_265 (lv_at hl 3 rfl) ?_
            refine lv_iload G.1 G.2.1 dX2_perform_267 (lv_at hl 1 rfl) ?_
            refine kK_ald (r := p0.toNatClampNeg + 12) G hP (kI_R hj_5) (by omega) (kin_and3 _) dX2_perform_269 ?_
            refine lv_iload G.1 G.2.1 dX2_perform_270 (lv_at hl 0 rfl) ?_
            refine k_Si (As := [.int (p1 &&& 15), .int (ka (p0.toNatClampNeg + 12) ((p1 >>> (4 &&& 31)) &&& 3).toNatClampNeg), .int (ka (p0.toNatClampNeg + 12) ((p1 >>> (6 &&& 31)) &&& 3).toNatClampNeg), .int (p1 >>> (8 &&& 31))]) (rest := [.int ((p1 >>> (4 &&& 31)) &&& 3), .ref (A (p0.toNatClampNeg + 12))]) G hP hS hl.1 kl_X2_197 yk_X2_computed (c_X2_computed l D A C _ _ _ _ G.2.2.2.2.2.2 (p1 &&& 15) (ka (p0.toNatClampNeg + 12) ((p1 >>> (4 &&& 31)) &&& 3).toNatClampNeg) (ka (p0.toNatClampNeg + 12) ((p1 >>> (6 &&& 31)) &&& 3).toNatClampNeg) (p1 >>> (8 &&& 31)) )  (by decide) (by decide) rfl (Nat.le_of_ble_eq_true rfl) dX2_perform_272 (fun H locs hP hS => ?_)
            refine kK_ast (r := p0.toNatClampNeg + 12) G hP hS (kI_R hj_5) (by omega) (kin_and3 _) dX2_perform_275 (fun H locs hP hS => ?_)
            refine lv_iconst (v := 0) G.1 G.2.1 dX2_perform_276 (by decide) ?_
            exact k_iret G hr hlocks hP hS (by rw [f_X2_perform, if_neg c_38_0, if_neg c_38_1, if_neg c_38_2, if_neg c_38_3, if_pos c_38_4]) (by rw [f_X2_perform, if_neg c_38_0, if_neg c_38_1, if_neg c_38_2, if_neg c_38_3, if_pos c_38_4]) rfl rfl dX2_perform_277
          · by_cases c_38_5 : p1 &&& 15 = 5
            · refine lv_tableIn (tgt := 252) G.1 G.2.1 dX2_perform_38 (by rw [c_38_5]; decide) (by rw [c_38_5]; decide) (by rw [c_38_5]; rfl) (by decide) ?_
              refine lv_aload G.1 G.2.1 dX2_perform_252 (lv_at hl 3 rfl) ?_
              refine lv_iload G.1 G.2.1 dX2_perform_254 (lv_at hl 2 rfl) ?_
              refine lv_iload_n G.1 G.2.1 dX2_perform_256 rfl (lv_at hl 7 rfl) ?_
              refine lv_bipush (v := 15) G.1 G.2.1 dX2_perform_257 (by decide) ?_
              refine lv_iand G.1 G.2.1 dX2_perform_259 ?_
              refine lv_aload G.1 G.2.1 dX2_perform_260 (lv_at hl 3 rfl) ?_
              refine lv_iload G.1 G.2.1 dX2_perform_262 (lv_at hl 2 rfl) ?_
              refine kK_ald (r := p0.toNatClampNeg + 12) G hP (kI_R hj_5) (by omega) (kin_and3 _) dX2_perform_264 ?_
              refine lv_aload G.1 G.2.1 dX2_perform_265 (lv_at hl 3 rfl) ?_
              refine lv_iload G.1 G.2.1 dX2_perform_267 (lv_at hl 1 rfl) ?_
              refine kK_ald (r := p0.toNatClampNeg + 12) G hP (kI_R hj_5) (by omega) (kin_and3 _) dX2_perform_269 ?_
              refine lv_iload G.1 G.2.1 dX2_perform_270 (lv_at hl 0 rfl) ?_
              refine k_Si (As := [.int (p1 &&& 15), .int (ka (p0.toNatClampNeg + 12) ((p1 >>> (4 &&& 31)) &&& 3).toNatClampNeg), .int (ka (p0.toNatClampNeg + 12) ((p1 >>> (6 &&& 31)) &&& 3).toNatClampNeg), .int (p1 >>> (8 &&& 31))]) (rest := [.int ((p1 >>> (4 &&& 31)) &&& 3), .ref (A (p0.toNatClampNeg + 12))]) G hP hS hl.1 kl_X2_197 yk_X2_computed (c_X2_computed l D A C _ _ _ _ G.2.2.2.2.2.2 (p1 &&& 15) (ka (p0.toNatClampNeg + 12) ((p1 >>> (4 &&& 31)) &&& 3).toNatClampNeg) (ka (p0.toNatClampNeg + 12) ((p1 >>> (6 &&& 31)) &&& 3).toNatClampNeg) (p1 >>> (8 &&& 31)) )  (by decide) (by decide) rfl (Nat.le_of_ble_eq_true rfl) dX2_perform_272 (fun H locs hP hS => ?_)
              refine kK_ast (r := p0.toNatClampNeg + 12) G hP hS (kI_R hj_5) (by omega) (kin_and3 _) dX2_perform_275 (fun H locs hP hS => ?_)
              refine lv_iconst (v := 0) G.1 G.2.1 dX2_perform_276 (by decide) ?_
              exact k_iret G hr hlocks hP hS (by rw [f_X2_perform, if_neg c_38_0, if_neg c_38_1, if_neg c_38_2, if_neg c_38_3, if_neg c_38_4, if_pos c_38_5]) (by rw [f_X2_perform, if_neg c_38_0, if_neg c_38_1, if_neg c_38_2, if_neg c_38_3, if_neg c_38_4, if_pos c_38_5]) rfl rfl dX2_perform_277
            · by_cases c_38_6 : p1 &&& 15 = 6
              · refine lv_tableIn (tgt := 123) G.1 G.2.1 dX2_perform_38 (by rw [c_38_6]; decide) (by rw [c_38_6]; decide) (by rw [c_38_6]; rfl) (by decide) ?_
                refine lv_aload_n G.1 G.2.1 dX2_perform_123 rfl (lv_at hl 5 rfl) ?_
                refine lv_aload_n G.1 G.2.1 dX2_perform_124 rfl (lv_at hl 4 rfl) ?_
                refine lv_iload G.1 G.2.1 dX2_perform_125 (lv_at hl 2 rfl) ?_
                refine lv_aload G.1 G.2.1 dX2_perform_127 (lv_at hl 3 rfl) ?_
                refine lv_iload G.1 G.2.1 dX2_perform_129 (lv_at hl 1 rfl) ?_
                refine kK_ald (r := p0.toNatClampNeg + 12) G hP (kI_R hj_5) (by omega) (kin_and3 _) dX2_perform_131 ?_
                refine lv_iload G.1 G.2.1 dX2_perform_132 (lv_at hl 0 rfl) ?_
                refine lv_iadd G.1 G.2.1 dX2_perform_134 ?_
                refine k_Vi (As := [.ref (A (p0.toNatClampNeg + 6)), .int ((p1 >>> (4 &&& 31)) &&& 3), .int ((ka (p0.toNatClampNeg + 12) ((p1 >>> (6 &&& 31)) &&& 3).toNatClampNeg) + (p1 >>> (8 &&& 31)))]) (rest := []) G hP hS hl.1 kl_X2_179 yk_X2_load (c_X2_load l D A C _ _ _ _ G.2.2.2.2.2.2 p0.toNatClampNeg hj_5 ((p1 >>> (4 &&& 31)) &&& 3) ((ka (p0.toNatClampNeg + 12) ((p1 >>> (6 &&& 31)) &&& 3).toNatClampNeg) + (p1 >>> (8 &&& 31))) (kin_and3 _) hB) (kr2 G hP) (by decide) (by decide) rfl (Nat.le_of_ble_eq_true rfl) dX2_perform_135 (fun H locs hP hS => ?_)
                exact k_iret G hr hlocks hP hS (by rw [f_X2_perform, if_neg c_38_0, if_neg c_38_1, if_neg c_38_2, if_neg c_38_3, if_neg c_38_4, if_neg c_38_5, if_pos c_38_6]) (by rw [f_X2_perform, if_neg c_38_0, if_neg c_38_1, if_neg c_38_2, if_neg c_38_3, if_neg c_38_4, if_neg c_38_5, if_pos c_38_6]) rfl rfl dX2_perform_138
              · by_cases c_38_7 : p1 &&& 15 = 7
                · refine lv_tableIn (tgt := 139) G.1 G.2.1 dX2_perform_38 (by rw [c_38_7]; decide) (by rw [c_38_7]; decide) (by rw [c_38_7]; rfl) (by decide) ?_
                  refine lv_aload_n G.1 G.2.1 dX2_perform_139 rfl (lv_at hl 5 rfl) ?_
                  refine lv_aload_n G.1 G.2.1 dX2_perform_140 rfl (lv_at hl 4 rfl) ?_
                  refine lv_iload G.1 G.2.1 dX2_perform_141 (lv_at hl 2 rfl) ?_
                  refine lv_aload G.1 G.2.1 dX2_perform_143 (lv_at hl 3 rfl) ?_
                  refine lv_iload G.1 G.2.1 dX2_perform_145 (lv_at hl 1 rfl) ?_
                  refine kK_ald (r := p0.toNatClampNeg + 12) G hP (kI_R hj_5) (by omega) (kin_and3 _) dX2_perform_147 ?_
                  refine lv_iload G.1 G.2.1 dX2_perform_148 (lv_at hl 0 rfl) ?_
                  refine lv_iadd G.1 G.2.1 dX2_perform_150 ?_
                  refine k_Vi (As := [.ref (A (p0.toNatClampNeg + 6)), .int ((p1 >>> (4 &&& 31)) &&& 3), .int ((ka (p0.toNatClampNeg + 12) ((p1 >>> (6 &&& 31)) &&& 3).toNatClampNeg) + (p1 >>> (8 &&& 31)))]) (rest := []) G hP hS hl.1 kl_X2_183 yk_X2_store (c_X2_store l D A C _ _ _ _ G.2.2.2.2.2.2 p0.toNatClampNeg hj_5 ((p1 >>> (4 &&& 31)) &&& 3) ((ka (p0.toNatClampNeg + 12) ((p1 >>> (6 &&& 31)) &&& 3).toNatClampNeg) + (p1 >>> (8 &&& 31))) (kin_and3 _) hB) (kr2 G hP) (by decide) (by decide) rfl (Nat.le_of_ble_eq_true rfl) dX2_perform_151 (fun H locs hP hS => ?_)
                  exact k_iret G hr hlocks hP hS (by rw [f_X2_perform, if_neg c_38_0, if_neg c_38_1, if_neg c_38_2, if_neg c_38_3, if_neg c_38_4, if_neg c_38_5, if_neg c_38_6, if_pos c_38_7]) (by rw [f_X2_perform, if_neg c_38_0, if_neg c_38_1, if_neg c_38_2, if_neg c_38_3, if_neg c_38_4, if_neg c_38_5, if_neg c_38_6, if_pos c_38_7]) rfl rfl dX2_perform_154
                · by_cases c_38_8 : p1 &&& 15 = 8
                  · refine lv_tableIn (tgt := 155) G.1 G.2.1 dX2_perform_38 (by rw [c_38_8]; decide) (by rw [c_38_8]; decide) (by rw [c_38_8]; rfl) (by decide) ?_
                    refine lv_aload_n G.1 G.2.1 dX2_perform_155 rfl (lv_at hl 4 rfl) ?_
                    refine lv_aload G.1 G.2.1 dX2_perform_156 (lv_at hl 3 rfl) ?_
                    refine lv_iload G.1 G.2.1 dX2_perform_158 (lv_at hl 2 rfl) ?_
                    refine kK_ald (r := p0.toNatClampNeg + 12) G hP (kI_R hj_5) (by omega) (kin_and3 _) dX2_perform_160 ?_
                    refine lv_if_ne (tgt := 168) G.1 G.2.1 dX2_perform_161 (by decide) (fun c_161 => ?_) (fun c_161 => ?_)
                    · refine lv_iconst (v := 0) G.1 G.2.1 dX2_perform_168 (by decide) ?_
                      refine lv_iload G.1 G.2.1 dX2_perform_169 (lv_at hl 0 rfl) ?_
                      refine k_Nv (As := [.int 0, .int (p1 >>> (8 &&& 31))]) (rest := []) G hP hS hl.1 kl_X2_186 yk_X1_jumpIf (c_X1_jumpIf l D A C _ _ _ _ G.2.2.2.2.2.2 p0.toNatClampNeg hj_5 0 (p1 >>> (8 &&& 31)) ) (kr1 G hP hj_5) (by decide) (by decide) rfl (Nat.le_of_ble_eq_true rfl) dX2_perform_171 (fun H locs hP hS => ?_)
                      refine lv_iconst (v := 0) G.1 G.2.1 dX2_perform_174 (by decide) ?_
                      exact k_iret G hr hlocks hP hS (by rw [f_X2_perform, if_neg c_38_0, if_neg c_38_1, if_neg c_38_2, if_neg c_38_3, if_neg c_38_4, if_neg c_38_5, if_neg c_38_6, if_neg c_38_7, if_pos c_38_8, if_neg c_161]) (by rw [f_X2_perform, if_neg c_38_0, if_neg c_38_1, if_neg c_38_2, if_neg c_38_3, if_neg c_38_4, if_neg c_38_5, if_neg c_38_6, if_neg c_38_7, if_pos c_38_8, if_neg c_161]) rfl rfl dX2_perform_175
                    · refine lv_iconst (v := 1) G.1 G.2.1 dX2_perform_164 (by decide) ?_
                      refine lv_goto (tgt := 169) G.1 G.2.1 dX2_perform_165 (by decide) ?_
                      refine lv_iload G.1 G.2.1 dX2_perform_169 (lv_at hl 0 rfl) ?_
                      refine k_Nv (As := [.int 1, .int (p1 >>> (8 &&& 31))]) (rest := []) G hP hS hl.1 kl_X2_186 yk_X1_jumpIf (c_X1_jumpIf l D A C _ _ _ _ G.2.2.2.2.2.2 p0.toNatClampNeg hj_5 1 (p1 >>> (8 &&& 31)) ) (kr1 G hP hj_5) (by decide) (by decide) rfl (Nat.le_of_ble_eq_true rfl) dX2_perform_171 (fun H locs hP hS => ?_)
                      refine lv_iconst (v := 0) G.1 G.2.1 dX2_perform_174 (by decide) ?_
                      exact k_iret G hr hlocks hP hS (by rw [f_X2_perform, if_neg c_38_0, if_neg c_38_1, if_neg c_38_2, if_neg c_38_3, if_neg c_38_4, if_neg c_38_5, if_neg c_38_6, if_neg c_38_7, if_pos c_38_8, if_pos c_161]) (by rw [f_X2_perform, if_neg c_38_0, if_neg c_38_1, if_neg c_38_2, if_neg c_38_3, if_neg c_38_4, if_neg c_38_5, if_neg c_38_6, if_neg c_38_7, if_pos c_38_8, if_pos c_161]) rfl rfl dX2_perform_175
                  · by_cases c_38_9 : p1 &&& 15 = 9
                    · refine lv_tableIn (tgt := 176) G.1 G.2.1 dX2_perform_38 (by rw [c_38_9]; decide) (by rw [c_38_9]; decide) (by rw [c_38_9]; rfl) (by decide) ?_
                      refine lv_aload_n G.1 G.2.1 dX2_perform_176 rfl (lv_at hl 4 rfl) ?_
                      refine lv_aload G.1 G.2.1 dX2_perform_177 (lv_at hl 3 rfl) ?_
                      refine lv_iload G.1 G.2.1 dX2_perform_179 (lv_at hl 2 rfl) ?_
                      refine kK_ald (r := p0.toNatClampNeg + 12) G hP (kI_R hj_5) (by omega) (kin_and3 _) dX2_perform_181 ?_
                      refine lv_if_ge (tgt := 189) G.1 G.2.1 dX2_perform_182 (by decide) (fun c_182 => ?_) (fun c_182 => ?_)
                      · refine lv_iconst (v := 0) G.1 G.2.1 dX2_perform_189 (by decide) ?_
                        refine lv_iload G.1 G.2.1 dX2_perform_190 (lv_at hl 0 rfl) ?_
                        refine k_Nv (As := [.int 0, .int (p1 >>> (8 &&& 31))]) (rest := []) G hP hS hl.1 kl_X2_186 yk_X1_jumpIf (c_X1_jumpIf l D A C _ _ _ _ G.2.2.2.2.2.2 p0.toNatClampNeg hj_5 0 (p1 >>> (8 &&& 31)) ) (kr1 G hP hj_5) (by decide) (by decide) rfl (Nat.le_of_ble_eq_true rfl) dX2_perform_192 (fun H locs hP hS => ?_)
                        refine lv_iconst (v := 0) G.1 G.2.1 dX2_perform_195 (by decide) ?_
                        exact k_iret G hr hlocks hP hS (by rw [f_X2_perform, if_neg c_38_0, if_neg c_38_1, if_neg c_38_2, if_neg c_38_3, if_neg c_38_4, if_neg c_38_5, if_neg c_38_6, if_neg c_38_7, if_neg c_38_8, if_pos c_38_9, if_pos c_182]) (by rw [f_X2_perform, if_neg c_38_0, if_neg c_38_1, if_neg c_38_2, if_neg c_38_3, if_neg c_38_4, if_neg c_38_5, if_neg c_38_6, if_neg c_38_7, if_neg c_38_8, if_pos c_38_9, if_pos c_182]) rfl rfl dX2_perform_196
                      · refine lv_iconst (v := 1) G.1 G.2.1 dX2_perform_185 (by decide) ?_
                        refine lv_goto (tgt := 190) G.1 G.2.1 dX2_perform_186 (by decide) ?_
                        refine lv_iload G.1 G.2.1 dX2_perform_190 (lv_at hl 0 rfl) ?_
                        refine k_Nv (As := [.int 1, .int (p1 >>> (8 &&& 31))]) (rest := []) G hP hS hl.1 kl_X2_186 yk_X1_jumpIf (c_X1_jumpIf l D A C _ _ _ _ G.2.2.2.2.2.2 p0.toNatClampNeg hj_5 1 (p1 >>> (8 &&& 31)) ) (kr1 G hP hj_5) (by decide) (by decide) rfl (Nat.le_of_ble_eq_true rfl) dX2_perform_192 (fun H locs hP hS => ?_)
                        refine lv_iconst (v := 0) G.1 G.2.1 dX2_perform_195 (by decide) ?_
                        exact k_iret G hr hlocks hP hS (by rw [f_X2_perform, if_neg c_38_0, if_neg c_38_1, if_neg c_38_2, if_neg c_38_3, if_neg c_38_4, if_neg c_38_5, if_neg c_38_6, if_neg c_38_7, if_neg c_38_8, if_pos c_38_9, if_neg c_182]) (by rw [f_X2_perform, if_neg c_38_0, if_neg c_38_1, if_neg c_38_2, if_neg c_38_3, if_neg c_38_4, if_neg c_38_5, if_neg c_38_6, if_neg c_38_7, if_neg c_38_8, if_pos c_38_9, if_neg c_182]) rfl rfl dX2_perform_196
                    · by_cases c_38_10 : p1 &&& 15 = 10
                      · refine lv_tableIn (tgt := 197) G.1 G.2.1 dX2_perform_38 (by rw [c_38_10]; decide) (by rw [c_38_10]; decide) (by rw [c_38_10]; rfl) (by decide) ?_
                        refine lv_aload_n G.1 G.2.1 dX2_perform_197 rfl (lv_at hl 4 rfl) ?_
                        refine lv_aload G.1 G.2.1 dX2_perform_198 (lv_at hl 3 rfl) ?_
                        refine lv_iload G.1 G.2.1 dX2_perform_200 (lv_at hl 2 rfl) ?_
                        refine kK_ald (r := p0.toNatClampNeg + 12) G hP (kI_R hj_5) (by omega) (kin_and3 _) dX2_perform_202 ?_
                        refine k1N_puti G hP hS hj_5 5 (by decide) (by decide) kq_74 rfl rfl rfl rfl dX2_perform_203 (fun H locs hP hS => ?_)
                        refine lv_iconst (v := 0) G.1 G.2.1 dX2_perform_206 (by decide) ?_
                        exact k_iret G hr hlocks hP hS (by rw [f_X2_perform, if_neg c_38_0, if_neg c_38_1, if_neg c_38_2, if_neg c_38_3, if_neg c_38_4, if_neg c_38_5, if_neg c_38_6, if_neg c_38_7, if_neg c_38_8, if_neg c_38_9, if_pos c_38_10]) (by rw [f_X2_perform, if_neg c_38_0, if_neg c_38_1, if_neg c_38_2, if_neg c_38_3, if_neg c_38_4, if_neg c_38_5, if_neg c_38_6, if_neg c_38_7, if_neg c_38_8, if_neg c_38_9, if_pos c_38_10]) rfl rfl dX2_perform_207
                      · by_cases c_38_11 : p1 &&& 15 = 11
                        · refine lv_tableIn (tgt := 208) G.1 G.2.1 dX2_perform_38 (by rw [c_38_11]; decide) (by rw [c_38_11]; decide) (by rw [c_38_11]; rfl) (by decide) ?_
                          refine lv_aload_n G.1 G.2.1 dX2_perform_208 rfl (lv_at hl 5 rfl) ?_
                          refine lv_iload_n G.1 G.2.1 dX2_perform_209 rfl (lv_at hl 6 rfl) ?_
                          refine lv_iload G.1 G.2.1 dX2_perform_210 (lv_at hl 2 rfl) ?_
                          refine lv_iload G.1 G.2.1 dX2_perform_212 (lv_at hl 1 rfl) ?_
                          refine lv_iload G.1 G.2.1 dX2_perform_214 (lv_at hl 0 rfl) ?_
                          refine k_Vi (As := [.int p0, .int ((p1 >>> (4 &&& 31)) &&& 3), .int ((p1 >>> (6 &&& 31)) &&& 3), .int (p1 >>> (8 &&& 31))]) (rest := []) G hP hS hl.1 kl_X2_190 yk_X2_send (c_X2_send l D A C _ _ _ _ G.2.2.2.2.2.2 p0 ((p1 >>> (4 &&& 31)) &&& 3) ((p1 >>> (6 &&& 31)) &&& 3) (p1 >>> (8 &&& 31)) hp (kin_and3 _) (kin_and3 _)) (kr2 G hP) (by decide) (by decide) rfl (Nat.le_of_ble_eq_true rfl) dX2_perform_216 (fun H locs hP hS => ?_)
                          exact k_iret G hr hlocks hP hS (by rw [f_X2_perform, if_neg c_38_0, if_neg c_38_1, if_neg c_38_2, if_neg c_38_3, if_neg c_38_4, if_neg c_38_5, if_neg c_38_6, if_neg c_38_7, if_neg c_38_8, if_neg c_38_9, if_neg c_38_10, if_pos c_38_11]) (by rw [f_X2_perform, if_neg c_38_0, if_neg c_38_1, if_neg c_38_2, if_neg c_38_3, if_neg c_38_4, if_neg c_38_5, if_neg c_38_6, if_neg c_38_7, if_neg c_38_8, if_neg c_38_9, if_neg c_38_10, if_pos c_38_11]) rfl rfl dX2_perform_219
                        · by_cases c_38_12 : p1 &&& 15 = 12
                          · refine lv_tableIn (tgt := 220) G.1 G.2.1 dX2_perform_38 (by rw [c_38_12]; decide) (by rw [c_38_12]; decide) (by rw [c_38_12]; rfl) (by decide) ?_
                            refine lv_aload_n G.1 G.2.1 dX2_perform_220 rfl (lv_at hl 5 rfl) ?_
                            refine lv_iload_n G.1 G.2.1 dX2_perform_221 rfl (lv_at hl 6 rfl) ?_
                            refine lv_iload G.1 G.2.1 dX2_perform_222 (lv_at hl 2 rfl) ?_
                            refine lv_iload G.1 G.2.1 dX2_perform_224 (lv_at hl 1 rfl) ?_
                            refine lv_iload G.1 G.2.1 dX2_perform_226 (lv_at hl 0 rfl) ?_
                            refine k_Vi (As := [.int p0, .int ((p1 >>> (4 &&& 31)) &&& 3), .int ((p1 >>> (6 &&& 31)) &&& 3), .int (p1 >>> (8 &&& 31))]) (rest := []) G hP hS hl.1 kl_X2_194 yk_X2_take (c_X2_take l D A C _ _ _ _ G.2.2.2.2.2.2 p0 ((p1 >>> (4 &&& 31)) &&& 3) ((p1 >>> (6 &&& 31)) &&& 3) (p1 >>> (8 &&& 31)) hp (kin_and3 _) (kin_and3 _)) (kr2 G hP) (by decide) (by decide) rfl (Nat.le_of_ble_eq_true rfl) dX2_perform_228 (fun H locs hP hS => ?_)
                            exact k_iret G hr hlocks hP hS (by rw [f_X2_perform, if_neg c_38_0, if_neg c_38_1, if_neg c_38_2, if_neg c_38_3, if_neg c_38_4, if_neg c_38_5, if_neg c_38_6, if_neg c_38_7, if_neg c_38_8, if_neg c_38_9, if_neg c_38_10, if_neg c_38_11, if_pos c_38_12]) (by rw [f_X2_perform, if_neg c_38_0, if_neg c_38_1, if_neg c_38_2, if_neg c_38_3, if_neg c_38_4, if_neg c_38_5, if_neg c_38_6, if_neg c_38_7, if_neg c_38_8, if_neg c_38_9, if_neg c_38_10, if_neg c_38_11, if_pos c_38_12]) rfl rfl dX2_perform_231
                          · by_cases c_38_13 : p1 &&& 15 = 13
                            · refine lv_tableIn (tgt := 232) G.1 G.2.1 dX2_perform_38 (by rw [c_38_13]; decide) (by rw [c_38_13]; decide) (by rw [c_38_13]; rfl) (by decide) ?_
                              refine lv_aload_n G.1 G.2.1 dX2_perform_232 rfl (lv_at hl 5 rfl) ?_
                              refine lv_iconst (v := 1) G.1 G.2.1 dX2_perform_233 (by decide) ?_
                              refine k2_puti G hP hS 10 (by decide) (by decide) kq_154 rfl rfl (by decide) (by decide) dX2_perform_234 (fun H locs hP hS => ?_)
                              refine lv_iconst (v := 0) G.1 G.2.1 dX2_perform_237 (by decide) ?_
                              exact k_iret G hr hlocks hP hS (by rw [f_X2_perform, if_neg c_38_0, if_neg c_38_1, if_neg c_38_2, if_neg c_38_3, if_neg c_38_4, if_neg c_38_5, if_neg c_38_6, if_neg c_38_7, if_neg c_38_8, if_neg c_38_9, if_neg c_38_10, if_neg c_38_11, if_neg c_38_12, if_pos c_38_13]) (by rw [f_X2_perform, if_neg c_38_0, if_neg c_38_1, if_neg c_38_2, if_neg c_38_3, if_neg c_38_4, if_neg c_38_5, if_neg c_38_6, if_neg c_38_7, if_neg c_38_8, if_neg c_38_9, if_neg c_38_10, if_neg c_38_11, if_neg c_38_12, if_pos c_38_13]) rfl rfl dX2_perform_238
                            · by_cases c_38_14 : p1 &&& 15 = 14
                              · refine lv_tableIn (tgt := 239) G.1 G.2.1 dX2_perform_38 (by rw [c_38_14]; decide) (by rw [c_38_14]; decide) (by rw [c_38_14]; rfl) (by decide) ?_
                                refine lv_aload G.1 G.2.1 dX2_perform_239 (lv_at hl 3 rfl) ?_
                                refine lv_iload G.1 G.2.1 dX2_perform_241 (lv_at hl 2 rfl) ?_
                                refine lv_aload_n G.1 G.2.1 dX2_perform_243 rfl (lv_at hl 4 rfl) ?_
                                refine k1N_geti G hP hj_5 6 (by decide) (by decide) kq_76 rfl dX2_perform_244 ?_
                                refine kK_ast (r := p0.toNatClampNeg + 12) G hP hS (kI_R hj_5) (by omega) (kin_and3 _) dX2_perform_247 (fun H locs hP hS => ?_)
                                refine lv_iconst (v := 0) G.1 G.2.1 dX2_perform_248 (by decide) ?_
                                exact k_iret G hr hlocks hP hS (by rw [f_X2_perform, if_neg c_38_0, if_neg c_38_1, if_neg c_38_2, if_neg c_38_3, if_neg c_38_4, if_neg c_38_5, if_neg c_38_6, if_neg c_38_7, if_neg c_38_8, if_neg c_38_9, if_neg c_38_10, if_neg c_38_11, if_neg c_38_12, if_neg c_38_13, if_pos c_38_14]) (by rw [f_X2_perform, if_neg c_38_0, if_neg c_38_1, if_neg c_38_2, if_neg c_38_3, if_neg c_38_4, if_neg c_38_5, if_neg c_38_6, if_neg c_38_7, if_neg c_38_8, if_neg c_38_9, if_neg c_38_10, if_neg c_38_11, if_neg c_38_12, if_neg c_38_13, if_pos c_38_14]) rfl rfl dX2_perform_249
                              · by_cases c_38_15 : p1 &&& 15 = 15
                                · refine lv_tableIn (tgt := 250) G.1 G.2.1 dX2_perform_38 (by rw [c_38_15]; decide) (by rw [c_38_15]; decide) (by rw [c_38_15]; rfl) (by decide) ?_
                                  refine lv_iconst (v := 4) G.1 G.2.1 dX2_perform_250 (by decide) ?_
                                  exact k_iret G hr hlocks hP hS (by rw [f_X2_perform, if_neg c_38_0, if_neg c_38_1, if_neg c_38_2, if_neg c_38_3, if_neg c_38_4, if_neg c_38_5, if_neg c_38_6, if_neg c_38_7, if_neg c_38_8, if_neg c_38_9, if_neg c_38_10, if_neg c_38_11, if_neg c_38_12, if_neg c_38_13, if_neg c_38_14, if_pos c_38_15]) (by rw [f_X2_perform, if_neg c_38_0, if_neg c_38_1, if_neg c_38_2, if_neg c_38_3, if_neg c_38_4, if_neg c_38_5, if_neg c_38_6, if_neg c_38_7, if_neg c_38_8, if_neg c_38_9, if_neg c_38_10, if_neg c_38_11, if_neg c_38_12, if_neg c_38_13, if_neg c_38_14, if_pos c_38_15]) rfl rfl dX2_perform_251
                                · refine lv_tableOut (tgt := 252) G.1 G.2.1 dX2_perform_38 (by have q0 := lv_neT c_38_0 (a := 0) (by decide); have q1 := lv_neT c_38_1 (a := 1) (by decide); have q2 := lv_neT c_38_2 (a := 2) (by decide); have q3 := lv_neT c_38_3 (a := 3) (by decide); have q4 := lv_neT c_38_4 (a := 4) (by decide); have q5 := lv_neT c_38_5 (a := 5) (by decide); have q6 := lv_neT c_38_6 (a := 6) (by decide); have q7 := lv_neT c_38_7 (a := 7) (by decide); have q8 := lv_neT c_38_8 (a := 8) (by decide); have q9 := lv_neT c_38_9 (a := 9) (by decide); have q10 := lv_neT c_38_10 (a := 10) (by decide); have q11 := lv_neT c_38_11 (a := 11) (by decide); have q12 := lv_neT c_38_12 (a := 12) (by decide); have q13 := lv_neT c_38_13 (a := 13) (by decide); have q14 := lv_neT c_38_14 (a := 14) (by decide); have q15 := lv_neT c_38_15 (a := 15) (by decide); omega) (by decide) ?_
                                  refine lv_aload G.1 G.2.1 dX2_perform_252 (lv_at hl 3 rfl) ?_
                                  refine lv_iload G.1 G.2.1 dX2_perform_254 (lv_at hl 2 rfl) ?_
                                  refine lv_iload_n G.1 G.2.1 dX2_perform_256 rfl (lv_at hl 7 rfl) ?_
                                  refine lv_bipush (v := 15) G.1 G.2.1 dX2_perform_257 (by decide) ?_
                                  refine lv_iand G.1 G.2.1 dX2_perform_259 ?_
                                  refine lv_aload G.1 G.2.1 dX2_perform_260 (lv_at hl 3 rfl) ?_
                                  refine lv_iload G.1 G.2.1 dX2_perform_262 (lv_at hl 2 rfl) ?_
                                  refine kK_ald (r := p0.toNatClampNeg + 12) G hP (kI_R hj_5) (by omega) (kin_and3 _) dX2_perform_264 ?_
                                  refine lv_aload G.1 G.2.1 dX2_perform_265 (lv_at hl 3 rfl) ?_
                                  refine lv_iload G.1 G.2.1 dX2_perform_267 (lv_at hl 1 rfl) ?_
                                  refine kK_ald (r := p0.toNatClampNeg + 12) G hP (kI_R hj_5) (by omega) (kin_and3 _) dX2_perform_269 ?_
                                  refine lv_iload G.1 G.2.1 dX2_perform_270 (lv_at hl 0 rfl) ?_
                                  refine k_Si (As := [.int (p1 &&& 15), .int (ka (p0.toNatClampNeg + 12) ((p1 >>> (4 &&& 31)) &&& 3).toNatClampNeg), .int (ka (p0.toNatClampNeg + 12) ((p1 >>> (6 &&& 31)) &&& 3).toNatClampNeg), .int (p1 >>> (8 &&& 31))]) (rest := [.int ((p1 >>> (4 &&& 31)) &&& 3), .ref (A (p0.toNatClampNeg + 12))]) G hP hS hl.1 kl_X2_197 yk_X2_computed (c_X2_computed l D A C _ _ _ _ G.2.2.2.2.2.2 (p1 &&& 15) (ka (p0.toNatClampNeg + 12) ((p1 >>> (4 &&& 31)) &&& 3).toNatClampNeg) (ka (p0.toNatClampNeg + 12) ((p1 >>> (6 &&& 31)) &&& 3).toNatClampNeg) (p1 >>> (8 &&& 31)) )  (by decide) (by decide) rfl (Nat.le_of_ble_eq_true rfl) dX2_perform_272 (fun H locs hP hS => ?_)
                                  refine kK_ast (r := p0.toNatClampNeg + 12) G hP hS (kI_R hj_5) (by omega) (kin_and3 _) dX2_perform_275 (fun H locs hP hS => ?_)
                                  refine lv_iconst (v := 0) G.1 G.2.1 dX2_perform_276 (by decide) ?_
                                  exact k_iret G hr hlocks hP hS (by rw [f_X2_perform, if_neg c_38_0, if_neg c_38_1, if_neg c_38_2, if_neg c_38_3, if_neg c_38_4, if_neg c_38_5, if_neg c_38_6, if_neg c_38_7, if_neg c_38_8, if_neg c_38_9, if_neg c_38_10, if_neg c_38_11, if_neg c_38_12, if_neg c_38_13, if_neg c_38_14, if_neg c_38_15]) (by rw [f_X2_perform, if_neg c_38_0, if_neg c_38_1, if_neg c_38_2, if_neg c_38_3, if_neg c_38_4, if_neg c_38_5, if_neg c_38_6, if_neg c_38_7, if_neg c_38_8, if_neg c_38_9, if_neg c_38_10, if_neg c_38_11, if_neg c_38_12, if_neg c_38_13, if_neg c_38_14, if_neg c_38_15]) rfl rfl dX2_perform_277
/-! X2_runInstruction -/
def f_X2_runInstruction (ka : kM) (p0 : Int32) : kM :=
  if (f_X1_holds ka p0.toNatClampNeg (ka (p0.toNatClampNeg + 6) 5)) = 0 then (if ((f_X1_restartAfter (kup ka (p0.toNatClampNeg + 6) 5 (ka (p0.toNatClampNeg + 6) 5)) p0.toNatClampNeg 1).1) = 0 then ((f_X1_restartAfter (kup ka (p0.toNatClampNeg + 6) 5 (ka (p0.toNatClampNeg + 6) 5)) p0.toNatClampNeg 1).2) else (kup ((f_X1_restartAfter (kup ka (p0.toNatClampNeg + 6) 5 (ka (p0.toNatClampNeg + 6) 5)) p0.toNatClampNeg 1).2) 0 10 1)) else if ((f_X2_perform (kup ka (p0.toNatClampNeg + 6) 5 ((ka (p0.toNatClampNeg + 6) 5) + 1)) p0 ((kup ka (p0.toNatClampNeg + 6) 5 ((ka (p0.toNatClampNeg + 6) 5) + 1)) 1 (((kup ka (p0.toNatClampNeg + 6) 5 ((ka (p0.toNatClampNeg + 6) 5) + 1)) (p0.toNatClampNeg + 6) 2) + (ka (p0.toNatClampNeg + 6) 5)).toNatClampNeg)).1) = 0 then (kup ((f_X2_perform (kup ka (p0.toNatClampNeg + 6) 5 ((ka (p0.toNatClampNeg + 6) 5) + 1)) p0 ((kup ka (p0.toNatClampNeg + 6) 5 ((ka (p0.toNatClampNeg + 6) 5) + 1)) 1 (((kup ka (p0.toNatClampNeg + 6) 5 ((ka (p0.toNatClampNeg + 6) 5) + 1)) (p0.toNatClampNeg + 6) 2) + (ka (p0.toNatClampNeg + 6) 5)).toNatClampNeg)).2) (p0.toNatClampNeg + 6) 6 ((((f_X2_perform (kup ka (p0.toNatClampNeg + 6) 5 ((ka (p0.toNatClampNeg + 6) 5) + 1)) p0 ((kup ka (p0.toNatClampNeg + 6) 5 ((ka (p0.toNatClampNeg + 6) 5) + 1)) 1 (((kup ka (p0.toNatClampNeg + 6) 5 ((ka (p0.toNatClampNeg + 6) 5) + 1)) (p0.toNatClampNeg + 6) 2) + (ka (p0.toNatClampNeg + 6) 5)).toNatClampNeg)).2) (p0.toNatClampNeg + 6) 6) + 1)) else if ((f_X1_restartAfter (kup ((f_X2_perform (kup ka (p0.toNatClampNeg + 6) 5 ((ka (p0.toNatClampNeg + 6) 5) + 1)) p0 ((kup ka (p0.toNatClampNeg + 6) 5 ((ka (p0.toNatClampNeg + 6) 5) + 1)) 1 (((kup ka (p0.toNatClampNeg + 6) 5 ((ka (p0.toNatClampNeg + 6) 5) + 1)) (p0.toNatClampNeg + 6) 2) + (ka (p0.toNatClampNeg + 6) 5)).toNatClampNeg)).2) (p0.toNatClampNeg + 6) 5 (ka (p0.toNatClampNeg + 6) 5)) p0.toNatClampNeg ((f_X2_perform (kup ka (p0.toNatClampNeg + 6) 5 ((ka (p0.toNatClampNeg + 6) 5) + 1)) p0 ((kup ka (p0.toNatClampNeg + 6) 5 ((ka (p0.toNatClampNeg + 6) 5) + 1)) 1 (((kup ka (p0.toNatClampNeg + 6) 5 ((ka (p0.toNatClampNeg + 6) 5) + 1)) (p0.toNatClampNeg + 6) 2) + (ka (p0.toNatClampNeg + 6) 5)).toNatClampNeg)).1)).1) = 0 then ((f_X1_restartAfter (kup ((f_X2_perform (kup ka (p0.toNatClampNeg + 6) 5 ((ka (p0.toNatClampNeg + 6) 5) + 1)) p0 ((kup ka (p0.toNatClampNeg + 6) 5 ((ka (p0.toNatClampNeg + 6) 5) + 1)) 1 (((kup ka (p0.toNatClampNeg + 6) 5 ((ka (p0.toNatClampNeg + 6) 5) + 1)) (p0.toNatClampNeg + 6) 2) + (ka (p0.toNatClampNeg + 6) 5)).toNatClampNeg)).2) (p0.toNatClampNeg + 6) 5 (ka (p0.toNatClampNeg + 6) 5)) p0.toNatClampNeg ((f_X2_perform (kup ka (p0.toNatClampNeg + 6) 5 ((ka (p0.toNatClampNeg + 6) 5) + 1)) p0 ((kup ka (p0.toNatClampNeg + 6) 5 ((ka (p0.toNatClampNeg + 6) 5) + 1)) 1 (((kup ka (p0.toNatClampNeg + 6) 5 ((ka (p0.toNatClampNeg + 6) 5) + 1)) (p0.toNatClampNeg + 6) 2) + (ka (p0.toNatClampNeg + 6) 5)).toNatClampNeg)).1)).2) else (kup ((f_X1_restartAfter (kup ((f_X2_perform (kup ka (p0.toNatClampNeg + 6) 5 ((ka (p0.toNatClampNeg + 6) 5) + 1)) p0 ((kup ka (p0.toNatClampNeg + 6) 5 ((ka (p0.toNatClampNeg + 6) 5) + 1)) 1 (((kup ka (p0.toNatClampNeg + 6) 5 ((ka (p0.toNatClampNeg + 6) 5) + 1)) (p0.toNatClampNeg + 6) 2) + (ka (p0.toNatClampNeg + 6) 5)).toNatClampNeg)).2) (p0.toNatClampNeg + 6) 5 (ka (p0.toNatClampNeg + 6) 5)) p0.toNatClampNeg ((f_X2_perform (kup ka (p0.toNatClampNeg + 6) 5 ((ka (p0.toNatClampNeg + 6) 5) + 1)) p0 ((kup ka (p0.toNatClampNeg + 6) 5 ((ka (p0.toNatClampNeg + 6) 5) + 1)) 1 (((kup ka (p0.toNatClampNeg + 6) 5 ((ka (p0.toNatClampNeg + 6) 5) + 1)) (p0.toNatClampNeg + 6) 2) + (ka (p0.toNatClampNeg + 6) 5)).toNatClampNeg)).1)).2) 0 10 1)
set_option maxHeartbeats 4000000 in
set_option maxRecDepth 100000 in
theorem c_X2_runInstruction (l : Launch) (D : va_G) (A : Nat → Nat) (C : Nat → ClassId) (ka mu : kM) (o : Int32) (sz : Nat) (hA : kinj A) (p0 : Int32) (hp : vp_in p0 6) (hB : kB ka p0.toNatClampNeg) : kMv l yX2_runInstruction (.code yX2_runInstruction cX2_runInstruction 5 none) ({ frames := 5, cells := 0, slots := 0, locals := 115 }) D A C ka mu o sz [.ref (A 0), .int p0]  (f_X2_runInstruction ka p0) mu o := by
  refine kMv_of hA (by decide) (Nat.le_of_ble_eq_true rfl) (fun p e s m args below meth c G hr hlocks hP hS ls hl => ?_)
  have hl : lv_has ls 5 [(0, .ref (A 0)), (1, .int p0)] := hl
  refine lv_aload_n G.1 G.2.1 dX2_runInstruction_0 rfl (lv_at hl 0 rfl) ?_
  refine k2_getr G hP 1 (by decide) kq_145 rfl dX2_runInstruction_1 ?_
  refine lv_iload_n G.1 G.2.1 dX2_runInstruction_4 rfl (lv_at hl 1 rfl) ?_
  have hin_5 : vp_in p0 6 := hp
  refine kP_ald G hP hin_5 dX2_runInstruction_5 ?_
  have hj_5 : p0.toNatClampNeg < 6 := kx_lt hin_5
  refine lv_astore_n (lv' := [(2, .ref (A (p0.toNatClampNeg + 6))), (0, .ref (A 0)), (1, .int p0)]) G.1 G.2.1 dX2_runInstruction_6 rfl hl (by decide) rfl (fun ls hl => ?_)
  refine lv_aload_n G.1 G.2.1 dX2_runInstruction_7 rfl (lv_at hl 0 rfl) ?_
  refine k1N_geti G hP hj_5 5 (by decide) (by decide) kq_74 rfl dX2_runInstruction_8 ?_
  refine lv_istore_n (lv' := [(3, .int (ka (p0.toNatClampNeg + 6) 5)), (2, .ref (A (p0.toNatClampNeg + 6))), (0, .ref (A 0)), (1, .int p0)]) G.1 G.2.1 dX2_runInstruction_11 rfl hl (by decide) rfl (fun ls hl => ?_)
  refine lv_iconst (v := 1) G.1 G.2.1 dX2_runInstruction_12 (by decide) ?_
  refine lv_istore (lv' := [(4, .int 1), (3, .int (ka (p0.toNatClampNeg + 6) 5)), (2, .ref (A (p0.toNatClampNeg + 6))), (0, .ref (A 0)), (1, .int p0)]) G.1 G.2.1 dX2_runInstruction_13 hl (by decide) rfl (fun ls hl => ?_)
  refine lv_aload_n G.1 G.2.1 dX2_runInstruction_15 rfl (lv_at hl 2 rfl) ?_
  refine lv_iload_n G.1 G.2.1 dX2_runInstruction_16 rfl (lv_at hl 1 rfl) ?_
  refine k_Ni (As := [.int (ka (p0.toNatClampNeg + 6) 5)]) (rest := []) G hP hS hl.1 kl_X2_138 yk_X1_holds (c_X1_holds l D A C _ _ _ _ G.2.2.2.2.2.2 p0.toNatClampNeg hj_5 (ka (p0.toNatClampNeg + 6) 5) ) (kr1 G hP hj_5) (by decide) (by decide) rfl (Nat.le_of_ble_eq_true rfl) dX2_runInstruction_17 (fun H locs hP hS => ?_)
  refine lv_if_eq (tgt := 48) G.1 G.2.1 dX2_runInstruction_20 (by decide) (fun c_20 => ?_) (fun c_20 => ?_)
  · refine lv_iload G.1 G.2.1 dX2_runInstruction_48 (lv_at hl 0 rfl) ?_
    refine lv_if_ne (tgt := 64) G.1 G.2.1 dX2_runInstruction_50 (by decide) (fun _ => ?_) (fun c => absurd c (by decide))
    refine lv_aload_n G.1 G.2.1 dX2_runInstruction_64 rfl (lv_at hl 2 rfl) ?_
    refine lv_iload_n G.1 G.2.1 dX2_runInstruction_65 rfl (lv_at hl 1 rfl) ?_
    refine k1N_puti G hP hS hj_5 5 (by decide) (by decide) kq_74 rfl rfl rfl rfl dX2_runInstruction_66 (fun H locs hP hS => ?_)
    refine lv_aload_n G.1 G.2.1 dX2_runInstruction_69 rfl (lv_at hl 2 rfl) ?_
    refine lv_iload G.1 G.2.1 dX2_runInstruction_70 (lv_at hl 0 rfl) ?_
    refine k_Ni (As := [.int 1]) (rest := []) G hP hS hl.1 kl_X2_173 yk_X1_restartAfter (c_X1_restartAfter l D A C _ _ _ _ G.2.2.2.2.2.2 p0.toNatClampNeg hj_5 1 ) (kr1 G hP hj_5) (by decide) (by decide) rfl (Nat.le_of_ble_eq_true rfl) dX2_runInstruction_72 (fun H locs hP hS => ?_)
    refine lv_if_eq (tgt := 83) G.1 G.2.1 dX2_runInstruction_75 (by decide) (fun c_75 => ?_) (fun c_75 => ?_)
    · exact k_vret G hr hlocks hP hS (by rw [f_X2_runInstruction, if_pos c_20, if_pos c_75]) rfl rfl dX2_runInstruction_83
    · refine lv_aload_n G.1 G.2.1 dX2_runInstruction_78 rfl (lv_at hl 3 rfl) ?_
      refine lv_iconst (v := 1) G.1 G.2.1 dX2_runInstruction_79 (by decide) ?_
      refine k2_puti G hP hS 10 (by decide) (by decide) kq_154 rfl rfl (by decide) (by decide) dX2_runInstruction_80 (fun H locs hP hS => ?_)
      exact k_vret G hr hlocks hP hS (by rw [f_X2_runInstruction, if_pos c_20, if_neg c_75]) rfl rfl dX2_runInstruction_83
  · refine lv_aload_n G.1 G.2.1 dX2_runInstruction_23 rfl (lv_at hl 2 rfl) ?_
    refine lv_iload_n G.1 G.2.1 dX2_runInstruction_24 rfl (lv_at hl 1 rfl) ?_
    refine lv_iconst (v := 1) G.1 G.2.1 dX2_runInstruction_25 (by decide) ?_
    refine lv_iadd G.1 G.2.1 dX2_runInstruction_26 ?_
    refine k1N_puti G hP hS hj_5 5 (by decide) (by decide) kq_74 rfl rfl rfl rfl dX2_runInstruction_27 (fun H locs hP hS => ?_)
    refine lv_aload_n G.1 G.2.1 dX2_runInstruction_30 rfl (lv_at hl 3 rfl) ?_
    refine lv_iload_n G.1 G.2.1 dX2_runInstruction_31 rfl (lv_at hl 4 rfl) ?_
    refine lv_aload_n G.1 G.2.1 dX2_runInstruction_32 rfl (lv_at hl 3 rfl) ?_
    refine k2_getr G hP 0 (by decide) kq_144 rfl dX2_runInstruction_33 ?_
    refine lv_aload_n G.1 G.2.1 dX2_runInstruction_36 rfl (lv_at hl 2 rfl) ?_
    refine k1N_geti G hP hj_5 2 (by decide) (by decide) kq_70 rfl dX2_runInstruction_37 ?_
    refine lv_iload_n G.1 G.2.1 dX2_runInstruction_40 rfl (lv_at hl 1 rfl) ?_
    refine lv_iadd G.1 G.2.1 dX2_runInstruction_41 ?_
    refine kK_ald (r := 1) G hP kI_1 (by omega) (kin_run hB c_20) dX2_runInstruction_42 ?_
    refine k_Vi (As := [.int p0, .int ((kup ka (p0.toNatClampNeg + 6) 5 ((ka (p0.toNatClampNeg + 6) 5) + 1)) 1 (((kup ka (p0.toNatClampNeg + 6) 5 ((ka (p0.toNatClampNeg + 6) 5) + 1)) (p0.toNatClampNeg + 6) 2) + (ka (p0.toNatClampNeg + 6) 5)).toNatClampNeg)]) (rest := []) G hP hS hl.1 kl_X2_167 yk_X2_perform (c_X2_perform l D A C _ _ _ _ G.2.2.2.2.2.2 p0 ((kup ka (p0.toNatClampNeg + 6) 5 ((ka (p0.toNatClampNeg + 6) 5) + 1)) 1 (((kup ka (p0.toNatClampNeg + 6) 5 ((ka (p0.toNatClampNeg + 6) 5) + 1)) (p0.toNatClampNeg + 6) 2) + (ka (p0.toNatClampNeg + 6) 5)).toNatClampNeg) hp (kB_up5 hB)) (kr2 G hP) (by decide) (by decide) rfl (Nat.le_of_ble_eq_true rfl) dX2_runInstruction_43 (fun H locs hP hS => ?_)
    refine lv_istore (lv' := [(4, .int ((f_X2_perform (kup ka (p0.toNatClampNeg + 6) 5 ((ka (p0.toNatClampNeg + 6) 5) + 1)) p0 ((kup ka (p0.toNatClampNeg + 6) 5 ((ka (p0.toNatClampNeg + 6) 5) + 1)) 1 (((kup ka (p0.toNatClampNeg + 6) 5 ((ka (p0.toNatClampNeg + 6) 5) + 1)) (p0.toNatClampNeg + 6) 2) + (ka (p0.toNatClampNeg + 6) 5)).toNatClampNeg)).1)), (3, .int (ka (p0.toNatClampNeg + 6) 5)), (2, .ref (A (p0.toNatClampNeg + 6))), (0, .ref (A 0)), (1, .int p0)]) G.1 G.2.1 dX2_runInstruction_46 hl (by decide) rfl (fun ls hl => ?_)
    refine lv_iload G.1 G.2.1 dX2_runInstruction_48 (lv_at hl 0 rfl) ?_
    refine lv_if_ne (tgt := 64) G.1 G.2.1 dX2_runInstruction_50 (by decide) (fun c_50 => ?_) (fun c_50 => ?_)
    · refine lv_aload_n G.1 G.2.1 dX2_runInstruction_64 rfl (lv_at hl 2 rfl) ?_
      refine lv_iload_n G.1 G.2.1 dX2_runInstruction_65 rfl (lv_at hl 1 rfl) ?_
      refine k1N_puti G hP hS hj_5 5 (by decide) (by decide) kq_74 rfl rfl rfl rfl dX2_runInstruction_66 (fun H locs hP hS => ?_)
      refine lv_aload_n G.1 G.2.1 dX2_runInstruction_69 rfl (lv_at hl 2 rfl) ?_
      refine lv_iload G.1 G.2.1 dX2_runInstruction_70 (lv_at hl 0 rfl) ?_
      refine k_Ni (As := [.int ((f_X2_perform (kup ka (p0.toNatClampNeg + 6) 5 ((ka (p0.toNatClampNeg + 6) 5) + 1)) p0 ((kup ka (p0.toNatClampNeg + 6) 5 ((ka (p0.toNatClampNeg + 6) 5) + 1)) 1 (((kup ka (p0.toNatClampNeg + 6) 5 ((ka (p0.toNatClampNeg + 6) 5) + 1)) (p0.toNatClampNeg + 6) 2) + (ka (p0.toNatClampNeg + 6) 5)).toNatClampNeg)).1)]) (rest := []) G hP hS hl.1 kl_X2_173 yk_X1_restartAfter (c_X1_restartAfter l D A C _ _ _ _ G.2.2.2.2.2.2 p0.toNatClampNeg hj_5 ((f_X2_perform (kup ka (p0.toNatClampNeg + 6) 5 ((ka (p0.toNatClampNeg + 6) 5) + 1)) p0 ((kup ka (p0.toNatClampNeg + 6) 5 ((ka (p0.toNatClampNeg + 6) 5) + 1)) 1 (((kup ka (p0.toNatClampNeg + 6) 5 ((ka (p0.toNatClampNeg + 6) 5) + 1)) (p0.toNatClampNeg + 6) 2) + (ka (p0.toNatClampNeg + 6) 5)).toNatClampNeg)).1) ) (kr1 G hP hj_5) (by decide) (by decide) rfl (Nat.le_of_ble_eq_true rfl) dX2_runInstruction_72 (fun H locs hP hS => ?_)
      refine lv_if_eq (tgt := 83) G.1 G.2.1 dX2_runInstruction_75 (by decide) (fun c_75 => ?_) (fun c_75 => ?_)
      · exact k_vret G hr hlocks hP hS (by rw [f_X2_runInstruction, if_neg c_20, if_neg c_50, if_pos c_75]) rfl rfl dX2_runInstruction_83
      · refine lv_aload_n G.1 G.2.1 dX2_runInstruction_78 rfl (lv_at hl 3 rfl) ?_
        refine lv_iconst (v := 1) G.1 G.2.1 dX2_runInstruction_79 (by decide) ?_
        refine k2_puti G hP hS 10 (by decide) (by decide) kq_154 rfl rfl (by decide) (by decide) dX2_runInstruction_80 (fun H locs hP hS => ?_)
        exact k_vret G hr hlocks hP hS (by rw [f_X2_runInstruction, if_neg c_20, if_neg c_50, if_neg c_75]) rfl rfl dX2_runInstruction_83
    · refine lv_aload_n G.1 G.2.1 dX2_runInstruction_53 rfl (lv_at hl 2 rfl) ?_
      refine lv_dup G.1 G.2.1 dX2_runInstruction_54 rfl ?_
      refine k1N_geti G hP hj_5 6 (by decide) (by decide) kq_76 rfl dX2_runInstruction_55 ?_
      refine lv_iconst (v := 1) G.1 G.2.1 dX2_runInstruction_58 (by decide) ?_
      refine lv_iadd G.1 G.2.1 dX2_runInstruction_59 ?_
      refine k1N_puti G hP hS hj_5 6 (by decide) (by decide) kq_76 rfl rfl rfl rfl dX2_runInstruction_60 (fun H locs hP hS => ?_)
      exact k_vret G hr hlocks hP hS (by rw [f_X2_runInstruction, if_neg c_20, if_pos c_50]) rfl rfl dX2_runInstruction_63
end
section
/-! ===== what an instruction leaves as it was ===== -/
def kSm (a b : kM) : Prop := b 0 8 = a 0 8 ∧ b 0 5 = a 0 5 ∧ b 0 6 = a 0 6 ∧ b 0 7 = a 0 7 ∧ b 0 9 = a 0 9 ∧ b 0 11 = a 0 11 ∧ (∀ i, b 4 i = a 4 i) ∧ (∀ i, b 5 i = a 5 i) ∧ ∀ j, j < 6 → b (j + 6) 2 = a (j + 6) 2 ∧ b (j + 6) 3 = a (j + 6) 3 ∧ b (j + 6) 4 = a (j + 6) 4
def kOk (r j : Nat) : Prop := (r = 0 → j = 10) ∧ r ≠ 4 ∧ r ≠ 5 ∧ (6 ≤ r → r < 12 → j ≠ 2 ∧ j ≠ 3 ∧ j ≠ 4)
theorem kSm_refl {a : kM} : kSm a a := ⟨rfl, rfl, rfl, rfl, rfl, rfl, fun _ => rfl, fun _ => rfl, fun _ _ => ⟨rfl, rfl, rfl⟩⟩
theorem kSm_up {a b : kM} {r j : Nat} {v : Int32} (h : kSm a b) (k : kOk r j) : kSm a (kup b r j v) := by
  obtain ⟨h1, h2, h3, h4, h5, h6, h7, h8, h9⟩ := h
  obtain ⟨k1, k2, k3, k4⟩ := k
  refine ⟨?_, ?_, ?_, ?_, ?_, ?_, fun i => ?_, fun i => ?_, fun i hi => ⟨?_, ?_, ?_⟩⟩
  · rw [kup_eq, if_neg (fun q => by have := k1 q.1.symm; omega)]; exact h1
  · rw [kup_eq, if_neg (fun q => by have := k1 q.1.symm; omega)]; exact h2
  · rw [kup_eq, if_neg (fun q => by have := k1 q.1.symm; omega)]; exact h3
  · rw [kup_eq, if_neg (fun q => by have := k1 q.1.symm; omega)]; exact h4
  · rw [kup_eq, if_neg (fun q => by have := k1 q.1.symm; omega)]; exact h5
  · rw [kup_eq, if_neg (fun q => by have := k1 q.1.symm; omega)]; exact h6
  · rw [kup_r (Ne.symm k2)]; exact h7 i
  · rw [kup_r (Ne.symm k3)]; exact h8 i
  · rw [kup_eq, if_neg (fun q => by have := k4 (by omega) (by omega); omega)]; exact (h9 i hi).1
  · rw [kup_eq, if_neg (fun q => by have := k4 (by omega) (by omega); omega)]; exact (h9 i hi).2.1
  · rw [kup_eq, if_neg (fun q => by have := k4 (by omega) (by omega); omega)]; exact (h9 i hi).2.2
theorem kSm_ite2 {a : kM} {c : Prop} [Decidable c] {x y : Int32 × kM} (h1 : kSm a x.2) (h2 : kSm a y.2) : kSm a (if c then x else y).2 := by
  by_cases h : c
  · rw [if_pos h]; exact h1
  · rw [if_neg h]; exact h2
theorem kSm_ite1 {a : kM} {c : Prop} [Decidable c] {x y : kM} (h1 : kSm a x) (h2 : kSm a y) : kSm a (if c then x else y) := by
  by_cases h : c
  · rw [if_pos h]; exact h1
  · rw [if_neg h]; exact h2
theorem kSm_fill {a b : kM} {j : Nat} {v : Int32} (h : kSm a b) : kSm a (f_J7_fill_53178 b j v) := by
  unfold f_J7_fill_53178
  repeat' first | (with_reducible exact h) | (with_reducible refine kSm_ite2 ?_ ?_) | (with_reducible refine kSm_ite1 ?_ ?_) | (with_reducible refine kSm_up ?_ (by unfold kOk; omega))
theorem kSm_put {a b : kM} {j : Nat} {v w : Int32} (h : kSm a b) : kSm a (f_X0_put b j v w).2 := by
  unfold f_X0_put
  repeat' first | (with_reducible exact h) | (with_reducible refine kSm_ite2 ?_ ?_) | (with_reducible refine kSm_ite1 ?_ ?_) | (with_reducible refine kSm_up ?_ (by unfold kOk; omega))
theorem kSm_drop {a b : kM} {j : Nat} (h : kSm a b) : kSm a (f_X0_dropTaken b j) := by
  unfold f_X0_dropTaken
  repeat' first | (with_reducible exact h) | (with_reducible refine kSm_ite2 ?_ ?_) | (with_reducible refine kSm_ite1 ?_ ?_) | (with_reducible refine kSm_up ?_ (by unfold kOk; omega))
theorem kSm_jump {a b : kM} {j : Nat} {v w : Int32} (h : kSm a b) : kSm a (f_X1_jumpIf b j v w) := by
  unfold f_X1_jumpIf
  repeat' first | (with_reducible exact h) | (with_reducible refine kSm_ite2 ?_ ?_) | (with_reducible refine kSm_ite1 ?_ ?_) | (with_reducible refine kSm_up ?_ (by unfold kOk; omega))
theorem kSm_restart {a b : kM} {j : Nat} {v : Int32} (h : kSm a b) : kSm a (f_X1_restartAfter b j v).2 := by
  unfold f_X1_restartAfter
  repeat' first | (with_reducible exact h) | (with_reducible refine kSm_ite2 ?_ ?_) | (with_reducible refine kSm_ite1 ?_ ?_) | (with_reducible refine kSm_up ?_ (by unfold kOk; omega)) | (with_reducible refine kSm_fill ?_)
theorem kSm_load {a b : kM} {j : Nat} {v w : Int32} (h : kSm a b) : kSm a (f_X2_load b j v w).2 := by
  unfold f_X2_load
  repeat' first | (with_reducible exact h) | (with_reducible refine kSm_ite2 ?_ ?_) | (with_reducible refine kSm_ite1 ?_ ?_) | (with_reducible refine kSm_up ?_ (by unfold kOk; omega))
theorem kSm_store {a b : kM} {j : Nat} {v w : Int32} (h : kSm a b) : kSm a (f_X2_store b j v w).2 := by
  unfold f_X2_store
  repeat' first | (with_reducible exact h) | (with_reducible refine kSm_ite2 ?_ ?_) | (with_reducible refine kSm_ite1 ?_ ?_) | (with_reducible refine kSm_up ?_ (by unfold kOk; omega))
theorem kSm_send {a b : kM} {p v w c : Int32} (h : kSm a b) : kSm a (f_X2_send b p v w c).2 := by
  unfold f_X2_send
  repeat' first | (with_reducible exact h) | (with_reducible refine kSm_ite2 ?_ ?_) | (with_reducible refine kSm_ite1 ?_ ?_) | (with_reducible refine kSm_up ?_ (by unfold kOk; omega)) | (with_reducible refine kSm_put ?_)
theorem kSm_take {a b : kM} {p v w c : Int32} (h : kSm a b) : kSm a (f_X2_take b p v w c).2 := by
  unfold f_X2_take
  repeat' first | (with_reducible exact h) | (with_reducible refine kSm_ite2 ?_ ?_) | (with_reducible refine kSm_ite1 ?_ ?_) | (with_reducible refine kSm_up ?_ (by unfold kOk; omega)) | (with_reducible refine kSm_drop ?_)
theorem kSm_perform {a b : kM} {p w : Int32} (h : kSm a b) : kSm a (f_X2_perform b p w).2 := by
  unfold f_X2_perform
  repeat' first | (with_reducible exact h) | (with_reducible refine kSm_ite2 ?_ ?_) | (with_reducible refine kSm_ite1 ?_ ?_) | (with_reducible refine kSm_up ?_ (by unfold kOk; omega)) | (with_reducible refine kSm_load ?_) | (with_reducible refine kSm_store ?_) | (with_reducible refine kSm_send ?_) | (with_reducible refine kSm_take ?_) | (with_reducible refine kSm_jump ?_)
theorem kSm_run {a b : kM} {p : Int32} (h : kSm a b) : kSm a (f_X2_runInstruction b p) := by
  unfold f_X2_runInstruction
  repeat' first | (with_reducible exact h) | (with_reducible refine kSm_ite2 ?_ ?_) | (with_reducible refine kSm_ite1 ?_ ?_) | (with_reducible refine kSm_up ?_ (by unfold kOk; omega)) | (with_reducible refine kSm_perform ?_) | (with_reducible refine kSm_restart ?_)
theorem fr_run08 {a : kM} {p : Int32} : f_X2_runInstruction a p 0 8 = a 0 8 := (kSm_run kSm_refl).1
theorem ki_add1 {x : Int32} (h : x.toInt < 2147483647) : (x + 1).toInt = x.toInt + 1 := by
  have := ki_lo x
  rw [ki_add (by rw [show (1 : Int32).toInt = 1 from rfl]; omega) (by rw [show (1 : Int32).toInt = 1 from rfl]; omega)]; rfl
end
section
/-! X2_goOneTick -/
def f_X2_goOneTick (ka : kM) : Int32 × kM :=
  if ((kup ka 0 11 ((ka 0 11) + 1)) 4 ((kup ka 0 11 ((ka 0 11) + 1)) 0 8).toNatClampNeg) = (-1) then (0, f_X2_moveWindowOn (kup ka 0 11 ((ka 0 11) + 1))) else if ((kup ka 0 11 ((ka 0 11) + 1)) 0 10) = 0 then (if ((kup ka 0 11 ((ka 0 11) + 1)) (((kup ka 0 11 ((ka 0 11) + 1)) 4 ((kup ka 0 11 ((ka 0 11) + 1)) 0 8).toNatClampNeg).toNatClampNeg + 6) 1) = 1 then (1, f_X2_moveWindowOn (f_X2_runInstruction (kup ka 0 11 ((ka 0 11) + 1)) ((kup ka 0 11 ((ka 0 11) + 1)) 4 ((kup ka 0 11 ((ka 0 11) + 1)) 0 8).toNatClampNeg))) else (0, f_X2_moveWindowOn (kup ka 0 11 ((ka 0 11) + 1)))) else (0, f_X2_moveWindowOn (kup ka 0 11 ((ka 0 11) + 1)))
set_option maxHeartbeats 4000000 in
set_option maxRecDepth 100000 in
theorem c_X2_goOneTick (l : Launch) (D : va_G) (A : Nat → Nat) (C : Nat → ClassId) (ka mu : kM) (o : Int32) (sz : Nat) (hA : kinj A)  (hI : kInv ka) : kMi l yX2_goOneTick (.code yX2_goOneTick cX2_goOneTick 3 (some .boolean)) ({ frames := 6, cells := 0, slots := 0, locals := 139 }) D A C ka mu o sz [.ref (A 0)] ((f_X2_goOneTick ka).1) ((f_X2_goOneTick ka).2) mu o := by
  refine kMi_of hA (by decide) (Nat.le_of_ble_eq_true rfl) (fun p e s m args below meth c G hr hlocks hP hS ls hl => ?_)
  have hl : lv_has ls 3 [(0, .ref (A 0))] := hl
  refine lv_aload_n G.1 G.2.1 dX2_goOneTick_0 rfl (lv_at hl 0 rfl) ?_
  refine lv_dup G.1 G.2.1 dX2_goOneTick_1 rfl ?_
  refine k2_geti G hP 11 (by decide) (by decide) kq_155 rfl dX2_goOneTick_2 ?_
  refine lv_iconst (v := 1) G.1 G.2.1 dX2_goOneTick_5 (by decide) ?_
  refine lv_iadd G.1 G.2.1 dX2_goOneTick_6 ?_
  refine k2_puti G hP hS 11 (by decide) (by decide) kq_155 rfl rfl rfl rfl dX2_goOneTick_7 (fun H locs hP hS => ?_)
  refine lv_aload_n G.1 G.2.1 dX2_goOneTick_10 rfl (lv_at hl 0 rfl) ?_
  refine k2_getr G hP 3 (by decide) kq_147 rfl dX2_goOneTick_11 ?_
  refine lv_aload_n G.1 G.2.1 dX2_goOneTick_14 rfl (lv_at hl 0 rfl) ?_
  refine k2_geti G hP 8 (by decide) (by decide) kq_152 rfl dX2_goOneTick_15 ?_
  refine kK_ald (r := 4) G hP kI_4 (by omega) (by rw [kup_j (by decide)]; exact hI.1) dX2_goOneTick_18 ?_
  refine lv_istore_n (lv' := [(1, .int ((kup ka 0 11 ((ka 0 11) + 1)) 4 ((kup ka 0 11 ((ka 0 11) + 1)) 0 8).toNatClampNeg)), (0, .ref (A 0))]) G.1 G.2.1 dX2_goOneTick_19 rfl hl (by decide) rfl (fun ls hl => ?_)
  refine lv_iload_n G.1 G.2.1 dX2_goOneTick_20 rfl (lv_at hl 0 rfl) ?_
  refine lv_iconst (v := (-1)) G.1 G.2.1 dX2_goOneTick_21 (by decide) ?_
  refine lv_icmp_eq (tgt := 49) G.1 G.2.1 dX2_goOneTick_22 (by decide) (fun c_22 => ?_) (fun c_22 => ?_)
  · refine lv_iconst (v := 0) G.1 G.2.1 dX2_goOneTick_49 (by decide) ?_
    refine lv_istore_n (lv' := [(2, .int 0), (1, .int ((kup ka 0 11 ((ka 0 11) + 1)) 4 ((kup ka 0 11 ((ka 0 11) + 1)) 0 8).toNatClampNeg)), (0, .ref (A 0))]) G.1 G.2.1 dX2_goOneTick_50 rfl hl (by decide) rfl (fun ls hl => ?_)
    refine lv_iload_n G.1 G.2.1 dX2_goOneTick_51 rfl (lv_at hl 0 rfl) ?_
    refine lv_if_eq (tgt := 60) G.1 G.2.1 dX2_goOneTick_52 (by decide) (fun _ => ?_) (fun c => absurd c (by decide))
    refine lv_aload_n G.1 G.2.1 dX2_goOneTick_60 rfl (lv_at hl 2 rfl) ?_
    refine k_Vv (As := []) (rest := []) G hP hS hl.1 kl_X2_158 yk_X2_moveWindowOn (c_X2_moveWindowOn l D A C _ _ _ _ G.2.2.2.2.2.2  (by first | (rw [kup_j (by decide)]; exact hI.1) | (rw [fr_run08, kup_j (by decide)]; exact hI.1))) (kr2 G hP) (by decide) (by decide) rfl (Nat.le_of_ble_eq_true rfl) dX2_goOneTick_61 (fun H locs hP hS => ?_)
    refine lv_iload_n G.1 G.2.1 dX2_goOneTick_64 rfl (lv_at hl 0 rfl) ?_
    exact k_zret G hr hlocks hP hS (by decide) (by rw [f_X2_goOneTick, if_pos c_22]) (by rw [f_X2_goOneTick, if_pos c_22]) rfl rfl dX2_goOneTick_65
  · refine lv_aload_n G.1 G.2.1 dX2_goOneTick_25 rfl (lv_at hl 1 rfl) ?_
    refine k2_geti G hP 10 (by decide) (by decide) kq_154 rfl dX2_goOneTick_26 ?_
    refine lv_if_ne (tgt := 49) G.1 G.2.1 dX2_goOneTick_29 (by decide) (fun c_29 => ?_) (fun c_29 => ?_)
    · refine lv_iconst (v := 0) G.1 G.2.1 dX2_goOneTick_49 (by decide) ?_
      refine lv_istore_n (lv' := [(2, .int 0), (1, .int ((kup ka 0 11 ((ka 0 11) + 1)) 4 ((kup ka 0 11 ((ka 0 11) + 1)) 0 8).toNatClampNeg)), (0, .ref (A 0))]) G.1 G.2.1 dX2_goOneTick_50 rfl hl (by decide) rfl (fun ls hl => ?_)
      refine lv_iload_n G.1 G.2.1 dX2_goOneTick_51 rfl (lv_at hl 0 rfl) ?_
      refine lv_if_eq (tgt := 60) G.1 G.2.1 dX2_goOneTick_52 (by decide) (fun _ => ?_) (fun c => absurd c (by decide))
      refine lv_aload_n G.1 G.2.1 dX2_goOneTick_60 rfl (lv_at hl 2 rfl) ?_
      refine k_Vv (As := []) (rest := []) G hP hS hl.1 kl_X2_158 yk_X2_moveWindowOn (c_X2_moveWindowOn l D A C _ _ _ _ G.2.2.2.2.2.2  (by first | (rw [kup_j (by decide)]; exact hI.1) | (rw [fr_run08, kup_j (by decide)]; exact hI.1))) (kr2 G hP) (by decide) (by decide) rfl (Nat.le_of_ble_eq_true rfl) dX2_goOneTick_61 (fun H locs hP hS => ?_)
      refine lv_iload_n G.1 G.2.1 dX2_goOneTick_64 rfl (lv_at hl 0 rfl) ?_
      exact k_zret G hr hlocks hP hS (by decide) (by rw [f_X2_goOneTick, if_neg c_22, if_neg c_29]) (by rw [f_X2_goOneTick, if_neg c_22, if_neg c_29]) rfl rfl dX2_goOneTick_65
    · refine lv_aload_n G.1 G.2.1 dX2_goOneTick_32 rfl (lv_at hl 1 rfl) ?_
      refine k2_getr G hP 1 (by decide) kq_145 rfl dX2_goOneTick_33 ?_
      refine lv_iload_n G.1 G.2.1 dX2_goOneTick_36 rfl (lv_at hl 0 rfl) ?_
      have hin_37 : vp_in ((kup ka 0 11 ((ka 0 11) + 1)) 4 ((kup ka 0 11 ((ka 0 11) + 1)) 0 8).toNatClampNeg) 6 := (kin_own hI c_22)
      refine kP_ald G hP hin_37 dX2_goOneTick_37 ?_
      have hj_37 : ((kup ka 0 11 ((ka 0 11) + 1)) 4 ((kup ka 0 11 ((ka 0 11) + 1)) 0 8).toNatClampNeg).toNatClampNeg < 6 := kx_lt hin_37
      refine k1N_geti G hP hj_37 1 (by decide) (by decide) kq_68 rfl dX2_goOneTick_38 ?_
      refine lv_iconst (v := 1) G.1 G.2.1 dX2_goOneTick_41 (by decide) ?_
      refine lv_icmp_ne (tgt := 49) G.1 G.2.1 dX2_goOneTick_42 (by decide) (fun c_42 => ?_) (fun c_42 => ?_)
      · refine lv_iconst (v := 0) G.1 G.2.1 dX2_goOneTick_49 (by decide) ?_
        refine lv_istore_n (lv' := [(2, .int 0), (1, .int ((kup ka 0 11 ((ka 0 11) + 1)) 4 ((kup ka 0 11 ((ka 0 11) + 1)) 0 8).toNatClampNeg)), (0, .ref (A 0))]) G.1 G.2.1 dX2_goOneTick_50 rfl hl (by decide) rfl (fun ls hl => ?_)
        refine lv_iload_n G.1 G.2.1 dX2_goOneTick_51 rfl (lv_at hl 0 rfl) ?_
        refine lv_if_eq (tgt := 60) G.1 G.2.1 dX2_goOneTick_52 (by decide) (fun _ => ?_) (fun c => absurd c (by decide))
        refine lv_aload_n G.1 G.2.1 dX2_goOneTick_60 rfl (lv_at hl 2 rfl) ?_
        refine k_Vv (As := []) (rest := []) G hP hS hl.1 kl_X2_158 yk_X2_moveWindowOn (c_X2_moveWindowOn l D A C _ _ _ _ G.2.2.2.2.2.2  (by first | (rw [kup_j (by decide)]; exact hI.1) | (rw [fr_run08, kup_j (by decide)]; exact hI.1))) (kr2 G hP) (by decide) (by decide) rfl (Nat.le_of_ble_eq_true rfl) dX2_goOneTick_61 (fun H locs hP hS => ?_)
        refine lv_iload_n G.1 G.2.1 dX2_goOneTick_64 rfl (lv_at hl 0 rfl) ?_
        exact k_zret G hr hlocks hP hS (by decide) (by rw [f_X2_goOneTick, if_neg c_22, if_pos c_29, if_neg c_42]) (by rw [f_X2_goOneTick, if_neg c_22, if_pos c_29, if_neg c_42]) rfl rfl dX2_goOneTick_65
      · refine lv_iconst (v := 1) G.1 G.2.1 dX2_goOneTick_45 (by decide) ?_
        refine lv_goto (tgt := 50) G.1 G.2.1 dX2_goOneTick_46 (by decide) ?_
        refine lv_istore_n (lv' := [(2, .int 1), (1, .int ((kup ka 0 11 ((ka 0 11) + 1)) 4 ((kup ka 0 11 ((ka 0 11) + 1)) 0 8).toNatClampNeg)), (0, .ref (A 0))]) G.1 G.2.1 dX2_goOneTick_50 rfl hl (by decide) rfl (fun ls hl => ?_)
        refine lv_iload_n G.1 G.2.1 dX2_goOneTick_51 rfl (lv_at hl 0 rfl) ?_
        refine lv_if_eq (tgt := 60) G.1 G.2.1 dX2_goOneTick_52 (by decide) (fun c => absurd c (by decide)) (fun _ => ?_)
        refine lv_aload_n G.1 G.2.1 dX2_goOneTick_55 rfl (lv_at hl 2 rfl) ?_
        refine lv_iload_n G.1 G.2.1 dX2_goOneTick_56 rfl (lv_at hl 1 rfl) ?_
        refine k_Vv (As := [.int ((kup ka 0 11 ((ka 0 11) + 1)) 4 ((kup ka 0 11 ((ka 0 11) + 1)) 0 8).toNatClampNeg)]) (rest := []) G hP hS hl.1 kl_X2_155 yk_X2_runInstruction (c_X2_runInstruction l D A C _ _ _ _ G.2.2.2.2.2.2 ((kup ka 0 11 ((ka 0 11) + 1)) 4 ((kup ka 0 11 ((ka 0 11) + 1)) 0 8).toNatClampNeg) (kin_own hI c_22) (kB_up0 (hI.2.2.1 _ (kx_lt (kin_own hI c_22))))) (kr2 G hP) (by decide) (by decide) rfl (Nat.le_of_ble_eq_true rfl) dX2_goOneTick_57 (fun H locs hP hS => ?_)
        refine lv_aload_n G.1 G.2.1 dX2_goOneTick_60 rfl (lv_at hl 2 rfl) ?_
        refine k_Vv (As := []) (rest := []) G hP hS hl.1 kl_X2_158 yk_X2_moveWindowOn (c_X2_moveWindowOn l D A C _ _ _ _ G.2.2.2.2.2.2  (by first | (rw [kup_j (by decide)]; exact hI.1) | (rw [fr_run08, kup_j (by decide)]; exact hI.1))) (kr2 G hP) (by decide) (by decide) rfl (Nat.le_of_ble_eq_true rfl) dX2_goOneTick_61 (fun H locs hP hS => ?_)
        refine lv_iload_n G.1 G.2.1 dX2_goOneTick_64 rfl (lv_at hl 0 rfl) ?_
        exact k_zret G hr hlocks hP hS (by decide) (by rw [f_X2_goOneTick, if_neg c_22, if_pos c_29, if_pos c_42]) (by rw [f_X2_goOneTick, if_neg c_22, if_pos c_29, if_pos c_42]) rfl rfl dX2_goOneTick_65
/-! X2_refuseIfSealed -/
def f_X2_refuseIfSealed (ka : kM) : Nat :=
  if (ka 0 7) = 0 then 0 else 1
set_option maxHeartbeats 4000000 in
set_option maxRecDepth 100000 in
theorem c_X2_refuseIfSealed (l : Launch) (D : va_G) (A : Nat → Nat) (C : Nat → ClassId) (ka mu : kM) (o : Int32) (sz : Nat) (hA : kinj A)  (hl0 : l.stackTraces = false) : kXv l yX2_refuseIfSealed (.code yX2_refuseIfSealed cX2_refuseIfSealed 1 none) ({ frames := 6, cells := 1, slots := 6, locals := 95 }) D A C ka mu o sz [.ref (A 0)] (f_X2_refuseIfSealed ka) ka mu o := by
  refine kXv_of hA (by decide) (Nat.le_of_ble_eq_true rfl) (fun p e s m args below meth c G hr hlocks hx hP hS ls hl => ?_)
  have hl : lv_has ls 1 [(0, .ref (A 0))] := hl
  refine lv_aload_n G.1 G.2.1 dX2_refuseIfSealed_0 rfl (lv_at hl 0 rfl) ?_
  refine k2_geti G hP 7 (by decide) (by decide) kq_151 rfl dX2_refuseIfSealed_1 ?_
  refine lv_if_eq (tgt := 17) G.1 G.2.1 dX2_refuseIfSealed_4 (by decide) (fun c_4 => ?_) (fun c_4 => ?_)
  · refine W.widen (k := 1) (n := 6) (by decide) (by decide) ?_
    exact k_xvret G hr hlocks hP hS (by rw [f_X2_refuseIfSealed, if_pos c_4]) rfl rfl rfl dX2_refuseIfSealed_17
  · exact k_throw1 (is := 132) (text := "sealed") G hl0 hlocks hP hS hl.1 (by decide +kernel) dX2_refuseIfSealed_7 dX2_refuseIfSealed_10 dX2_refuseIfSealed_11 dX2_refuseIfSealed_13 dX2_refuseIfSealed_16 hx (by decide) (by decide) (by decide) (by decide) (by decide) (by decide) (by rw [f_X2_refuseIfSealed, if_neg c_4]) rfl rfl rfl
/-! X2_refuseUnlessTold -/
def f_X2_refuseUnlessTold (ka : kM) (p0 : Int32) : Nat :=
  if p0 < 0 then 2 else if (6 : Int32) ≤ p0 then 2 else if (f_X1_isTold ka p0.toNatClampNeg) = 0 then 2 else 0
set_option maxHeartbeats 4000000 in
set_option maxRecDepth 100000 in
theorem c_X2_refuseUnlessTold (l : Launch) (D : va_G) (A : Nat → Nat) (C : Nat → ClassId) (ka mu : kM) (o : Int32) (sz : Nat) (hA : kinj A) (p0 : Int32) (hl0 : l.stackTraces = false) : kXv l yX2_refuseUnlessTold (.code yX2_refuseUnlessTold cX2_refuseUnlessTold 2 none) ({ frames := 6, cells := 1, slots := 6, locals := 95 }) D A C ka mu o sz [.ref (A 0), .int p0] (f_X2_refuseUnlessTold ka p0) ka mu o := by
  refine kXv_of hA (by decide) (Nat.le_of_ble_eq_true rfl) (fun p e s m args below meth c G hr hlocks hx hP hS ls hl => ?_)
  have hl : lv_has ls 2 [(0, .ref (A 0)), (1, .int p0)] := hl
  refine lv_iload_n G.1 G.2.1 dX2_refuseUnlessTold_0 rfl (lv_at hl 1 rfl) ?_
  refine lv_if_lt (tgt := 22) G.1 G.2.1 dX2_refuseUnlessTold_1 (by decide) (fun c_1 => ?_) (fun c_1 => ?_)
  · exact k_throw2 (is := 133) (text := "partition not told") G hl0 hlocks hP hS hl.1 (by decide +kernel) dX2_refuseUnlessTold_22 dX2_refuseUnlessTold_25 dX2_refuseUnlessTold_26 dX2_refuseUnlessTold_28 dX2_refuseUnlessTold_31 hx (by decide) (by decide) (by decide) (by decide) (by decide) (by decide) (by rw [f_X2_refuseUnlessTold, if_pos c_1]) rfl rfl rfl
  · refine lv_iload_n G.1 G.2.1 dX2_refuseUnlessTold_4 rfl (lv_at hl 1 rfl) ?_
    refine lv_bipush (v := 6) G.1 G.2.1 dX2_refuseUnlessTold_5 (by decide) ?_
    refine lv_icmp_ge (tgt := 22) G.1 G.2.1 dX2_refuseUnlessTold_7 (by decide) (fun c_7 => ?_) (fun c_7 => ?_)
    · exact k_throw2 (is := 133) (text := "partition not told") G hl0 hlocks hP hS hl.1 (by decide +kernel) dX2_refuseUnlessTold_22 dX2_refuseUnlessTold_25 dX2_refuseUnlessTold_26 dX2_refuseUnlessTold_28 dX2_refuseUnlessTold_31 hx (by decide) (by decide) (by decide) (by decide) (by decide) (by decide) (by rw [f_X2_refuseUnlessTold, if_neg c_1, if_pos c_7]) rfl rfl rfl
    · refine lv_aload_n G.1 G.2.1 dX2_refuseUnlessTold_10 rfl (lv_at hl 0 rfl) ?_
      refine k2_getr G hP 1 (by decide) kq_145 rfl dX2_refuseUnlessTold_11 ?_
      refine lv_iload_n G.1 G.2.1 dX2_refuseUnlessTold_14 rfl (lv_at hl 1 rfl) ?_
      have hin_15 : vp_in p0 6 := (kin_of (n := 6) (by decide) c_1 c_7)
      refine kP_ald G hP hin_15 dX2_refuseUnlessTold_15 ?_
      have hj_15 : p0.toNatClampNeg < 6 := kx_lt hin_15
      refine k_Ni (As := []) (rest := []) G hP hS hl.1 kl_X2_36 yk_X1_isTold (c_X1_isTold l D A C _ _ _ _ G.2.2.2.2.2.2 p0.toNatClampNeg hj_15 ) (kr1 G hP hj_15) (by decide) (by decide) rfl (Nat.le_of_ble_eq_true rfl) dX2_refuseUnlessTold_16 (fun H locs hP hS => ?_)
      refine lv_if_ne (tgt := 32) G.1 G.2.1 dX2_refuseUnlessTold_19 (by decide) (fun c_19 => ?_) (fun c_19 => ?_)
      · refine W.widen (k := 1) (n := 6) (by decide) (by decide) ?_
        exact k_xvret G hr hlocks hP hS (by rw [f_X2_refuseUnlessTold, if_neg c_1, if_neg c_7, if_neg c_19]) rfl rfl rfl dX2_refuseUnlessTold_32
      · exact k_throw2 (is := 133) (text := "partition not told") G hl0 hlocks hP hS hl.1 (by decide +kernel) dX2_refuseUnlessTold_22 dX2_refuseUnlessTold_25 dX2_refuseUnlessTold_26 dX2_refuseUnlessTold_28 dX2_refuseUnlessTold_31 hx (by decide) (by decide) (by decide) (by decide) (by decide) (by decide) (by rw [f_X2_refuseUnlessTold, if_neg c_1, if_neg c_7, if_pos c_19]) rfl rfl rfl
end
section
theorem kin_told {ka : kM} {i : Int32} (h : f_X2_refuseUnlessTold ka i = 0) : vp_in i 6 := by
  unfold f_X2_refuseUnlessTold at h
  by_cases h1 : i < 0
  · rw [if_pos h1] at h; exact absurd h (by decide)
  · rw [if_neg h1] at h
    by_cases h2 : 6 ≤ i
    · rw [if_pos h2] at h; exact absurd h (by decide)
    · exact kin_of (n := 6) (by decide) h1 h2
theorem kin_cnt {ka : kM} (hI : kInv ka) (h : ka 0 5 < 12) : vp_in (ka 0 5) 12 := by
  rw [ki_lt, show (12 : Int32).toInt = 12 from rfl] at h
  rw [vp_in_iff]; exact ⟨hI.2.2.2.1, h⟩
theorem kstep_in {x : Int32} (h0 : ¬ x < 0) (h1 : x ≤ 5000) : x.toInt ≤ 5000 ∧ (x.toNatClampNeg : Int) = x.toInt ∧ 0 ≤ x.toInt := by
  rw [ki_lt, show (0 : Int32).toInt = 0 from rfl] at h0
  rw [ki_le, show (5000 : Int32).toInt = 5000 from rfl] at h1
  refine ⟨h1, ?_, by omega⟩
  obtain ⟨j, hj, rfl⟩ := nI_of (x := x) (by rw [ki_lt, show (0 : Int32).toInt = 0 from rfl]; omega)
  rw [nI_clamp hj, nI_toInt hj]
end
section
/-! X2_addressOf -/
def f_X2_addressOf (ka : kM) (p0 : Int32) (p1 : Int32) : Nat × Int32 :=
  if f_X2_refuseUnlessTold ka p0 = 0 then (if (f_X1_holds ka p0.toNatClampNeg p1) = 0 then (3, 0) else (0, (ka (p0.toNatClampNeg + 6) 2) + p1)) else (f_X2_refuseUnlessTold ka p0, 0)
set_option maxHeartbeats 4000000 in
set_option maxRecDepth 100000 in
theorem c_X2_addressOf (l : Launch) (D : va_G) (A : Nat → Nat) (C : Nat → ClassId) (ka mu : kM) (o : Int32) (sz : Nat) (hA : kinj A) (p0 : Int32) (p1 : Int32) (hl0 : l.stackTraces = false) : kXi l yX2_addressOf (.code yX2_addressOf cX2_addressOf 3 (some .int)) ({ frames := 7, cells := 2, slots := 12, locals := 116 }) D A C ka mu o sz [.ref (A 0), .int p0, .int p1] ((f_X2_addressOf ka p0 p1).1) ((f_X2_addressOf ka p0 p1).2) ka mu o := by
  refine kXi_of hA (by decide) (Nat.le_of_ble_eq_true rfl) (fun p e s m args below meth c G hr hlocks hx hP hS ls hl => ?_)
  have hl : lv_has ls 3 [(0, .ref (A 0)), (1, .int p0), (2, .int p1)] := hl
  refine lv_aload_n G.1 G.2.1 dX2_addressOf_0 rfl (lv_at hl 0 rfl) ?_
  refine lv_iload_n G.1 G.2.1 dX2_addressOf_1 rfl (lv_at hl 1 rfl) ?_
  refine k_XVv (As := [.int p0]) (rest := []) G hP hS hl.1 kl_X2_62 yk_X2_refuseUnlessTold (c_X2_refuseUnlessTold l D A C _ _ _ _ G.2.2.2.2.2.2 p0 hl0 ) (kr2 G hP) (by decide) (by decide) (by decide) rfl (Nat.le_of_ble_eq_true rfl) hx hlocks dX2_addressOf_2 (fun c_2 => ⟨by rw [f_X2_addressOf, if_neg c_2], rfl, rfl, rfl⟩) (fun c_2 H locs hP hS => ?_)
  refine lv_aload_n G.1 G.2.1 dX2_addressOf_5 rfl (lv_at hl 0 rfl) ?_
  refine k2_getr G hP 1 (by decide) kq_145 rfl dX2_addressOf_6 ?_
  refine lv_iload_n G.1 G.2.1 dX2_addressOf_9 rfl (lv_at hl 1 rfl) ?_
  have hin_10 : vp_in p0 6 := (kin_told c_2)
  refine kP_ald G hP hin_10 dX2_addressOf_10 ?_
  have hj_10 : p0.toNatClampNeg < 6 := kx_lt hin_10
  refine lv_iload_n G.1 G.2.1 dX2_addressOf_11 rfl (lv_at hl 2 rfl) ?_
  refine k_Ni (As := [.int p1]) (rest := []) G hP hS hl.1 kl_X2_138 yk_X1_holds (c_X1_holds l D A C _ _ _ _ G.2.2.2.2.2.2 p0.toNatClampNeg hj_10 p1 ) (kr1 G hP hj_10) (by decide) (by decide) rfl (Nat.le_of_ble_eq_true rfl) dX2_addressOf_12 (fun H locs hP hS => ?_)
  refine lv_if_ne (tgt := 28) G.1 G.2.1 dX2_addressOf_15 (by decide) (fun c_15 => ?_) (fun c_15 => ?_)
  · refine lv_aload_n G.1 G.2.1 dX2_addressOf_28 rfl (lv_at hl 0 rfl) ?_
    refine k2_getr G hP 1 (by decide) kq_145 rfl dX2_addressOf_29 ?_
    refine lv_iload_n G.1 G.2.1 dX2_addressOf_32 rfl (lv_at hl 1 rfl) ?_
    have hin_33 : vp_in p0 6 := (kin_told c_2)
    refine kP_ald G hP hin_33 dX2_addressOf_33 ?_
    have hj_33 : p0.toNatClampNeg < 6 := kx_lt hin_33
    refine k1N_geti G hP hj_33 2 (by decide) (by decide) kq_70 rfl dX2_addressOf_34 ?_
    refine lv_iload_n G.1 G.2.1 dX2_addressOf_37 rfl (lv_at hl 2 rfl) ?_
    refine lv_iadd G.1 G.2.1 dX2_addressOf_38 ?_
    refine W.widen (k := 2) (n := 12) (by decide) (by decide) ?_
    exact k_xiret G hr hlocks hP hS (by rw [f_X2_addressOf, if_pos c_2, if_neg c_15]) (by rw [f_X2_addressOf, if_pos c_2, if_neg c_15]) rfl rfl rfl dX2_addressOf_39
  · exact k_throw3 (is := 143) (text := "no such word") G hl0 hlocks hP hS hl.1 (by decide +kernel) dX2_addressOf_18 dX2_addressOf_21 dX2_addressOf_22 dX2_addressOf_24 dX2_addressOf_27 hx (by decide) (by decide) (by decide) (by decide) (by decide) (by decide) (by rw [f_X2_addressOf, if_pos c_2, if_pos c_15]) rfl rfl rfl
/-! X2_window -/
def f_X2_window (ka : kM) (p0 : Int32) (p1 : Int32) : Nat × Int32 × kM :=
  if f_X2_refuseIfSealed ka = 0 then (if p0 = (-1) then (if p1 < 1 then (2, 0, ka) else if (100 : Int32) < p1 then (2, 0, ka) else if (ka 0 5) < 12 then (0, (kup (kup (kup (kup ka 4 (ka 0 5).toNatClampNeg p0) 5 ((kup ka 4 (ka 0 5).toNatClampNeg p0) 0 5).toNatClampNeg p1) 0 5 (((kup (kup ka 4 (ka 0 5).toNatClampNeg p0) 5 ((kup ka 4 (ka 0 5).toNatClampNeg p0) 0 5).toNatClampNeg p1) 0 5) + 1)) 0 6 (((kup (kup (kup ka 4 (ka 0 5).toNatClampNeg p0) 5 ((kup ka 4 (ka 0 5).toNatClampNeg p0) 0 5).toNatClampNeg p1) 0 5 (((kup (kup ka 4 (ka 0 5).toNatClampNeg p0) 5 ((kup ka 4 (ka 0 5).toNatClampNeg p0) 0 5).toNatClampNeg p1) 0 5) + 1)) 0 6) + p1)) 0 5, kup (kup (kup (kup ka 4 (ka 0 5).toNatClampNeg p0) 5 ((kup ka 4 (ka 0 5).toNatClampNeg p0) 0 5).toNatClampNeg p1) 0 5 (((kup (kup ka 4 (ka 0 5).toNatClampNeg p0) 5 ((kup ka 4 (ka 0 5).toNatClampNeg p0) 0 5).toNatClampNeg p1) 0 5) + 1)) 0 6 (((kup (kup (kup ka 4 (ka 0 5).toNatClampNeg p0) 5 ((kup ka 4 (ka 0 5).toNatClampNeg p0) 0 5).toNatClampNeg p1) 0 5 (((kup (kup ka 4 (ka 0 5).toNatClampNeg p0) 5 ((kup ka 4 (ka 0 5).toNatClampNeg p0) 0 5).toNatClampNeg p1) 0 5) + 1)) 0 6) + p1)) else (2, 0, ka)) else if f_X2_refuseUnlessTold ka p0 = 0 then (if p1 < 1 then (2, 0, ka) else if (100 : Int32) < p1 then (2, 0, ka) else if (ka 0 5) < 12 then (0, (kup (kup (kup (kup ka 4 (ka 0 5).toNatClampNeg p0) 5 ((kup ka 4 (ka 0 5).toNatClampNeg p0) 0 5).toNatClampNeg p1) 0 5 (((kup (kup ka 4 (ka 0 5).toNatClampNeg p0) 5 ((kup ka 4 (ka 0 5).toNatClampNeg p0) 0 5).toNatClampNeg p1) 0 5) + 1)) 0 6 (((kup (kup (kup ka 4 (ka 0 5).toNatClampNeg p0) 5 ((kup ka 4 (ka 0 5).toNatClampNeg p0) 0 5).toNatClampNeg p1) 0 5 (((kup (kup ka 4 (ka 0 5).toNatClampNeg p0) 5 ((kup ka 4 (ka 0 5).toNatClampNeg p0) 0 5).toNatClampNeg p1) 0 5) + 1)) 0 6) + p1)) 0 5, kup (kup (kup (kup ka 4 (ka 0 5).toNatClampNeg p0) 5 ((kup ka 4 (ka 0 5).toNatClampNeg p0) 0 5).toNatClampNeg p1) 0 5 (((kup (kup ka 4 (ka 0 5).toNatClampNeg p0) 5 ((kup ka 4 (ka 0 5).toNatClampNeg p0) 0 5).toNatClampNeg p1) 0 5) + 1)) 0 6 (((kup (kup (kup ka 4 (ka 0 5).toNatClampNeg p0) 5 ((kup ka 4 (ka 0 5).toNatClampNeg p0) 0 5).toNatClampNeg p1) 0 5 (((kup (kup ka 4 (ka 0 5).toNatClampNeg p0) 5 ((kup ka 4 (ka 0 5).toNatClampNeg p0) 0 5).toNatClampNeg p1) 0 5) + 1)) 0 6) + p1)) else (2, 0, ka)) else (f_X2_refuseUnlessTold ka p0, 0, ka)) else (f_X2_refuseIfSealed ka, 0, ka)
set_option maxHeartbeats 4000000 in
set_option maxRecDepth 100000 in
theorem c_X2_window (l : Launch) (D : va_G) (A : Nat → Nat) (C : Nat → ClassId) (ka mu : kM) (o : Int32) (sz : Nat) (hA : kinj A) (p0 : Int32) (p1 : Int32) (hl0 : l.stackTraces = false) (hI : kInv ka) : kXi l yX2_window (.code yX2_window cX2_window 3 (some .int)) ({ frames := 7, cells := 3, slots := 18, locals := 116 }) D A C ka mu o sz [.ref (A 0), .int p0, .int p1] ((f_X2_window ka p0 p1).1) ((f_X2_window ka p0 p1).2.1) ((f_X2_window ka p0 p1).2.2) mu o := by
  refine kXi_of hA (by decide) (Nat.le_of_ble_eq_true rfl) (fun p e s m args below meth c G hr hlocks hx hP hS ls hl => ?_)
  have hl : lv_has ls 3 [(0, .ref (A 0)), (1, .int p0), (2, .int p1)] := hl
  refine lv_aload_n G.1 G.2.1 dX2_window_0 rfl (lv_at hl 0 rfl) ?_
  refine k_XVv (As := []) (rest := []) G hP hS hl.1 kl_X2_33 yk_X2_refuseIfSealed (c_X2_refuseIfSealed l D A C _ _ _ _ G.2.2.2.2.2.2  hl0 ) (kr2 G hP) (by decide) (by decide) (by decide) rfl (Nat.le_of_ble_eq_true rfl) hx hlocks dX2_window_1 (fun c_1 => ⟨by rw [f_X2_window, if_neg c_1], rfl, rfl, rfl⟩) (fun c_1 H locs hP hS => ?_)
  refine lv_iload_n G.1 G.2.1 dX2_window_4 rfl (lv_at hl 1 rfl) ?_
  refine lv_iconst (v := (-1)) G.1 G.2.1 dX2_window_5 (by decide) ?_
  refine lv_icmp_eq (tgt := 14) G.1 G.2.1 dX2_window_6 (by decide) (fun c_6 => ?_) (fun c_6 => ?_)
  · refine lv_iload_n G.1 G.2.1 dX2_window_14 rfl (lv_at hl 2 rfl) ?_
    refine lv_iconst (v := 1) G.1 G.2.1 dX2_window_15 (by decide) ?_
    refine lv_icmp_lt (tgt := 34) G.1 G.2.1 dX2_window_16 (by decide) (fun c_16 => ?_) (fun c_16 => ?_)
    · exact k_throw2 (is := 70) (text := "ticks not 1 to 100, or the frame is full") G hl0 hlocks hP hS hl.1 (by decide +kernel) dX2_window_34 dX2_window_37 dX2_window_38 dX2_window_40 dX2_window_43 hx (by decide) (by decide) (by decide) (by decide) (by decide) (by decide) (by rw [f_X2_window, if_pos c_1, if_pos c_6, if_pos c_16]) rfl rfl rfl
    · refine lv_iload_n G.1 G.2.1 dX2_window_19 rfl (lv_at hl 2 rfl) ?_
      refine lv_bipush (v := 100) G.1 G.2.1 dX2_window_20 (by decide) ?_
      refine lv_icmp_gt (tgt := 34) G.1 G.2.1 dX2_window_22 (by decide) (fun c_22 => ?_) (fun c_22 => ?_)
      · exact k_throw2 (is := 70) (text := "ticks not 1 to 100, or the frame is full") G hl0 hlocks hP hS hl.1 (by decide +kernel) dX2_window_34 dX2_window_37 dX2_window_38 dX2_window_40 dX2_window_43 hx (by decide) (by decide) (by decide) (by decide) (by decide) (by decide) (by rw [f_X2_window, if_pos c_1, if_pos c_6, if_neg c_16, if_pos c_22]) rfl rfl rfl
      · refine lv_aload_n G.1 G.2.1 dX2_window_25 rfl (lv_at hl 0 rfl) ?_
        refine k2_geti G hP 5 (by decide) (by decide) kq_149 rfl dX2_window_26 ?_
        refine lv_bipush (v := 12) G.1 G.2.1 dX2_window_29 (by decide) ?_
        refine lv_icmp_lt (tgt := 44) G.1 G.2.1 dX2_window_31 (by decide) (fun c_31 => ?_) (fun c_31 => ?_)
        · refine lv_aload_n G.1 G.2.1 dX2_window_44 rfl (lv_at hl 0 rfl) ?_
          refine k2_getr G hP 3 (by decide) kq_147 rfl dX2_window_45 ?_
          refine lv_aload_n G.1 G.2.1 dX2_window_48 rfl (lv_at hl 0 rfl) ?_
          refine k2_geti G hP 5 (by decide) (by decide) kq_149 rfl dX2_window_49 ?_
          refine lv_iload_n G.1 G.2.1 dX2_window_52 rfl (lv_at hl 1 rfl) ?_
          refine kK_ast (r := 4) G hP hS kI_4 (by omega) (kin_cnt hI c_31) dX2_window_53 (fun H locs hP hS => ?_)
          refine lv_aload_n G.1 G.2.1 dX2_window_54 rfl (lv_at hl 0 rfl) ?_
          refine k2_getr G hP 4 (by decide) kq_148 rfl dX2_window_55 ?_
          refine lv_aload_n G.1 G.2.1 dX2_window_58 rfl (lv_at hl 0 rfl) ?_
          refine k2_geti G hP 5 (by decide) (by decide) kq_149 rfl dX2_window_59 ?_
          refine lv_iload_n G.1 G.2.1 dX2_window_62 rfl (lv_at hl 2 rfl) ?_
          refine kK_ast (r := 5) G hP hS kI_5 (by omega) (by rw [kup_r (by decide)]; exact kin_cnt hI c_31) dX2_window_63 (fun H locs hP hS => ?_)
          refine lv_aload_n G.1 G.2.1 dX2_window_64 rfl (lv_at hl 0 rfl) ?_
          refine lv_dup G.1 G.2.1 dX2_window_65 rfl ?_
          refine k2_geti G hP 5 (by decide) (by decide) kq_149 rfl dX2_window_66 ?_
          refine lv_iconst (v := 1) G.1 G.2.1 dX2_window_69 (by decide) ?_
          refine lv_iadd G.1 G.2.1 dX2_window_70 ?_
          refine k2_puti G hP hS 5 (by decide) (by decide) kq_149 rfl rfl rfl rfl dX2_window_71 (fun H locs hP hS => ?_)
          refine lv_aload_n G.1 G.2.1 dX2_window_74 rfl (lv_at hl 0 rfl) ?_
          refine lv_dup G.1 G.2.1 dX2_window_75 rfl ?_
          refine k2_geti G hP 6 (by decide) (by decide) kq_150 rfl dX2_window_76 ?_
          refine lv_iload_n G.1 G.2.1 dX2_window_79 rfl (lv_at hl 2 rfl) ?_
          refine lv_iadd G.1 G.2.1 dX2_window_80 ?_
          refine k2_puti G hP hS 6 (by decide) (by decide) kq_150 rfl rfl rfl rfl dX2_window_81 (fun H locs hP hS => ?_)
          refine lv_aload_n G.1 G.2.1 dX2_window_84 rfl (lv_at hl 0 rfl) ?_
          refine k2_geti G hP 5 (by decide) (by decide) kq_149 rfl dX2_window_85 ?_
          refine W.widen (k := 3) (n := 18) (by decide) (by decide) ?_
          exact k_xiret G hr hlocks hP hS (by rw [f_X2_window, if_pos c_1, if_pos c_6, if_neg c_16, if_neg c_22, if_pos c_31]) (by rw [f_X2_window, if_pos c_1, if_pos c_6, if_neg c_16, if_neg c_22, if_pos c_31]) (by rw [f_X2_window, if_pos c_1, if_pos c_6, if_neg c_16, if_neg c_22, if_pos c_31]) rfl rfl dX2_window_88
        · exact k_throw2 (is := 70) (text := "ticks not 1 to 100, or the frame is full") G hl0 hlocks hP hS hl.1 (by decide +kernel) dX2_window_34 dX2_window_37 dX2_window_38 dX2_window_40 dX2_window_43 hx (by decide) (by decide) (by decide) (by decide) (by decide) (by decide) (by rw [f_X2_window, if_pos c_1, if_pos c_6, if_neg c_16, if_neg c_22, if_neg c_31]) rfl rfl rfl
  · refine lv_aload_n G.1 G.2.1 dX2_window_9 rfl (lv_at hl 0 rfl) ?_
    refine lv_iload_n G.1 G.2.1 dX2_window_10 rfl (lv_at hl 1 rfl) ?_
    refine k_XVv (As := [.int p0]) (rest := []) G hP hS hl.1 kl_X2_62 yk_X2_refuseUnlessTold (c_X2_refuseUnlessTold l D A C _ _ _ _ G.2.2.2.2.2.2 p0 hl0 ) (kr2 G hP) (by decide) (by decide) (by decide) rfl (Nat.le_of_ble_eq_true rfl) hx hlocks dX2_window_11 (fun c_11 => ⟨by rw [f_X2_window, if_pos c_1, if_neg c_6, if_neg c_11], rfl, rfl, rfl⟩) (fun c_11 H locs hP hS => ?_)
    refine lv_iload_n G.1 G.2.1 dX2_window_14 rfl (lv_at hl 2 rfl) ?_
    refine lv_iconst (v := 1) G.1 G.2.1 dX2_window_15 (by decide) ?_
    refine lv_icmp_lt (tgt := 34) G.1 G.2.1 dX2_window_16 (by decide) (fun c_16 => ?_) (fun c_16 => ?_)
    · exact k_throw2 (is := 70) (text := "ticks not 1 to 100, or the frame is full") G hl0 hlocks hP hS hl.1 (by decide +kernel) dX2_window_34 dX2_window_37 dX2_window_38 dX2_window_40 dX2_window_43 hx (by decide) (by decide) (by decide) (by decide) (by decide) (by decide) (by rw [f_X2_window, if_pos c_1, if_neg c_6, if_pos c_11, if_pos c_16]) rfl rfl rfl
    · refine lv_iload_n G.1 G.2.1 dX2_window_19 rfl (lv_at hl 2 rfl) ?_
      refine lv_bipush (v := 100) G.1 G.2.1 dX2_window_20 (by decide) ?_
      refine lv_icmp_gt (tgt := 34) G.1 G.2.1 dX2_window_22 (by decide) (fun c_22 => ?_) (fun c_22 => ?_)
      · exact k_throw2 (is := 70) (text := "ticks not 1 to 100, or the frame is full") G hl0 hlocks hP hS hl.1 (by decide +kernel) dX2_window_34 dX2_window_37 dX2_window_38 dX2_window_40 dX2_window_43 hx (by decide) (by decide) (by decide) (by decide) (by decide) (by decide) (by rw [f_X2_window, if_pos c_1, if_neg c_6, if_pos c_11, if_neg c_16, if_pos c_22]) rfl rfl rfl
      · refine lv_aload_n G.1 G.2.1 dX2_window_25 rfl (lv_at hl 0 rfl) ?_
        refine k2_geti G hP 5 (by decide) (by decide) kq_149 rfl dX2_window_26 ?_
        refine lv_bipush (v := 12) G.1 G.2.1 dX2_window_29 (by decide) ?_
        refine lv_icmp_lt (tgt := 44) G.1 G.2.1 dX2_window_31 (by decide) (fun c_31 => ?_) (fun c_31 => ?_)
        · refine lv_aload_n G.1 G.2.1 dX2_window_44 rfl (lv_at hl 0 rfl) ?_
          refine k2_getr G hP 3 (by decide) kq_147 rfl dX2_window_45 ?_
          refine lv_aload_n G.1 G.2.1 dX2_window_48 rfl (lv_at hl 0 rfl) ?_
          refine k2_geti G hP 5 (by decide) (by decide) kq_149 rfl dX2_window_49 ?_
          refine lv_iload_n G.1 G.2.1 dX2_window_52 rfl (lv_at hl 1 rfl) ?_
          refine kK_ast (r := 4) G hP hS kI_4 (by omega) (kin_cnt hI c_31) dX2_window_53 (fun H locs hP hS => ?_)
          refine lv_aload_n G.1 G.2.1 dX2_window_54 rfl (lv_at hl 0 rfl) ?_
          refine k2_getr G hP 4 (by decide) kq_148 rfl dX2_window_55 ?_
          refine lv_aload_n G.1 G.2.1 dX2_window_58 rfl (lv_at hl 0 rfl) ?_
          refine k2_geti G hP 5 (by decide) (by decide) kq_149 rfl dX2_window_59 ?_
          refine lv_iload_n G.1 G.2.1 dX2_window_62 rfl (lv_at hl 2 rfl) ?_
          refine kK_ast (r := 5) G hP hS kI_5 (by omega) (by rw [kup_r (by decide)]; exact kin_cnt hI c_31) dX2_window_63 (fun H locs hP hS => ?_)
          refine lv_aload_n G.1 G.2.1 dX2_window_64 rfl (lv_at hl 0 rfl) ?_
          refine lv_dup G.1 G.2.1 dX2_window_65 rfl ?_
          refine k2_geti G hP 5 (by decide) (by decide) kq_149 rfl dX2_window_66 ?_
          refine lv_iconst (v := 1) G.1 G.2.1 dX2_window_69 (by decide) ?_
          refine lv_iadd G.1 G.2.1 dX2_window_70 ?_
          refine k2_puti G hP hS 5 (by decide) (by decide) kq_149 rfl rfl rfl rfl dX2_window_71 (fun H locs hP hS => ?_)
          refine lv_aload_n G.1 G.2.1 dX2_window_74 rfl (lv_at hl 0 rfl) ?_
          refine lv_dup G.1 G.2.1 dX2_window_75 rfl ?_
          refine k2_geti G hP 6 (by decide) (by decide) kq_150 rfl dX2_window_76 ?_
          refine lv_iload_n G.1 G.2.1 dX2_window_79 rfl (lv_at hl 2 rfl) ?_
          refine lv_iadd G.1 G.2.1 dX2_window_80 ?_
          refine k2_puti G hP hS 6 (by decide) (by decide) kq_150 rfl rfl rfl rfl dX2_window_81 (fun H locs hP hS => ?_)
          refine lv_aload_n G.1 G.2.1 dX2_window_84 rfl (lv_at hl 0 rfl) ?_
          refine k2_geti G hP 5 (by decide) (by decide) kq_149 rfl dX2_window_85 ?_
          refine W.widen (k := 3) (n := 18) (by decide) (by decide) ?_
          exact k_xiret G hr hlocks hP hS (by rw [f_X2_window, if_pos c_1, if_neg c_6, if_pos c_11, if_neg c_16, if_neg c_22, if_pos c_31]) (by rw [f_X2_window, if_pos c_1, if_neg c_6, if_pos c_11, if_neg c_16, if_neg c_22, if_pos c_31]) (by rw [f_X2_window, if_pos c_1, if_neg c_6, if_pos c_11, if_neg c_16, if_neg c_22, if_pos c_31]) rfl rfl dX2_window_88
        · exact k_throw2 (is := 70) (text := "ticks not 1 to 100, or the frame is full") G hl0 hlocks hP hS hl.1 (by decide +kernel) dX2_window_34 dX2_window_37 dX2_window_38 dX2_window_40 dX2_window_43 hx (by decide) (by decide) (by decide) (by decide) (by decide) (by decide) (by rw [f_X2_window, if_pos c_1, if_neg c_6, if_pos c_11, if_neg c_16, if_neg c_22, if_neg c_31]) rfl rfl rfl
/-! X2_channel -/
def f_X2_channel (ka : kM) (p0 : Int32) (p1 : Int32) (p2 : Int32) (p3 : Int32) : Nat × kM :=
  if f_X2_refuseIfSealed ka = 0 then (if p0 < 0 then (2, ka) else if (8 : Int32) ≤ p0 then (2, ka) else if (ka (p0.toNatClampNeg + 18) 1) = 0 then (if f_X2_refuseUnlessTold ka p1 = 0 then (if f_X2_refuseUnlessTold ka p2 = 0 then (if p1 = p2 then (2, ka) else if p3 < 0 then (2, ka) else if p3 ≤ 8 then (0, f_X0_tell ka p0.toNatClampNeg p1 p2 p3) else (2, ka)) else (f_X2_refuseUnlessTold ka p2, ka)) else (f_X2_refuseUnlessTold ka p1, ka)) else (2, ka)) else (f_X2_refuseIfSealed ka, ka)
set_option maxHeartbeats 4000000 in
set_option maxRecDepth 100000 in
theorem c_X2_channel (l : Launch) (D : va_G) (A : Nat → Nat) (C : Nat → ClassId) (ka mu : kM) (o : Int32) (sz : Nat) (hA : kinj A) (p0 : Int32) (p1 : Int32) (p2 : Int32) (p3 : Int32) (hl0 : l.stackTraces = false) : kXv l yX2_channel (.code yX2_channel cX2_channel 5 none) ({ frames := 7, cells := 4, slots := 24, locals := 116 }) D A C ka mu o sz [.ref (A 0), .int p0, .int p1, .int p2, .int p3] ((f_X2_channel ka p0 p1 p2 p3).1) ((f_X2_channel ka p0 p1 p2 p3).2) mu o := by
  refine kXv_of hA (by decide) (Nat.le_of_ble_eq_true rfl) (fun p e s m args below meth c G hr hlocks hx hP hS ls hl => ?_)
  have hl : lv_has ls 5 [(0, .ref (A 0)), (1, .int p0), (2, .int p1), (3, .int p2), (4, .int p3)] := hl
  refine lv_aload_n G.1 G.2.1 dX2_channel_0 rfl (lv_at hl 0 rfl) ?_
  refine k_XVv (As := []) (rest := []) G hP hS hl.1 kl_X2_33 yk_X2_refuseIfSealed (c_X2_refuseIfSealed l D A C _ _ _ _ G.2.2.2.2.2.2  hl0 ) (kr2 G hP) (by decide) (by decide) (by decide) rfl (Nat.le_of_ble_eq_true rfl) hx hlocks dX2_channel_1 (fun c_1 => ⟨by rw [f_X2_channel, if_neg c_1], rfl, rfl, rfl⟩) (fun c_1 H locs hP hS => ?_)
  refine lv_iload_n G.1 G.2.1 dX2_channel_4 rfl (lv_at hl 1 rfl) ?_
  refine lv_if_lt (tgt := 26) G.1 G.2.1 dX2_channel_5 (by decide) (fun c_5 => ?_) (fun c_5 => ?_)
  · exact k_throw2 (is := 78) (text := "no such channel, or told already") G hl0 hlocks hP hS hl.1 (by decide +kernel) dX2_channel_26 dX2_channel_29 dX2_channel_30 dX2_channel_32 dX2_channel_35 hx (by decide) (by decide) (by decide) (by decide) (by decide) (by decide) (by rw [f_X2_channel, if_pos c_1, if_pos c_5]) rfl rfl rfl
  · refine lv_iload_n G.1 G.2.1 dX2_channel_8 rfl (lv_at hl 1 rfl) ?_
    refine lv_bipush (v := 8) G.1 G.2.1 dX2_channel_9 (by decide) ?_
    refine lv_icmp_ge (tgt := 26) G.1 G.2.1 dX2_channel_11 (by decide) (fun c_11 => ?_) (fun c_11 => ?_)
    · exact k_throw2 (is := 78) (text := "no such channel, or told already") G hl0 hlocks hP hS hl.1 (by decide +kernel) dX2_channel_26 dX2_channel_29 dX2_channel_30 dX2_channel_32 dX2_channel_35 hx (by decide) (by decide) (by decide) (by decide) (by decide) (by decide) (by rw [f_X2_channel, if_pos c_1, if_neg c_5, if_pos c_11]) rfl rfl rfl
    · refine lv_aload_n G.1 G.2.1 dX2_channel_14 rfl (lv_at hl 0 rfl) ?_
      refine k2_getr G hP 2 (by decide) kq_146 rfl dX2_channel_15 ?_
      refine lv_iload_n G.1 G.2.1 dX2_channel_18 rfl (lv_at hl 1 rfl) ?_
      have hin_19 : vp_in p0 8 := (kin_of (n := 8) (by decide) c_5 c_11)
      refine kC_ald G hP hin_19 dX2_channel_19 ?_
      have hj_19 : p0.toNatClampNeg < 8 := kx_lt hin_19
      refine k0N_geti G hP hj_19 1 (by decide) (by decide) kq_111 rfl dX2_channel_20 ?_
      refine lv_if_eq (tgt := 36) G.1 G.2.1 dX2_channel_23 (by decide) (fun c_23 => ?_) (fun c_23 => ?_)
      · refine lv_aload_n G.1 G.2.1 dX2_channel_36 rfl (lv_at hl 0 rfl) ?_
        refine lv_iload_n G.1 G.2.1 dX2_channel_37 rfl (lv_at hl 2 rfl) ?_
        refine k_XVv (As := [.int p1]) (rest := []) G hP hS hl.1 kl_X2_62 yk_X2_refuseUnlessTold (c_X2_refuseUnlessTold l D A C _ _ _ _ G.2.2.2.2.2.2 p1 hl0 ) (kr2 G hP) (by decide) (by decide) (by decide) rfl (Nat.le_of_ble_eq_true rfl) hx hlocks dX2_channel_38 (fun c_38 => ⟨by rw [f_X2_channel, if_pos c_1, if_neg c_5, if_neg c_11, if_pos c_23, if_neg c_38], rfl, rfl, rfl⟩) (fun c_38 H locs hP hS => ?_)
        refine lv_aload_n G.1 G.2.1 dX2_channel_41 rfl (lv_at hl 0 rfl) ?_
        refine lv_iload_n G.1 G.2.1 dX2_channel_42 rfl (lv_at hl 3 rfl) ?_
        refine k_XVv (As := [.int p2]) (rest := []) G hP hS hl.1 kl_X2_62 yk_X2_refuseUnlessTold (c_X2_refuseUnlessTold l D A C _ _ _ _ G.2.2.2.2.2.2 p2 hl0 ) (kr2 G hP) (by decide) (by decide) (by decide) rfl (Nat.le_of_ble_eq_true rfl) hx hlocks dX2_channel_43 (fun c_43 => ⟨by rw [f_X2_channel, if_pos c_1, if_neg c_5, if_neg c_11, if_pos c_23, if_pos c_38, if_neg c_43], rfl, rfl, rfl⟩) (fun c_43 H locs hP hS => ?_)
        refine lv_iload_n G.1 G.2.1 dX2_channel_46 rfl (lv_at hl 2 rfl) ?_
        refine lv_iload_n G.1 G.2.1 dX2_channel_47 rfl (lv_at hl 3 rfl) ?_
        refine lv_icmp_eq (tgt := 63) G.1 G.2.1 dX2_channel_48 (by decide) (fun c_48 => ?_) (fun c_48 => ?_)
        · exact k_throw2 (is := 80) (text := "a channel to itself, or room not 0 to 8") G hl0 hlocks hP hS hl.1 (by decide +kernel) dX2_channel_63 dX2_channel_66 dX2_channel_67 dX2_channel_69 dX2_channel_72 hx (by decide) (by decide) (by decide) (by decide) (by decide) (by decide) (by rw [f_X2_channel, if_pos c_1, if_neg c_5, if_neg c_11, if_pos c_23, if_pos c_38, if_pos c_43, if_pos c_48]) rfl rfl rfl
        · refine lv_iload G.1 G.2.1 dX2_channel_51 (lv_at hl 4 rfl) ?_
          refine lv_if_lt (tgt := 63) G.1 G.2.1 dX2_channel_53 (by decide) (fun c_53 => ?_) (fun c_53 => ?_)
          · exact k_throw2 (is := 80) (text := "a channel to itself, or room not 0 to 8") G hl0 hlocks hP hS hl.1 (by decide +kernel) dX2_channel_63 dX2_channel_66 dX2_channel_67 dX2_channel_69 dX2_channel_72 hx (by decide) (by decide) (by decide) (by decide) (by decide) (by decide) (by rw [f_X2_channel, if_pos c_1, if_neg c_5, if_neg c_11, if_pos c_23, if_pos c_38, if_pos c_43, if_neg c_48, if_pos c_53]) rfl rfl rfl
          · refine lv_iload G.1 G.2.1 dX2_channel_56 (lv_at hl 4 rfl) ?_
            refine lv_bipush (v := 8) G.1 G.2.1 dX2_channel_58 (by decide) ?_
            refine lv_icmp_le (tgt := 73) G.1 G.2.1 dX2_channel_60 (by decide) (fun c_60 => ?_) (fun c_60 => ?_)
            · refine lv_aload_n G.1 G.2.1 dX2_channel_73 rfl (lv_at hl 0 rfl) ?_
              refine k2_getr G hP 2 (by decide) kq_146 rfl dX2_channel_74 ?_
              refine lv_iload_n G.1 G.2.1 dX2_channel_77 rfl (lv_at hl 1 rfl) ?_
              have hin_78 : vp_in p0 8 := (kin_of (n := 8) (by decide) c_5 c_11)
              refine kC_ald G hP hin_78 dX2_channel_78 ?_
              have hj_78 : p0.toNatClampNeg < 8 := kx_lt hin_78
              refine lv_iload_n G.1 G.2.1 dX2_channel_79 rfl (lv_at hl 2 rfl) ?_
              refine lv_iload_n G.1 G.2.1 dX2_channel_80 rfl (lv_at hl 3 rfl) ?_
              refine lv_iload G.1 G.2.1 dX2_channel_81 (lv_at hl 4 rfl) ?_
              refine k_Nv (As := [.int p1, .int p2, .int p3]) (rest := []) G hP hS hl.1 kl_X2_82 yk_X0_tell (c_X0_tell l D A C _ _ _ _ G.2.2.2.2.2.2 p0.toNatClampNeg hj_78 p1 p2 p3 ) (kr0 G hP hj_78) (by decide) (by decide) rfl (Nat.le_of_ble_eq_true rfl) dX2_channel_83 (fun H locs hP hS => ?_)
              refine W.widen (k := 4) (n := 24) (by decide) (by decide) ?_
              exact k_xvret G hr hlocks hP hS (by rw [f_X2_channel, if_pos c_1, if_neg c_5, if_neg c_11, if_pos c_23, if_pos c_38, if_pos c_43, if_neg c_48, if_neg c_53, if_pos c_60]) (by rw [f_X2_channel, if_pos c_1, if_neg c_5, if_neg c_11, if_pos c_23, if_pos c_38, if_pos c_43, if_neg c_48, if_neg c_53, if_pos c_60]) rfl rfl dX2_channel_86
            · exact k_throw2 (is := 80) (text := "a channel to itself, or room not 0 to 8") G hl0 hlocks hP hS hl.1 (by decide +kernel) dX2_channel_63 dX2_channel_66 dX2_channel_67 dX2_channel_69 dX2_channel_72 hx (by decide) (by decide) (by decide) (by decide) (by decide) (by decide) (by rw [f_X2_channel, if_pos c_1, if_neg c_5, if_neg c_11, if_pos c_23, if_pos c_38, if_pos c_43, if_neg c_48, if_neg c_53, if_neg c_60]) rfl rfl rfl
      · exact k_throw2 (is := 78) (text := "no such channel, or told already") G hl0 hlocks hP hS hl.1 (by decide +kernel) dX2_channel_26 dX2_channel_29 dX2_channel_30 dX2_channel_32 dX2_channel_35 hx (by decide) (by decide) (by decide) (by decide) (by decide) (by decide) (by rw [f_X2_channel, if_pos c_1, if_neg c_5, if_neg c_11, if_neg c_23]) rfl rfl rfl
/-! X2_seal -/
def f_X2_seal (ka : kM) : Nat × Int32 × kM :=
  if f_X2_refuseIfSealed ka = 0 then (if (ka 0 5) = 0 then (1, 0, ka) else (0, (kup ka 0 7 1) 0 6, kup ka 0 7 1)) else (f_X2_refuseIfSealed ka, 0, ka)
set_option maxHeartbeats 4000000 in
set_option maxRecDepth 100000 in
theorem c_X2_seal (l : Launch) (D : va_G) (A : Nat → Nat) (C : Nat → ClassId) (ka mu : kM) (o : Int32) (sz : Nat) (hA : kinj A)  (hl0 : l.stackTraces = false) : kXi l yX2_seal (.code yX2_seal cX2_seal 1 (some .int)) ({ frames := 7, cells := 2, slots := 12, locals := 115 }) D A C ka mu o sz [.ref (A 0)] ((f_X2_seal ka).1) ((f_X2_seal ka).2.1) ((f_X2_seal ka).2.2) mu o := by
  refine kXi_of hA (by decide) (Nat.le_of_ble_eq_true rfl) (fun p e s m args below meth c G hr hlocks hx hP hS ls hl => ?_)
  have hl : lv_has ls 1 [(0, .ref (A 0))] := hl
  refine lv_aload_n G.1 G.2.1 dX2_seal_0 rfl (lv_at hl 0 rfl) ?_
  refine k_XVv (As := []) (rest := []) G hP hS hl.1 kl_X2_33 yk_X2_refuseIfSealed (c_X2_refuseIfSealed l D A C _ _ _ _ G.2.2.2.2.2.2  hl0 ) (kr2 G hP) (by decide) (by decide) (by decide) rfl (Nat.le_of_ble_eq_true rfl) hx hlocks dX2_seal_1 (fun c_1 => ⟨by rw [f_X2_seal, if_neg c_1], rfl, rfl, rfl⟩) (fun c_1 H locs hP hS => ?_)
  refine lv_aload_n G.1 G.2.1 dX2_seal_4 rfl (lv_at hl 0 rfl) ?_
  refine k2_geti G hP 5 (by decide) (by decide) kq_149 rfl dX2_seal_5 ?_
  refine lv_if_ne (tgt := 21) G.1 G.2.1 dX2_seal_8 (by decide) (fun c_8 => ?_) (fun c_8 => ?_)
  · refine lv_aload_n G.1 G.2.1 dX2_seal_21 rfl (lv_at hl 0 rfl) ?_
    refine lv_iconst (v := 1) G.1 G.2.1 dX2_seal_22 (by decide) ?_
    refine k2_puti G hP hS 7 (by decide) (by decide) kq_151 rfl rfl (by decide) (by decide) dX2_seal_23 (fun H locs hP hS => ?_)
    refine lv_aload_n G.1 G.2.1 dX2_seal_26 rfl (lv_at hl 0 rfl) ?_
    refine k2_geti G hP 6 (by decide) (by decide) kq_150 rfl dX2_seal_27 ?_
    refine W.widen (k := 2) (n := 12) (by decide) (by decide) ?_
    exact k_xiret G hr hlocks hP hS (by rw [f_X2_seal, if_pos c_1, if_neg c_8]) (by rw [f_X2_seal, if_pos c_1, if_neg c_8]) (by rw [f_X2_seal, if_pos c_1, if_neg c_8]) rfl rfl dX2_seal_30
  · exact k_throw1 (is := 91) (text := "no window") G hl0 hlocks hP hS hl.1 (by decide +kernel) dX2_seal_11 dX2_seal_14 dX2_seal_15 dX2_seal_17 dX2_seal_20 hx (by decide) (by decide) (by decide) (by decide) (by decide) (by decide) (by rw [f_X2_seal, if_pos c_1, if_pos c_8]) rfl rfl rfl
/-! X2_told -/
def f_X2_told (ka : kM) (p0 : Int32) (p1 : Int32) : Nat × Int32 :=
  if p0 < 0 then (2, 0) else if (6 : Int32) ≤ p0 then (2, 0) else if p1 < 0 then (2, 0) else if p1 ≤ 9 then (0, f_X1_report ka p0.toNatClampNeg p1) else (2, 0)
set_option maxHeartbeats 4000000 in
set_option maxRecDepth 100000 in
theorem c_X2_told (l : Launch) (D : va_G) (A : Nat → Nat) (C : Nat → ClassId) (ka mu : kM) (o : Int32) (sz : Nat) (hA : kinj A) (p0 : Int32) (p1 : Int32) (hl0 : l.stackTraces = false) : kXi l yX2_told (.code yX2_told cX2_told 3 (some .int)) ({ frames := 6, cells := 1, slots := 6, locals := 95 }) D A C ka mu o sz [.ref (A 0), .int p0, .int p1] ((f_X2_told ka p0 p1).1) ((f_X2_told ka p0 p1).2) ka mu o := by
  refine kXi_of hA (by decide) (Nat.le_of_ble_eq_true rfl) (fun p e s m args below meth c G hr hlocks hx hP hS ls hl => ?_)
  have hl : lv_has ls 3 [(0, .ref (A 0)), (1, .int p0), (2, .int p1)] := hl
  refine lv_iload_n G.1 G.2.1 dX2_told_0 rfl (lv_at hl 1 rfl) ?_
  refine lv_if_lt (tgt := 20) G.1 G.2.1 dX2_told_1 (by decide) (fun c_1 => ?_) (fun c_1 => ?_)
  · exact k_throw2 (is := 104) (text := "no such partition, or nothing to tell") G hl0 hlocks hP hS hl.1 (by decide +kernel) dX2_told_20 dX2_told_23 dX2_told_24 dX2_told_26 dX2_told_29 hx (by decide) (by decide) (by decide) (by decide) (by decide) (by decide) (by rw [f_X2_told, if_pos c_1]) rfl rfl rfl
  · refine lv_iload_n G.1 G.2.1 dX2_told_4 rfl (lv_at hl 1 rfl) ?_
    refine lv_bipush (v := 6) G.1 G.2.1 dX2_told_5 (by decide) ?_
    refine lv_icmp_ge (tgt := 20) G.1 G.2.1 dX2_told_7 (by decide) (fun c_7 => ?_) (fun c_7 => ?_)
    · exact k_throw2 (is := 104) (text := "no such partition, or nothing to tell") G hl0 hlocks hP hS hl.1 (by decide +kernel) dX2_told_20 dX2_told_23 dX2_told_24 dX2_told_26 dX2_told_29 hx (by decide) (by decide) (by decide) (by decide) (by decide) (by decide) (by rw [f_X2_told, if_neg c_1, if_pos c_7]) rfl rfl rfl
    · refine lv_iload_n G.1 G.2.1 dX2_told_10 rfl (lv_at hl 2 rfl) ?_
      refine lv_if_lt (tgt := 20) G.1 G.2.1 dX2_told_11 (by decide) (fun c_11 => ?_) (fun c_11 => ?_)
      · exact k_throw2 (is := 104) (text := "no such partition, or nothing to tell") G hl0 hlocks hP hS hl.1 (by decide +kernel) dX2_told_20 dX2_told_23 dX2_told_24 dX2_told_26 dX2_told_29 hx (by decide) (by decide) (by decide) (by decide) (by decide) (by decide) (by rw [f_X2_told, if_neg c_1, if_neg c_7, if_pos c_11]) rfl rfl rfl
      · refine lv_iload_n G.1 G.2.1 dX2_told_14 rfl (lv_at hl 2 rfl) ?_
        refine lv_bipush (v := 9) G.1 G.2.1 dX2_told_15 (by decide) ?_
        refine lv_icmp_le (tgt := 30) G.1 G.2.1 dX2_told_17 (by decide) (fun c_17 => ?_) (fun c_17 => ?_)
        · refine lv_aload_n G.1 G.2.1 dX2_told_30 rfl (lv_at hl 0 rfl) ?_
          refine k2_getr G hP 1 (by decide) kq_145 rfl dX2_told_31 ?_
          refine lv_iload_n G.1 G.2.1 dX2_told_34 rfl (lv_at hl 1 rfl) ?_
          have hin_35 : vp_in p0 6 := (kin_of (n := 6) (by decide) c_1 c_7)
          refine kP_ald G hP hin_35 dX2_told_35 ?_
          have hj_35 : p0.toNatClampNeg < 6 := kx_lt hin_35
          refine lv_iload_n G.1 G.2.1 dX2_told_36 rfl (lv_at hl 2 rfl) ?_
          refine k_Ni (As := [.int p1]) (rest := []) G hP hS hl.1 kl_X2_106 yk_X1_report (c_X1_report l D A C _ _ _ _ G.2.2.2.2.2.2 p0.toNatClampNeg hj_35 p1 ) (kr1 G hP hj_35) (by decide) (by decide) rfl (Nat.le_of_ble_eq_true rfl) dX2_told_37 (fun H locs hP hS => ?_)
          refine W.widen (k := 1) (n := 6) (by decide) (by decide) ?_
          exact k_xiret G hr hlocks hP hS (by rw [f_X2_told, if_neg c_1, if_neg c_7, if_neg c_11, if_pos c_17]) (by rw [f_X2_told, if_neg c_1, if_neg c_7, if_neg c_11, if_pos c_17]) rfl rfl rfl dX2_told_40
        · exact k_throw2 (is := 104) (text := "no such partition, or nothing to tell") G hl0 hlocks hP hS hl.1 (by decide +kernel) dX2_told_20 dX2_told_23 dX2_told_24 dX2_told_26 dX2_told_29 hx (by decide) (by decide) (by decide) (by decide) (by decide) (by decide) (by rw [f_X2_told, if_neg c_1, if_neg c_7, if_neg c_11, if_neg c_17]) rfl rfl rfl
/-! X2_has -/
def f_X2_has (ka : kM) (p0 : Int32) (p1 : Int32) : Nat × Int32 :=
  if (f_X2_isChannel ka p0) = 0 then (2, 0) else if p1 < 0 then (2, 0) else if p1 ≤ 4 then (0, f_X0_report ka p0.toNatClampNeg p1 (ka 0 11)) else (2, 0)
set_option maxHeartbeats 4000000 in
set_option maxRecDepth 100000 in
theorem c_X2_has (l : Launch) (D : va_G) (A : Nat → Nat) (C : Nat → ClassId) (ka mu : kM) (o : Int32) (sz : Nat) (hA : kinj A) (p0 : Int32) (p1 : Int32) (hl0 : l.stackTraces = false) : kXi l yX2_has (.code yX2_has cX2_has 3 (some .int)) ({ frames := 6, cells := 1, slots := 6, locals := 95 }) D A C ka mu o sz [.ref (A 0), .int p0, .int p1] ((f_X2_has ka p0 p1).1) ((f_X2_has ka p0 p1).2) ka mu o := by
  refine kXi_of hA (by decide) (Nat.le_of_ble_eq_true rfl) (fun p e s m args below meth c G hr hlocks hx hP hS ls hl => ?_)
  have hl : lv_has ls 3 [(0, .ref (A 0)), (1, .int p0), (2, .int p1)] := hl
  refine lv_aload_n G.1 G.2.1 dX2_has_0 rfl (lv_at hl 0 rfl) ?_
  refine lv_iload_n G.1 G.2.1 dX2_has_1 rfl (lv_at hl 1 rfl) ?_
  refine k_Vi (As := [.int p0]) (rest := []) G hP hS hl.1 kl_X2_110 yk_X2_isChannel (c_X2_isChannel l D A C _ _ _ _ G.2.2.2.2.2.2 p0 ) (kr2 G hP) (by decide) (by decide) rfl (Nat.le_of_ble_eq_true rfl) dX2_has_2 (fun H locs hP hS => ?_)
  refine lv_if_eq (tgt := 17) G.1 G.2.1 dX2_has_5 (by decide) (fun c_5 => ?_) (fun c_5 => ?_)
  · exact k_throw2 (is := 114) (text := "no such channel, or nothing to tell") G hl0 hlocks hP hS hl.1 (by decide +kernel) dX2_has_17 dX2_has_20 dX2_has_21 dX2_has_23 dX2_has_26 hx (by decide) (by decide) (by decide) (by decide) (by decide) (by decide) (by rw [f_X2_has, if_pos c_5]) rfl rfl rfl
  · refine lv_iload_n G.1 G.2.1 dX2_has_8 rfl (lv_at hl 2 rfl) ?_
    refine lv_if_lt (tgt := 17) G.1 G.2.1 dX2_has_9 (by decide) (fun c_9 => ?_) (fun c_9 => ?_)
    · exact k_throw2 (is := 114) (text := "no such channel, or nothing to tell") G hl0 hlocks hP hS hl.1 (by decide +kernel) dX2_has_17 dX2_has_20 dX2_has_21 dX2_has_23 dX2_has_26 hx (by decide) (by decide) (by decide) (by decide) (by decide) (by decide) (by rw [f_X2_has, if_neg c_5, if_pos c_9]) rfl rfl rfl
    · refine lv_iload_n G.1 G.2.1 dX2_has_12 rfl (lv_at hl 2 rfl) ?_
      refine lv_iconst (v := 4) G.1 G.2.1 dX2_has_13 (by decide) ?_
      refine lv_icmp_le (tgt := 27) G.1 G.2.1 dX2_has_14 (by decide) (fun c_14 => ?_) (fun c_14 => ?_)
      · refine lv_aload_n G.1 G.2.1 dX2_has_27 rfl (lv_at hl 0 rfl) ?_
        refine k2_getr G hP 2 (by decide) kq_146 rfl dX2_has_28 ?_
        refine lv_iload_n G.1 G.2.1 dX2_has_31 rfl (lv_at hl 1 rfl) ?_
        have hin_32 : vp_in p0 8 := (kin_chan c_5)
        refine kC_ald G hP hin_32 dX2_has_32 ?_
        have hj_32 : p0.toNatClampNeg < 8 := kx_lt hin_32
        refine lv_iload_n G.1 G.2.1 dX2_has_33 rfl (lv_at hl 2 rfl) ?_
        refine lv_aload_n G.1 G.2.1 dX2_has_34 rfl (lv_at hl 0 rfl) ?_
        refine k2_geti G hP 11 (by decide) (by decide) kq_155 rfl dX2_has_35 ?_
        refine k_Ni (As := [.int p1, .int (ka 0 11)]) (rest := []) G hP hS hl.1 kl_X2_119 yk_X0_report (c_X0_report l D A C _ _ _ _ G.2.2.2.2.2.2 p0.toNatClampNeg hj_32 p1 (ka 0 11) ) (kr0 G hP hj_32) (by decide) (by decide) rfl (Nat.le_of_ble_eq_true rfl) dX2_has_38 (fun H locs hP hS => ?_)
        refine W.widen (k := 1) (n := 6) (by decide) (by decide) ?_
        exact k_xiret G hr hlocks hP hS (by rw [f_X2_has, if_neg c_5, if_neg c_9, if_pos c_14]) (by rw [f_X2_has, if_neg c_5, if_neg c_9, if_pos c_14]) rfl rfl rfl dX2_has_41
      · exact k_throw2 (is := 114) (text := "no such channel, or nothing to tell") G hl0 hlocks hP hS hl.1 (by decide +kernel) dX2_has_17 dX2_has_20 dX2_has_21 dX2_has_23 dX2_has_26 hx (by decide) (by decide) (by decide) (by decide) (by decide) (by decide) (by rw [f_X2_has, if_neg c_5, if_neg c_9, if_neg c_14]) rfl rfl rfl
/-! X2_queued -/
def f_X2_queued (ka : kM) (p0 : Int32) (p1 : Int32) : Nat × Int32 :=
  if (f_X2_isChannel ka p0) = 0 then (2, 0) else if (f_X0_isSlot ka p0.toNatClampNeg) = 0 then (0, f_X0_wordAt ka p0.toNatClampNeg p1) else (0, 0)
set_option maxHeartbeats 4000000 in
set_option maxRecDepth 100000 in
theorem c_X2_queued (l : Launch) (D : va_G) (A : Nat → Nat) (C : Nat → ClassId) (ka mu : kM) (o : Int32) (sz : Nat) (hA : kinj A) (p0 : Int32) (p1 : Int32) (hl0 : l.stackTraces = false) : kXi l yX2_queued (.code yX2_queued cX2_queued 3 (some .int)) ({ frames := 6, cells := 1, slots := 6, locals := 95 }) D A C ka mu o sz [.ref (A 0), .int p0, .int p1] ((f_X2_queued ka p0 p1).1) ((f_X2_queued ka p0 p1).2) ka mu o := by
  refine kXi_of hA (by decide) (Nat.le_of_ble_eq_true rfl) (fun p e s m args below meth c G hr hlocks hx hP hS ls hl => ?_)
  have hl : lv_has ls 3 [(0, .ref (A 0)), (1, .int p0), (2, .int p1)] := hl
  refine lv_aload_n G.1 G.2.1 dX2_queued_0 rfl (lv_at hl 0 rfl) ?_
  refine lv_iload_n G.1 G.2.1 dX2_queued_1 rfl (lv_at hl 1 rfl) ?_
  refine k_Vi (As := [.int p0]) (rest := []) G hP hS hl.1 kl_X2_110 yk_X2_isChannel (c_X2_isChannel l D A C _ _ _ _ G.2.2.2.2.2.2 p0 ) (kr2 G hP) (by decide) (by decide) rfl (Nat.le_of_ble_eq_true rfl) dX2_queued_2 (fun H locs hP hS => ?_)
  refine lv_if_ne (tgt := 18) G.1 G.2.1 dX2_queued_5 (by decide) (fun c_5 => ?_) (fun c_5 => ?_)
  · refine lv_aload_n G.1 G.2.1 dX2_queued_18 rfl (lv_at hl 0 rfl) ?_
    refine k2_getr G hP 2 (by decide) kq_146 rfl dX2_queued_19 ?_
    refine lv_iload_n G.1 G.2.1 dX2_queued_22 rfl (lv_at hl 1 rfl) ?_
    have hin_23 : vp_in p0 8 := (kin_chan c_5)
    refine kC_ald G hP hin_23 dX2_queued_23 ?_
    have hj_23 : p0.toNatClampNeg < 8 := kx_lt hin_23
    refine k_Ni (As := []) (rest := []) G hP hS hl.1 kl_X2_123 yk_X0_isSlot (c_X0_isSlot l D A C _ _ _ _ G.2.2.2.2.2.2 p0.toNatClampNeg hj_23 ) (kr0 G hP hj_23) (by decide) (by decide) rfl (Nat.le_of_ble_eq_true rfl) dX2_queued_24 (fun H locs hP hS => ?_)
    refine lv_if_eq (tgt := 34) G.1 G.2.1 dX2_queued_27 (by decide) (fun c_27 => ?_) (fun c_27 => ?_)
    · refine lv_aload_n G.1 G.2.1 dX2_queued_34 rfl (lv_at hl 0 rfl) ?_
      refine k2_getr G hP 2 (by decide) kq_146 rfl dX2_queued_35 ?_
      refine lv_iload_n G.1 G.2.1 dX2_queued_38 rfl (lv_at hl 1 rfl) ?_
      have hin_39 : vp_in p0 8 := (kin_chan c_5)
      refine kC_ald G hP hin_39 dX2_queued_39 ?_
      have hj_39 : p0.toNatClampNeg < 8 := kx_lt hin_39
      refine lv_iload_n G.1 G.2.1 dX2_queued_40 rfl (lv_at hl 2 rfl) ?_
      refine k_Ni (As := [.int p1]) (rest := []) G hP hS hl.1 kl_X2_126 yk_X0_wordAt (c_X0_wordAt l D A C _ _ _ _ G.2.2.2.2.2.2 p0.toNatClampNeg hj_39 p1 ) (kr0 G hP hj_39) (by decide) (by decide) rfl (Nat.le_of_ble_eq_true rfl) dX2_queued_41 (fun H locs hP hS => ?_)
      refine W.widen (k := 1) (n := 6) (by decide) (by decide) ?_
      exact k_xiret G hr hlocks hP hS (by rw [f_X2_queued, if_neg c_5, if_pos c_27]) (by rw [f_X2_queued, if_neg c_5, if_pos c_27]) rfl rfl rfl dX2_queued_44
    · refine lv_iconst (v := 0) G.1 G.2.1 dX2_queued_30 (by decide) ?_
      refine lv_goto (tgt := 44) G.1 G.2.1 dX2_queued_31 (by decide) ?_
      refine W.widen (k := 1) (n := 6) (by decide) (by decide) ?_
      exact k_xiret G hr hlocks hP hS (by rw [f_X2_queued, if_neg c_5, if_neg c_27]) (by rw [f_X2_queued, if_neg c_5, if_neg c_27]) rfl rfl rfl dX2_queued_44
  · exact k_throw2 (is := 121) (text := "no such channel") G hl0 hlocks hP hS hl.1 (by decide +kernel) dX2_queued_8 dX2_queued_11 dX2_queued_12 dX2_queued_14 dX2_queued_17 hx (by decide) (by decide) (by decide) (by decide) (by decide) (by decide) (by rw [f_X2_queued, if_pos c_5]) rfl rfl rfl
end
section
theorem kin_addr {ka : kM} {p i : Int32} (hI : kInv ka) (h : (f_X2_addressOf ka p i).1 = 0) : vp_in (f_X2_addressOf ka p i).2 512 := by
  unfold f_X2_addressOf at h ⊢
  by_cases h1 : f_X2_refuseUnlessTold ka p = 0
  · rw [if_pos h1] at h ⊢
    by_cases h2 : f_X1_holds ka p.toNatClampNeg i = 0
    · rw [if_pos h2] at h; exact absurd h (by decide)
    · rw [if_neg h2]
      exact kin_mem (hI.2.2.1 _ (kx_lt (kin_told h1))) h2
  · rw [if_neg h1] at h; exact absurd h h1
theorem inv_of {a b : kM} (h : kSm a b) (hI : kInv a) : kInv b := by
  obtain ⟨h1, h2, h3, h4, h5, h6, h7, h8, h9⟩ := h
  obtain ⟨g1, g2, g3, g4, g5⟩ := hI
  refine ⟨by rw [h1]; exact g1, fun i hi => by rw [h7]; exact g2 i hi, fun j hj => ?_, by rw [h2]; exact g4, by rw [h2]; exact g5⟩
  unfold kB
  rw [(h9 j hj).1, (h9 j hj).2.1]
  exact g3 j hj
theorem inv_up0 {a : kM} {k : Nat} {v : Int32} (h8 : k ≠ 8) (h5 : k ≠ 5) (hI : kInv a) : kInv (kup a 0 k v) := by
  obtain ⟨g1, g2, g3, g4, g5⟩ := hI
  refine ⟨by rw [kup_j (Ne.symm h8)]; exact g1, fun i hi => by rw [kup_r (by decide)]; exact g2 i hi, fun j hj => kB_up0 (g3 j hj), by rw [kup_j (Ne.symm h5)]; exact g4, by rw [kup_j (Ne.symm h5)]; exact g5⟩
theorem inv_up8 {a : kM} {v : Int32} (hv : vp_in v 12) (hI : kInv a) : kInv (kup a 0 8 v) := by
  obtain ⟨g1, g2, g3, g4, g5⟩ := hI
  refine ⟨by rw [kup_at]; exact hv, fun i hi => by rw [kup_r (by decide)]; exact g2 i hi, fun j hj => kB_up0 (g3 j hj), by rw [kup_j (by decide)]; exact g4, by rw [kup_j (by decide)]; exact g5⟩
theorem inv_up88 {a : kM} {v w : Int32} (hw : vp_in w 12) (hI : kInv a) : kInv (kup (kup a 0 8 v) 0 8 w) := by
  obtain ⟨g1, g2, g3, g4, g5⟩ := hI
  refine ⟨by rw [kup_at]; exact hw, fun i hi => by rw [kup_r (by decide), kup_r (by decide)]; exact g2 i hi, fun j hj => kB_up0 (kB_up0 (g3 j hj)), by rw [kup_j (by decide), kup_j (by decide)]; exact g4, by rw [kup_j (by decide), kup_j (by decide)]; exact g5⟩
theorem inv_move {a : kM} (hI : kInv a) : kInv (f_X2_moveWindowOn a) := by
  have hA := inv_up0 (k := 9) (v := a 0 9 + 1) (by decide) (by decide) hI
  have hC := inv_up0 (k := 10) (v := 0) (by decide) (by decide) (inv_up0 (k := 9) (v := 0) (by decide) (by decide) hA)
  unfold f_X2_moveWindowOn
  generalize kup (kup (kup a 0 9 (a 0 9 + 1)) 0 9 0) 0 10 0 = b at hC ⊢
  by_cases h1 : kup a 0 9 (a 0 9 + 1) 5 (kup a 0 9 (a 0 9 + 1) 0 8).toNatClampNeg ≤ kup a 0 9 (a 0 9 + 1) 0 9
  · rw [if_pos h1]
    by_cases h2 : kup b 0 8 (b 0 8 + 1) 0 8 < kup b 0 8 (b 0 8 + 1) 0 5
    · rw [if_pos h2]
      refine inv_up8 ?_ hC
      have g := hC.1
      have g5 := hC.2.2.2
      rw [vp_in_iff] at g ⊢
      rw [kup_at, kup_j (by decide), ki_lt] at h2
      have hh := ki_add1 (x := b 0 8) (by omega)
      rw [hh] at h2 ⊢
      omega
    · rw [if_neg h2]
      exact inv_up88 (by rw [vp_in_iff]; decide) hC
  · rw [if_neg h1]; exact hA
theorem inv_tick {a : kM} (hI : kInv a) : kInv (f_X2_goOneTick a).2 := by
  have hA := inv_up0 (k := 11) (v := a 0 11 + 1) (by decide) (by decide) hI
  have hR : ∀ q : Int32, kInv (f_X2_runInstruction (kup a 0 11 (a 0 11 + 1)) q) := fun q => inv_of (kSm_run kSm_refl) hA
  have h2 : ∀ {c : Prop} [Decidable c] {x y : Int32 × kM}, kInv x.2 → kInv y.2 → kInv (if c then x else y).2 := by
    intro c _ x y hx hy
    by_cases h : c
    · rw [if_pos h]; exact hx
    · rw [if_neg h]; exact hy
  unfold f_X2_goOneTick
  repeat' first | (with_reducible exact inv_move hA) | (with_reducible exact inv_move (hR _)) | (with_reducible refine h2 ?_ ?_)
end
section
/-! X2_poke -/
def f_X2_poke (ka : kM) (p0 : Int32) (p1 : Int32) (p2 : Int32) : Nat × Int32 × kM :=
  if f_X2_refuseIfSealed ka = 0 then (if (f_X2_addressOf ka p0 p1).1 = 0 then (0, ka 1 ((f_X2_addressOf ka p0 p1).2).toNatClampNeg, kup ka 1 ((f_X2_addressOf ka p0 p1).2).toNatClampNeg p2) else ((f_X2_addressOf ka p0 p1).1, 0, ka)) else (f_X2_refuseIfSealed ka, 0, ka)
set_option maxHeartbeats 4000000 in
set_option maxRecDepth 100000 in
theorem c_X2_poke (l : Launch) (D : va_G) (A : Nat → Nat) (C : Nat → ClassId) (ka mu : kM) (o : Int32) (sz : Nat) (hA : kinj A) (p0 : Int32) (p1 : Int32) (p2 : Int32) (hl0 : l.stackTraces = false) (hI : kInv ka) : kXi l yX2_poke (.code yX2_poke cX2_poke 6 (some .int)) ({ frames := 8, cells := 3, slots := 18, locals := 138 }) D A C ka mu o sz [.ref (A 0), .int p0, .int p1, .int p2] ((f_X2_poke ka p0 p1 p2).1) ((f_X2_poke ka p0 p1 p2).2.1) ((f_X2_poke ka p0 p1 p2).2.2) mu o := by
  refine kXi_of hA (by decide) (Nat.le_of_ble_eq_true rfl) (fun p e s m args below meth c G hr hlocks hx hP hS ls hl => ?_)
  have hl : lv_has ls 6 [(0, .ref (A 0)), (1, .int p0), (2, .int p1), (3, .int p2)] := hl
  refine lv_aload_n G.1 G.2.1 dX2_poke_0 rfl (lv_at hl 0 rfl) ?_
  refine k_XVv (As := []) (rest := []) G hP hS hl.1 kl_X2_33 yk_X2_refuseIfSealed (c_X2_refuseIfSealed l D A C _ _ _ _ G.2.2.2.2.2.2  hl0 ) (kr2 G hP) (by decide) (by decide) (by decide) rfl (Nat.le_of_ble_eq_true rfl) hx hlocks dX2_poke_1 (fun c_1 => ⟨by rw [f_X2_poke, if_neg c_1], rfl, rfl, rfl⟩) (fun c_1 H locs hP hS => ?_)
  refine lv_aload_n G.1 G.2.1 dX2_poke_4 rfl (lv_at hl 0 rfl) ?_
  refine lv_iload_n G.1 G.2.1 dX2_poke_5 rfl (lv_at hl 1 rfl) ?_
  refine lv_iload_n G.1 G.2.1 dX2_poke_6 rfl (lv_at hl 2 rfl) ?_
  refine k_XVi (As := [.int p0, .int p1]) (rest := []) G hP hS hl.1 kl_X2_85 yk_X2_addressOf (c_X2_addressOf l D A C _ _ _ _ G.2.2.2.2.2.2 p0 p1 hl0 ) (kr2 G hP) (by decide) (by decide) (by decide) rfl (Nat.le_of_ble_eq_true rfl) hx hlocks dX2_poke_7 (fun c_7 => ⟨by rw [f_X2_poke, if_pos c_1, if_neg c_7], rfl, rfl, rfl⟩) (fun c_7 H locs hP hS => ?_)
  refine lv_istore (lv' := [(4, .int ((f_X2_addressOf ka p0 p1).2)), (0, .ref (A 0)), (1, .int p0), (2, .int p1), (3, .int p2)]) G.1 G.2.1 dX2_poke_10 hl (by decide) rfl (fun ls hl => ?_)
  refine lv_aload_n G.1 G.2.1 dX2_poke_12 rfl (lv_at hl 1 rfl) ?_
  refine k2_getr G hP 0 (by decide) kq_144 rfl dX2_poke_13 ?_
  refine lv_iload G.1 G.2.1 dX2_poke_16 (lv_at hl 0 rfl) ?_
  refine kK_ald (r := 1) G hP kI_1 (by omega) (kin_addr hI c_7) dX2_poke_18 ?_
  refine lv_istore (lv' := [(5, .int (ka 1 ((f_X2_addressOf ka p0 p1).2).toNatClampNeg)), (4, .int ((f_X2_addressOf ka p0 p1).2)), (0, .ref (A 0)), (1, .int p0), (2, .int p1), (3, .int p2)]) G.1 G.2.1 dX2_poke_19 hl (by decide) rfl (fun ls hl => ?_)
  refine lv_aload_n G.1 G.2.1 dX2_poke_21 rfl (lv_at hl 2 rfl) ?_
  refine k2_getr G hP 0 (by decide) kq_144 rfl dX2_poke_22 ?_
  refine lv_iload G.1 G.2.1 dX2_poke_25 (lv_at hl 1 rfl) ?_
  refine lv_iload_n G.1 G.2.1 dX2_poke_27 rfl (lv_at hl 5 rfl) ?_
  refine kK_ast (r := 1) G hP hS kI_1 (by omega) (kin_addr hI c_7) dX2_poke_28 (fun H locs hP hS => ?_)
  refine lv_iload G.1 G.2.1 dX2_poke_29 (lv_at hl 0 rfl) ?_
  refine W.widen (k := 3) (n := 18) (by decide) (by decide) ?_
  exact k_xiret G hr hlocks hP hS (by rw [f_X2_poke, if_pos c_1, if_pos c_7]) (by rw [f_X2_poke, if_pos c_1, if_pos c_7]) (by rw [f_X2_poke, if_pos c_1, if_pos c_7]) rfl rfl dX2_poke_31
/-! X2_peek -/
def f_X2_peek (ka : kM) (p0 : Int32) (p1 : Int32) : Nat × Int32 :=
  if (f_X2_addressOf ka p0 p1).1 = 0 then (0, ka 1 ((f_X2_addressOf ka p0 p1).2).toNatClampNeg) else ((f_X2_addressOf ka p0 p1).1, 0)
set_option maxHeartbeats 4000000 in
set_option maxRecDepth 100000 in
theorem c_X2_peek (l : Launch) (D : va_G) (A : Nat → Nat) (C : Nat → ClassId) (ka mu : kM) (o : Int32) (sz : Nat) (hA : kinj A) (p0 : Int32) (p1 : Int32) (hl0 : l.stackTraces = false) (hI : kInv ka) : kXi l yX2_peek (.code yX2_peek cX2_peek 3 (some .int)) ({ frames := 8, cells := 2, slots := 12, locals := 138 }) D A C ka mu o sz [.ref (A 0), .int p0, .int p1] ((f_X2_peek ka p0 p1).1) ((f_X2_peek ka p0 p1).2) ka mu o := by
  refine kXi_of hA (by decide) (Nat.le_of_ble_eq_true rfl) (fun p e s m args below meth c G hr hlocks hx hP hS ls hl => ?_)
  have hl : lv_has ls 3 [(0, .ref (A 0)), (1, .int p0), (2, .int p1)] := hl
  refine lv_aload_n G.1 G.2.1 dX2_peek_0 rfl (lv_at hl 0 rfl) ?_
  refine k2_getr G hP 0 (by decide) kq_144 rfl dX2_peek_1 ?_
  refine lv_aload_n G.1 G.2.1 dX2_peek_4 rfl (lv_at hl 0 rfl) ?_
  refine lv_iload_n G.1 G.2.1 dX2_peek_5 rfl (lv_at hl 1 rfl) ?_
  refine lv_iload_n G.1 G.2.1 dX2_peek_6 rfl (lv_at hl 2 rfl) ?_
  refine k_XVi (As := [.int p0, .int p1]) (rest := [.ref (A 1)]) G hP hS hl.1 kl_X2_85 yk_X2_addressOf (c_X2_addressOf l D A C _ _ _ _ G.2.2.2.2.2.2 p0 p1 hl0 ) (kr2 G hP) (by decide) (by decide) (by decide) rfl (Nat.le_of_ble_eq_true rfl) hx hlocks dX2_peek_7 (fun c_7 => ⟨by rw [f_X2_peek, if_neg c_7], rfl, rfl, rfl⟩) (fun c_7 H locs hP hS => ?_)
  refine kK_ald (r := 1) G hP kI_1 (by omega) (kin_addr hI c_7) dX2_peek_10 ?_
  refine W.widen (k := 2) (n := 12) (by decide) (by decide) ?_
  exact k_xiret G hr hlocks hP hS (by rw [f_X2_peek, if_pos c_7]) (by rw [f_X2_peek, if_pos c_7]) rfl rfl rfl dX2_peek_11
/-! X2_sharesWord -/
def f_X2_sharesWord_lp (ka : kM) (p0 p1 : Int32) : Nat → Int32 → Int32
  | 0, _ => 0
  | n + 1, i => if f_X1_meets ka i.toNatClampNeg p0 p1 = 0 then f_X2_sharesWord_lp ka p0 p1 n (i + 1) else 1
def f_X2_sharesWord (ka : kM) (p0 p1 : Int32) : Int32 := f_X2_sharesWord_lp ka p0 p1 6 0
set_option maxHeartbeats 4000000 in
set_option maxRecDepth 100000 in
theorem w_X2_sharesWord (l : Launch) (D : va_G) (A : Nat → Nat) (C : Nat → ClassId) (ka mu : kM) (o : Int32) {p : Program} {e : Env} {s : State} {m : MethodId} {args : Array Value} {below : List Frame} {meth : Method} {c : Code} (G : kCtx D A C p s m args c cX2_sharesWord 4 RX2) (hr : meth.sig.returnType = some .boolean) (hlocks : meth.locks = false) (p0 p1 : Int32) :
    ∀ (n : Nat) (i : Int32) (H : Heap) (locs : List Loc) (ls : Array Slot), 0 ≤ i.toInt → i.toInt + n = 6 → kP D A C ka mu o H → kS A s H locs → lv_has ls 4 [(3, .int i), (0, .ref (A 0)), (1, .int p0), (2, .int p1)] → W p l e ({ frames := 2, cells := 0, slots := 0, locals := 42 }) s m args below meth c H locs 0 0 (kZi D A C below args s 0 0 (f_X2_sharesWord_lp ka p0 p1 n i) ka mu o) (F0 m 2 ls []) := by
  intro n
  induction n with
  | zero =>
    intro i H locs ls hi0 hi1 hP hS hl
    refine lv_iload_n G.1 G.2.1 dX2_sharesWord_2 rfl (lv_at hl 0 rfl) ?_
    refine lv_bipush (v := 6) G.1 G.2.1 dX2_sharesWord_3 (by decide) ?_
    refine lv_icmp_ge (tgt := 30) G.1 G.2.1 dX2_sharesWord_5 (by decide) (fun _ => ?_) (fun c => absurd (by rw [ki_le, show (6 : Int32).toInt = 6 from rfl]; omega) c)
    refine lv_iconst (v := 0) G.1 G.2.1 dX2_sharesWord_30 (by decide) ?_
    exact k_zret G hr hlocks hP hS (by decide) (by rw [f_X2_sharesWord_lp]) rfl rfl rfl dX2_sharesWord_31
  | succ n ih =>
    intro i H locs ls hi0 hi1 hP hS hl
    refine lv_iload_n G.1 G.2.1 dX2_sharesWord_2 rfl (lv_at hl 0 rfl) ?_
    refine lv_bipush (v := 6) G.1 G.2.1 dX2_sharesWord_3 (by decide) ?_
    refine lv_icmp_ge (tgt := 30) G.1 G.2.1 dX2_sharesWord_5 (by decide) (fun c => absurd c (by rw [ki_le, show (6 : Int32).toInt = 6 from rfl]; omega)) (fun _ => ?_)
    refine lv_aload_n G.1 G.2.1 dX2_sharesWord_8 rfl (lv_at hl 1 rfl) ?_
    refine k2_getr G hP 1 (by decide) kq_145 rfl dX2_sharesWord_9 ?_
    refine lv_iload_n G.1 G.2.1 dX2_sharesWord_12 rfl (lv_at hl 0 rfl) ?_
    have hin_13 : vp_in i 6 := (by rw [vp_in_iff]; omega)
    refine kP_ald G hP hin_13 dX2_sharesWord_13 ?_
    have hj_13 : i.toNatClampNeg < 6 := kx_lt hin_13
    refine lv_iload_n G.1 G.2.1 dX2_sharesWord_14 rfl (lv_at hl 2 rfl) ?_
    refine lv_iload_n G.1 G.2.1 dX2_sharesWord_15 rfl (lv_at hl 3 rfl) ?_
    refine k_Ni (As := [.int p0, .int p1]) (rest := []) G hP hS hl.1 kl_X2_135 yk_X1_meets (c_X1_meets l D A C _ _ _ _ G.2.2.2.2.2.2 i.toNatClampNeg hj_13 p0 p1 ) (kr1 G hP hj_13) (by decide) (by decide) rfl (Nat.le_of_ble_eq_true rfl) dX2_sharesWord_16 (fun H locs hP hS => ?_)
    refine lv_if_eq (tgt := 24) G.1 G.2.1 dX2_sharesWord_19 (by decide) (fun c_19 => ?_) (fun c_19 => ?_)
    · refine lv_iinc (v := i + 1) (lv' := [(3, .int (i + 1)), (0, .ref (A 0)), (1, .int p0), (2, .int p1)]) G.1 G.2.1 dX2_sharesWord_24 hl (k := 0) rfl rfl (by decide) rfl (fun ls hl => ?_)
      refine lv_goto (tgt := 2) G.1 G.2.1 dX2_sharesWord_27 (by decide) ?_
      rw [show f_X2_sharesWord_lp ka p0 p1 (n + 1) i = f_X2_sharesWord_lp ka p0 p1 n (i + 1) by rw [f_X2_sharesWord_lp, if_pos c_19]]
      have hi2 : (i + 1).toInt = i.toInt + 1 := ki_add1 (by omega)
      exact ih (i + 1) _ _ _ (by omega) (by omega) hP hS (lv_sub hl [0, 1, 2, 3] rfl)
    · refine lv_iconst (v := 1) G.1 G.2.1 dX2_sharesWord_22 (by decide) ?_
      exact k_zret G hr hlocks hP hS (by decide) (by rw [f_X2_sharesWord_lp, if_neg c_19]) rfl rfl rfl dX2_sharesWord_23
set_option maxHeartbeats 4000000 in
set_option maxRecDepth 100000 in
theorem c_X2_sharesWord (l : Launch) (D : va_G) (A : Nat → Nat) (C : Nat → ClassId) (ka mu : kM) (o : Int32) (sz : Nat) (hA : kinj A) (p0 : Int32) (p1 : Int32) : kMi l yX2_sharesWord (.code yX2_sharesWord cX2_sharesWord 4 (some .boolean)) ({ frames := 2, cells := 0, slots := 0, locals := 42 }) D A C ka mu o sz [.ref (A 0), .int p0, .int p1] (f_X2_sharesWord ka p0 p1) ka mu o := by
  refine kMi_of hA (by decide) (Nat.le_of_ble_eq_true rfl) (fun p e s m args below meth c G hr hlocks hP hS ls hl => ?_)
  have hl : lv_has ls 4 [(0, .ref (A 0)), (1, .int p0), (2, .int p1)] := hl
  refine lv_iconst (v := 0) G.1 G.2.1 dX2_sharesWord_0 (by decide) ?_
  refine lv_istore_n (lv' := [(3, .int 0), (0, .ref (A 0)), (1, .int p0), (2, .int p1)]) G.1 G.2.1 dX2_sharesWord_1 rfl hl (by decide) rfl (fun ls hl => ?_)
  exact w_X2_sharesWord l D A C ka mu o G hr hlocks p0 p1 6 0 _ _ _ (by decide) (by decide) hP hS (lv_sub hl [0, 1, 2, 3] rfl)
/-! X2_partition -/
def f_X2_partition (ka : kM) (p0 : Int32) (p1 : Int32) (p2 : Int32) (p3 : Int32) (p4 : Int32) : Nat × kM :=
  if f_X2_refuseIfSealed ka = 0 then (if p0 < 0 then (2, ka) else if (6 : Int32) ≤ p0 then (2, ka) else if (f_X1_isTold ka p0.toNatClampNeg) = 0 then (if (f_X2_isInMemory ka p1 p2) = 0 then (2, ka) else if (f_X2_sharesWord ka p1 p2) = 0 then (if p3 < 0 then (2, ka) else if p2 ≤ p3 then (2, ka) else if p4 < 0 then (2, ka) else if p4 ≤ 100 then (0, f_X1_tell ka p0.toNatClampNeg p1 p2 p3 p4) else (2, ka)) else (2, ka)) else (2, ka)) else (f_X2_refuseIfSealed ka, ka)
set_option maxHeartbeats 4000000 in
set_option maxRecDepth 100000 in
theorem c_X2_partition (l : Launch) (D : va_G) (A : Nat → Nat) (C : Nat → ClassId) (ka mu : kM) (o : Int32) (sz : Nat) (hA : kinj A) (p0 : Int32) (p1 : Int32) (p2 : Int32) (p3 : Int32) (p4 : Int32) (hl0 : l.stackTraces = false) : kXv l yX2_partition (.code yX2_partition cX2_partition 6 none) ({ frames := 7, cells := 2, slots := 12, locals := 115 }) D A C ka mu o sz [.ref (A 0), .int p0, .int p1, .int p2, .int p3, .int p4] ((f_X2_partition ka p0 p1 p2 p3 p4).1) ((f_X2_partition ka p0 p1 p2 p3 p4).2) mu o := by
  refine kXv_of hA (by decide) (Nat.le_of_ble_eq_true rfl) (fun p e s m args below meth c G hr hlocks hx hP hS ls hl => ?_)
  have hl : lv_has ls 6 [(0, .ref (A 0)), (1, .int p0), (2, .int p1), (3, .int p2), (4, .int p3), (5, .int p4)] := hl
  refine lv_aload_n G.1 G.2.1 dX2_partition_0 rfl (lv_at hl 0 rfl) ?_
  refine k_XVv (As := []) (rest := []) G hP hS hl.1 kl_X2_33 yk_X2_refuseIfSealed (c_X2_refuseIfSealed l D A C _ _ _ _ G.2.2.2.2.2.2  hl0 ) (kr2 G hP) (by decide) (by decide) (by decide) rfl (Nat.le_of_ble_eq_true rfl) hx hlocks dX2_partition_1 (fun c_1 => ⟨by rw [f_X2_partition, if_neg c_1], rfl, rfl, rfl⟩) (fun c_1 H locs hP hS => ?_)
  refine lv_iload_n G.1 G.2.1 dX2_partition_4 rfl (lv_at hl 1 rfl) ?_
  refine lv_if_lt (tgt := 26) G.1 G.2.1 dX2_partition_5 (by decide) (fun c_5 => ?_) (fun c_5 => ?_)
  · exact k_throw2 (is := 42) (text := "no such partition, or told already") G hl0 hlocks hP hS hl.1 (by decide +kernel) dX2_partition_26 dX2_partition_29 dX2_partition_30 dX2_partition_32 dX2_partition_35 hx (by decide) (by decide) (by decide) (by decide) (by decide) (by decide) (by rw [f_X2_partition, if_pos c_1, if_pos c_5]) rfl rfl rfl
  · refine lv_iload_n G.1 G.2.1 dX2_partition_8 rfl (lv_at hl 1 rfl) ?_
    refine lv_bipush (v := 6) G.1 G.2.1 dX2_partition_9 (by decide) ?_
    refine lv_icmp_ge (tgt := 26) G.1 G.2.1 dX2_partition_11 (by decide) (fun c_11 => ?_) (fun c_11 => ?_)
    · exact k_throw2 (is := 42) (text := "no such partition, or told already") G hl0 hlocks hP hS hl.1 (by decide +kernel) dX2_partition_26 dX2_partition_29 dX2_partition_30 dX2_partition_32 dX2_partition_35 hx (by decide) (by decide) (by decide) (by decide) (by decide) (by decide) (by rw [f_X2_partition, if_pos c_1, if_neg c_5, if_pos c_11]) rfl rfl rfl
    · refine lv_aload_n G.1 G.2.1 dX2_partition_14 rfl (lv_at hl 0 rfl) ?_
      refine k2_getr G hP 1 (by decide) kq_145 rfl dX2_partition_15 ?_
      refine lv_iload_n G.1 G.2.1 dX2_partition_18 rfl (lv_at hl 1 rfl) ?_
      have hin_19 : vp_in p0 6 := (kin_of (n := 6) (by decide) c_5 c_11)
      refine kP_ald G hP hin_19 dX2_partition_19 ?_
      have hj_19 : p0.toNatClampNeg < 6 := kx_lt hin_19
      refine k_Ni (As := []) (rest := []) G hP hS hl.1 kl_X2_36 yk_X1_isTold (c_X1_isTold l D A C _ _ _ _ G.2.2.2.2.2.2 p0.toNatClampNeg hj_19 ) (kr1 G hP hj_19) (by decide) (by decide) rfl (Nat.le_of_ble_eq_true rfl) dX2_partition_20 (fun H locs hP hS => ?_)
      refine lv_if_eq (tgt := 36) G.1 G.2.1 dX2_partition_23 (by decide) (fun c_23 => ?_) (fun c_23 => ?_)
      · refine lv_iload_n G.1 G.2.1 dX2_partition_36 rfl (lv_at hl 2 rfl) ?_
        refine lv_iload_n G.1 G.2.1 dX2_partition_37 rfl (lv_at hl 3 rfl) ?_
        refine k_Si (As := [.int p1, .int p2]) (rest := []) G hP hS hl.1 kl_X2_47 yk_X2_isInMemory (c_X2_isInMemory l D A C _ _ _ _ G.2.2.2.2.2.2 p1 p2 )  (by decide) (by decide) rfl (Nat.le_of_ble_eq_true rfl) dX2_partition_38 (fun H locs hP hS => ?_)
        refine lv_if_eq (tgt := 53) G.1 G.2.1 dX2_partition_41 (by decide) (fun c_41 => ?_) (fun c_41 => ?_)
        · exact k_throw2 (is := 54) (text := "region not in memory, or not free") G hl0 hlocks hP hS hl.1 (by decide +kernel) dX2_partition_53 dX2_partition_56 dX2_partition_57 dX2_partition_59 dX2_partition_62 hx (by decide) (by decide) (by decide) (by decide) (by decide) (by decide) (by rw [f_X2_partition, if_pos c_1, if_neg c_5, if_neg c_11, if_pos c_23, if_pos c_41]) rfl rfl rfl
        · refine lv_aload_n G.1 G.2.1 dX2_partition_44 rfl (lv_at hl 0 rfl) ?_
          refine lv_iload_n G.1 G.2.1 dX2_partition_45 rfl (lv_at hl 2 rfl) ?_
          refine lv_iload_n G.1 G.2.1 dX2_partition_46 rfl (lv_at hl 3 rfl) ?_
          refine k_Vi (As := [.int p1, .int p2]) (rest := []) G hP hS hl.1 kl_X2_51 yk_X2_sharesWord (c_X2_sharesWord l D A C _ _ _ _ G.2.2.2.2.2.2 p1 p2 ) (kr2 G hP) (by decide) (by decide) rfl (Nat.le_of_ble_eq_true rfl) dX2_partition_47 (fun H locs hP hS => ?_)
          refine lv_if_eq (tgt := 63) G.1 G.2.1 dX2_partition_50 (by decide) (fun c_50 => ?_) (fun c_50 => ?_)
          · refine lv_iload G.1 G.2.1 dX2_partition_63 (lv_at hl 4 rfl) ?_
            refine lv_if_lt (tgt := 86) G.1 G.2.1 dX2_partition_65 (by decide) (fun c_65 => ?_) (fun c_65 => ?_)
            · exact k_throw2 (is := 56) (text := "entry not in the region, or restarts not 0 to 100") G hl0 hlocks hP hS hl.1 (by decide +kernel) dX2_partition_86 dX2_partition_89 dX2_partition_90 dX2_partition_92 dX2_partition_95 hx (by decide) (by decide) (by decide) (by decide) (by decide) (by decide) (by rw [f_X2_partition, if_pos c_1, if_neg c_5, if_neg c_11, if_pos c_23, if_neg c_41, if_pos c_50, if_pos c_65]) rfl rfl rfl
            · refine lv_iload G.1 G.2.1 dX2_partition_68 (lv_at hl 4 rfl) ?_
              refine lv_iload_n G.1 G.2.1 dX2_partition_70 rfl (lv_at hl 3 rfl) ?_
              refine lv_icmp_ge (tgt := 86) G.1 G.2.1 dX2_partition_71 (by decide) (fun c_71 => ?_) (fun c_71 => ?_)
              · exact k_throw2 (is := 56) (text := "entry not in the region, or restarts not 0 to 100") G hl0 hlocks hP hS hl.1 (by decide +kernel) dX2_partition_86 dX2_partition_89 dX2_partition_90 dX2_partition_92 dX2_partition_95 hx (by decide) (by decide) (by decide) (by decide) (by decide) (by decide) (by rw [f_X2_partition, if_pos c_1, if_neg c_5, if_neg c_11, if_pos c_23, if_neg c_41, if_pos c_50, if_neg c_65, if_pos c_71]) rfl rfl rfl
              · refine lv_iload G.1 G.2.1 dX2_partition_74 (lv_at hl 5 rfl) ?_
                refine lv_if_lt (tgt := 86) G.1 G.2.1 dX2_partition_76 (by decide) (fun c_76 => ?_) (fun c_76 => ?_)
                · exact k_throw2 (is := 56) (text := "entry not in the region, or restarts not 0 to 100") G hl0 hlocks hP hS hl.1 (by decide +kernel) dX2_partition_86 dX2_partition_89 dX2_partition_90 dX2_partition_92 dX2_partition_95 hx (by decide) (by decide) (by decide) (by decide) (by decide) (by decide) (by rw [f_X2_partition, if_pos c_1, if_neg c_5, if_neg c_11, if_pos c_23, if_neg c_41, if_pos c_50, if_neg c_65, if_neg c_71, if_pos c_76]) rfl rfl rfl
                · refine lv_iload G.1 G.2.1 dX2_partition_79 (lv_at hl 5 rfl) ?_
                  refine lv_bipush (v := 100) G.1 G.2.1 dX2_partition_81 (by decide) ?_
                  refine lv_icmp_le (tgt := 96) G.1 G.2.1 dX2_partition_83 (by decide) (fun c_83 => ?_) (fun c_83 => ?_)
                  · refine lv_aload_n G.1 G.2.1 dX2_partition_96 rfl (lv_at hl 0 rfl) ?_
                    refine k2_getr G hP 1 (by decide) kq_145 rfl dX2_partition_97 ?_
                    refine lv_iload_n G.1 G.2.1 dX2_partition_100 rfl (lv_at hl 1 rfl) ?_
                    have hin_101 : vp_in p0 6 := (kin_of (n := 6) (by decide) c_5 c_11)
                    refine kP_ald G hP hin_101 dX2_partition_101 ?_
                    have hj_101 : p0.toNatClampNeg < 6 := kx_lt hin_101
                    refine lv_iload_n G.1 G.2.1 dX2_partition_102 rfl (lv_at hl 2 rfl) ?_
                    refine lv_iload_n G.1 G.2.1 dX2_partition_103 rfl (lv_at hl 3 rfl) ?_
                    refine lv_iload G.1 G.2.1 dX2_partition_104 (lv_at hl 4 rfl) ?_
                    refine lv_iload G.1 G.2.1 dX2_partition_106 (lv_at hl 5 rfl) ?_
                    refine k_Nv (As := [.int p1, .int p2, .int p3, .int p4]) (rest := []) G hP hS hl.1 kl_X2_58 yk_X1_tell (c_X1_tell l D A C _ _ _ _ G.2.2.2.2.2.2 p0.toNatClampNeg hj_101 p1 p2 p3 p4 ) (kr1 G hP hj_101) (by decide) (by decide) rfl (Nat.le_of_ble_eq_true rfl) dX2_partition_108 (fun H locs hP hS => ?_)
                    refine W.widen (k := 2) (n := 12) (by decide) (by decide) ?_
                    exact k_xvret G hr hlocks hP hS (by rw [f_X2_partition, if_pos c_1, if_neg c_5, if_neg c_11, if_pos c_23, if_neg c_41, if_pos c_50, if_neg c_65, if_neg c_71, if_neg c_76, if_pos c_83]) (by rw [f_X2_partition, if_pos c_1, if_neg c_5, if_neg c_11, if_pos c_23, if_neg c_41, if_pos c_50, if_neg c_65, if_neg c_71, if_neg c_76, if_pos c_83]) rfl rfl dX2_partition_111
                  · exact k_throw2 (is := 56) (text := "entry not in the region, or restarts not 0 to 100") G hl0 hlocks hP hS hl.1 (by decide +kernel) dX2_partition_86 dX2_partition_89 dX2_partition_90 dX2_partition_92 dX2_partition_95 hx (by decide) (by decide) (by decide) (by decide) (by decide) (by decide) (by rw [f_X2_partition, if_pos c_1, if_neg c_5, if_neg c_11, if_pos c_23, if_neg c_41, if_pos c_50, if_neg c_65, if_neg c_71, if_neg c_76, if_neg c_83]) rfl rfl rfl
          · exact k_throw2 (is := 54) (text := "region not in memory, or not free") G hl0 hlocks hP hS hl.1 (by decide +kernel) dX2_partition_53 dX2_partition_56 dX2_partition_57 dX2_partition_59 dX2_partition_62 hx (by decide) (by decide) (by decide) (by decide) (by decide) (by decide) (by rw [f_X2_partition, if_pos c_1, if_neg c_5, if_neg c_11, if_pos c_23, if_neg c_41, if_neg c_50]) rfl rfl rfl
      · exact k_throw2 (is := 42) (text := "no such partition, or told already") G hl0 hlocks hP hS hl.1 (by decide +kernel) dX2_partition_26 dX2_partition_29 dX2_partition_30 dX2_partition_32 dX2_partition_35 hx (by decide) (by decide) (by decide) (by decide) (by decide) (by decide) (by rw [f_X2_partition, if_pos c_1, if_neg c_5, if_neg c_11, if_neg c_23]) rfl rfl rfl
/-! X2_step -/
def f_X2_step_lp : Nat → kM → Int32 → Int32 × kM
  | 0, ka, b => (b, ka)
  | n + 1, ka, b => if (f_X2_goOneTick ka).1 = 0 then f_X2_step_lp n (f_X2_goOneTick ka).2 b else f_X2_step_lp n (f_X2_goOneTick ka).2 (b + 1)
def f_X2_step (ka : kM) (p0 : Int32) : Nat × Int32 × kM := if (ka 0 7) = 0 then (1, 0, ka) else if p0 < 0 then (2, 0, ka) else if p0 ≤ 5000 then (0, (f_X2_step_lp p0.toNatClampNeg ka 0).1, (f_X2_step_lp p0.toNatClampNeg ka 0).2) else (2, 0, ka)
set_option maxHeartbeats 4000000 in
set_option maxRecDepth 100000 in
theorem w_X2_step (l : Launch) (D : va_G) (A : Nat → Nat) (C : Nat → ClassId) (ka0 mu : kM) (o : Int32) {p : Program} {e : Env} {s : State} {m : MethodId} {args : Array Value} {below : List Frame} {meth : Method} {c : Code} (G : kCtx D A C p s m args c cX2_step 4 RX2) (hr : meth.sig.returnType = some .int) (hlocks : meth.locks = false) (p0 : Int32) (hp0 : p0.toInt ≤ 5000) :
    ∀ (n : Nat) (ka : kM) (t b : Int32) (H : Heap) (locs : List Loc) (ls : Array Slot), 0 ≤ t.toInt → t.toInt + n = p0.toInt → kInv ka → kP D A C ka mu o H → kS A s H locs → lv_has ls 4 [(3, .int t), (2, .int b), (0, .ref (A 0)), (1, .int p0)] → W p l e ({ frames := 7, cells := 1, slots := 6, locals := 161 }) s m args below meth c H locs 0 0 (kYi D A C below args s ka0 mu o 1 6 0 (f_X2_step_lp n ka b).1 (f_X2_step_lp n ka b).2 mu o) (F0 m 42 ls []) := by
  intro n
  induction n with
  | zero =>
    intro ka t b H locs ls hi0 hi1 hI hP hS hl
    refine lv_iload_n G.1 G.2.1 dX2_step_42 rfl (lv_at hl 0 rfl) ?_
    refine lv_iload_n G.1 G.2.1 dX2_step_43 rfl (lv_at hl 3 rfl) ?_
    refine lv_icmp_ge (tgt := 63) G.1 G.2.1 dX2_step_44 (by decide) (fun _ => ?_) (fun c => absurd (by rw [ki_le]; omega) c)
    refine lv_iload_n G.1 G.2.1 dX2_step_63 rfl (lv_at hl 1 rfl) ?_
    refine W.widen (k := 1) (n := 6) (by decide) (by decide) ?_
    exact k_xiret G hr hlocks hP hS rfl (by rw [f_X2_step_lp]) (by rw [f_X2_step_lp]) rfl rfl dX2_step_64
  | succ n ih =>
    intro ka t b H locs ls hi0 hi1 hI hP hS hl
    refine lv_iload_n G.1 G.2.1 dX2_step_42 rfl (lv_at hl 0 rfl) ?_
    refine lv_iload_n G.1 G.2.1 dX2_step_43 rfl (lv_at hl 3 rfl) ?_
    refine lv_icmp_ge (tgt := 63) G.1 G.2.1 dX2_step_44 (by decide) (fun c => absurd c (by rw [ki_le]; omega)) (fun _ => ?_)
    refine lv_aload_n G.1 G.2.1 dX2_step_47 rfl (lv_at hl 2 rfl) ?_
    refine k_Vi (As := []) (rest := []) G hP hS hl.1 kl_X2_101 yk_X2_goOneTick (c_X2_goOneTick l D A C _ _ _ _ G.2.2.2.2.2.2  hI) (kr2 G hP) (by decide) (by decide) rfl (Nat.le_of_ble_eq_true rfl) dX2_step_48 (fun H locs hP hS => ?_)
    refine lv_if_eq (tgt := 57) G.1 G.2.1 dX2_step_51 (by decide) (fun c_51 => ?_) (fun c_51 => ?_)
    · refine lv_iinc (v := t + 1) (lv' := [(3, .int (t + 1)), (2, .int b), (0, .ref (A 0)), (1, .int p0)]) G.1 G.2.1 dX2_step_57 hl (k := 0) rfl rfl (by decide) rfl (fun ls hl => ?_)
      refine lv_goto (tgt := 42) G.1 G.2.1 dX2_step_60 (by decide) ?_
      rw [show f_X2_step_lp (n + 1) ka b = f_X2_step_lp n (f_X2_goOneTick ka).2 b by rw [f_X2_step_lp, if_pos c_51]]
      have hi2 : (t + 1).toInt = t.toInt + 1 := ki_add1 (by omega)
      exact ih _ (t + 1) _ _ _ _ (by omega) (by omega) (inv_tick hI) hP hS (lv_sub hl [0, 1, 2, 3] rfl)
    · refine lv_iinc (v := b + 1) (lv' := [(2, .int (b + 1)), (3, .int t), (0, .ref (A 0)), (1, .int p0)]) G.1 G.2.1 dX2_step_54 hl (k := 1) rfl rfl (by decide) rfl (fun ls hl => ?_)
      refine lv_iinc (v := t + 1) (lv' := [(3, .int (t + 1)), (2, .int (b + 1)), (0, .ref (A 0)), (1, .int p0)]) G.1 G.2.1 dX2_step_57 hl (k := 1) rfl rfl (by decide) rfl (fun ls hl => ?_)
      refine lv_goto (tgt := 42) G.1 G.2.1 dX2_step_60 (by decide) ?_
      rw [show f_X2_step_lp (n + 1) ka b = f_X2_step_lp n (f_X2_goOneTick ka).2 (b + 1) by rw [f_X2_step_lp, if_neg c_51]]
      have hi2 : (t + 1).toInt = t.toInt + 1 := ki_add1 (by omega)
      exact ih _ (t + 1) _ _ _ _ (by omega) (by omega) (inv_tick hI) hP hS (lv_sub hl [0, 1, 2, 3] rfl)
set_option maxHeartbeats 4000000 in
set_option maxRecDepth 100000 in
theorem c_X2_step (l : Launch) (D : va_G) (A : Nat → Nat) (C : Nat → ClassId) (ka mu : kM) (o : Int32) (sz : Nat) (hA : kinj A) (p0 : Int32) (hl0 : l.stackTraces = false) (hI : kInv ka) : kXi l yX2_step (.code yX2_step cX2_step 4 (some .int)) ({ frames := 7, cells := 1, slots := 6, locals := 161 }) D A C ka mu o sz [.ref (A 0), .int p0] ((f_X2_step ka p0).1) ((f_X2_step ka p0).2.1) ((f_X2_step ka p0).2.2) mu o := by
  refine kXi_of hA (by decide) (Nat.le_of_ble_eq_true rfl) (fun p e s m args below meth c G hr hlocks hx hP hS ls hl => ?_)
  have hl : lv_has ls 4 [(0, .ref (A 0)), (1, .int p0)] := hl
  refine lv_aload_n G.1 G.2.1 dX2_step_0 rfl (lv_at hl 0 rfl) ?_
  refine k2_geti G hP 7 (by decide) (by decide) kq_151 rfl dX2_step_1 ?_
  refine lv_if_ne (tgt := 17) G.1 G.2.1 dX2_step_4 (by decide) (fun c_4 => ?_) (fun c_4 => ?_)
  · refine lv_iload_n G.1 G.2.1 dX2_step_17 rfl (lv_at hl 1 rfl) ?_
    refine lv_if_lt (tgt := 28) G.1 G.2.1 dX2_step_18 (by decide) (fun c_18 => ?_) (fun c_18 => ?_)
    · exact k_throw2 (is := 99) (text := "ticks not 0 to 5000") G hl0 hlocks hP hS hl.1 (by decide +kernel) dX2_step_28 dX2_step_31 dX2_step_32 dX2_step_34 dX2_step_37 hx (by decide) (by decide) (by decide) (by decide) (by decide) (by decide) (by rw [f_X2_step, if_neg c_4, if_pos c_18]) rfl rfl rfl
    · refine lv_iload_n G.1 G.2.1 dX2_step_21 rfl (lv_at hl 1 rfl) ?_
      refine lv_sipush (v := 5000) G.1 G.2.1 dX2_step_22 (by decide) ?_
      refine lv_icmp_le (tgt := 38) G.1 G.2.1 dX2_step_25 (by decide) (fun c_25 => ?_) (fun c_25 => ?_)
      · refine lv_iconst (v := 0) G.1 G.2.1 dX2_step_38 (by decide) ?_
        refine lv_istore_n (lv' := [(2, .int 0), (0, .ref (A 0)), (1, .int p0)]) G.1 G.2.1 dX2_step_39 rfl hl (by decide) rfl (fun ls hl => ?_)
        refine lv_iconst (v := 0) G.1 G.2.1 dX2_step_40 (by decide) ?_
        refine lv_istore_n (lv' := [(3, .int 0), (2, .int 0), (0, .ref (A 0)), (1, .int p0)]) G.1 G.2.1 dX2_step_41 rfl hl (by decide) rfl (fun ls hl => ?_)
        obtain ⟨hp1, hp2, hp3⟩ := kstep_in c_18 c_25
        have hf : f_X2_step ka p0 = (0, (f_X2_step_lp p0.toNatClampNeg ka 0).1, (f_X2_step_lp p0.toNatClampNeg ka 0).2) := by rw [f_X2_step, if_neg c_4, if_neg c_18, if_pos c_25]
        rw [hf]
        exact w_X2_step l D A C ka mu o G hr hlocks p0 hp1 p0.toNatClampNeg ka 0 0 _ _ _ (by decide) (by rw [hp2]; rw [show (0 : Int32).toInt = 0 from rfl]; omega) hI hP hS (lv_sub hl [0, 1, 2, 3] rfl)
      · exact k_throw2 (is := 99) (text := "ticks not 0 to 5000") G hl0 hlocks hP hS hl.1 (by decide +kernel) dX2_step_28 dX2_step_31 dX2_step_32 dX2_step_34 dX2_step_37 hx (by decide) (by decide) (by decide) (by decide) (by decide) (by decide) (by rw [f_X2_step, if_neg c_4, if_neg c_18, if_neg c_25]) rfl rfl rfl
  · exact k_throw1 (is := 97) (text := "not sealed") G hl0 hlocks hP hS hl.1 (by decide +kernel) dX2_step_7 dX2_step_10 dX2_step_11 dX2_step_13 dX2_step_16 hx (by decide) (by decide) (by decide) (by decide) (by decide) (by decide) (by rw [f_X2_step, if_pos c_4]) rfl rfl rfl
end
