/-! ===== rows for constructors ===== -/
def df1 : List Value := [.null, .int 0, .int 0, .int 0, .int 0, .int 0, .int 0, .int 0, .int 0, .int 0]
def df1r (r : Nat) : List Value := [.ref r, .int 0, .int 0, .int 0, .int 0, .int 0, .int 0, .int 0, .int 0, .int 0]
def df2 : List Value := [.null, .null, .null, .null, .null, .int 0, .int 0, .int 0, .int 0, .int 0, .int 0, .int 0]
def df3 : List Value := [.int 0, .null, .null, .null, .null, .null, .null, .null, .null, .null, .null, .null, .int 0, .null, .null, .null, .null, .null, .null, .null, .null, .null, .null, .null, .int 0, .int 0, .int 0, .int 0, .int 0, .int 0]
def iz (c : ClassId) (n : Nat) : va_E := .inl (c, n, .inl (fun _ => 0))
section KI
variable {p : Program} {l : Launch} {e : Env} {R : Room} {s : State} {m : MethodId} {args : Array Value} {below : List Frame} {meth : Method} {c : Code} {H : Heap} {locs : List Loc} {cells slots : Nat} {Q : State → Prop}
variable {cc : ByteArray} {pc : Nat} {ls : Array Slot} {rest : List Value} {D : va_G} {C : Nat → ClassId} {A : Nat → Prop} {ws : va_W} {H0 : Heap}
theorem k_newa (hexec : p.tables.exec = Jvm.exec) (hb : c.code = cc) {atype : ArrayType} (harr : (Cond.arrayClass (newarray.typeOf atype)).before args s = true) {ty : FieldType} (hty : newarray.typeOf atype = ty) (hK : va_K D vwCl (kt C) s) (t0 : Nat) {c0 : ClassId} (ht : (kt C)[t0]? = some (c0, ty)) (hP : va_P D vwCl ws H) (hD : va_D A ws) (hS : va_S A H0 H locs) (hA : ∀ q, H0.size ≤ q → A q)
    {n : Int32} {N' : Nat} {a0 : vp_A} (ha : ∀ cA : ClassId, vp_cell cA a0 = arrV cA N' (fun _ => defaultValue ty)) (hn : ¬ n < 0) (hN : n.toNatClampNeg = N') (hbytes : N' * componentBytes ty ≤ 536870912) (hcells : cells + 1 ≤ R.cells) (hslots : slots + N' ≤ R.slots) (hdg : decode cc pc = .ok (.newarray atype, 2))
    (kk : ∀ (q : Nat) (H1 : Heap), va_P D vwCl (ws ++ [(q, .inl (c0, a0))]) H1 → va_D A (ws ++ [(q, .inl (c0, a0))]) → va_S A H0 H1 locs →
      W p l e R s m args below meth c H1 locs (cells + 1) (slots + N') Q (F0 m (pc + 2) ls (.ref q :: rest))) : W p l e R s m args below meth c H locs cells slots Q (F0 m pc ls (.int n :: rest)) := by
  refine va_newa hexec hb harr hty hK hP hD hS hA ha hn hN hbytes hcells hslots hdg (fun q cA H1 hK1 hP1 hD1 hS1 => ?_)
  have h1 := (hK.2 t0 _ ht).2
  have h2 := (hK1.2 5 (cA, ty) rfl).2
  have e : cA = c0 := by
    subst hty
    cases atype <;> exact Option.some.inj (h2.symm.trans h1)
  subst e
  exact kk q H1 hP1 hD1 hS1
theorem k_newq (hexec : p.tables.exec = Jvm.exec) (hb : c.code = cc) {own X : String} {index : Nat} (hown : s.vm.findClass own = some m.cls) (hclink : (Cond.classLink own index X).before args s = true) (hover : va_AO X s) (hK : va_K D vwCl (kt C) s) (t0 : Nat) {c0 : ClassId} (ht : (kt C)[t0]? = some (c0, .object X)) (hP : va_P D vwCl ws H) (hD : va_D A ws) (hS : va_S A H0 H locs) (hA : ∀ q, H0.size ≤ q → A q)
    {n : Int32} {N' : Nat} (hn : ¬ n < 0) (hN : n.toNatClampNeg = N') (hbytes : N' * 4 ≤ 536870912) (hcells : cells + 1 ≤ R.cells) (hslots : slots + N' ≤ R.slots) (hdg : decode cc pc = .ok (.anewarray index, 3))
    (kk : ∀ (q : Nat) (H1 : Heap), va_P D vwCl (ws ++ [(q, .inl (c0, N', .inr (.inr (.inr (.inr (fun _ => none))))))]) H1 → va_D A (ws ++ [(q, .inl (c0, N', .inr (.inr (.inr (.inr (fun _ => none))))))]) → va_S A H0 H1 locs →
      W p l e R s m args below meth c H1 locs (cells + 1) (slots + N') Q (F0 m (pc + 3) ls (.ref q :: rest))) : W p l e R s m args below meth c H locs cells slots Q (F0 m pc ls (.int n :: rest)) := by
  refine va_newq hexec hb hown hclink hover hK hP hD hS hA hn hN hbytes hcells hslots hdg (fun q cA H1 hK1 hP1 hD1 hS1 => ?_)
  obtain ⟨k1, q1, a1, a2, a3, a4⟩ := (hK.2 t0 _ ht).2
  obtain ⟨k2, q2, b1, b2, b3, b4⟩ := (hK1.2 5 (cA, .object X) rfl).2
  have e : cA = c0 := Option.some.inj (b4.symm.trans a4)
  subst e
  exact kk q H1 hP1 hD1 hS1
theorem k_allA (hD : va_D A ws) (hS : va_S A H0 H locs) (hA : ∀ q, H0.size ≤ q → A q) : ∀ q, va_A ws H.size q → A q := by
  rintro q (⟨k, e, h⟩ | h)
  · exact hD.2 k _ h
  · exact hA q (Nat.le_trans hS.1 h)
end KI
def kEnv0 (D : va_G) (C : Nat → ClassId) (U : State) : Prop := va_K D vwCl (kt C) U ∧ va_AO RX1 U ∧ va_AO RX0 U ∧ ∀ w ∈ kNest, va_Nw w U
theorem kEnv0_warm {D : va_G} {C : Nat → ClassId} {s U : State} (hW : s.WarmedH U.vm) (h : kEnv0 D C s) : kEnv0 D C U := ⟨va_K.moved hW.alike h.1, va_AO.moved hW.alike h.2.1, va_AO.moved hW.alike h.2.2.1, kN_warm hW h.2.2.2⟩
def kPre0 (D : va_G) (C : Nat → ClassId) (ws : va_W) (sz : Nat) (av : List Value) : Array Value → State → Prop := va_Pc av (fun U => U.heap.size = sz ∧ va_P D vwCl ws U.heap ∧ va_D (va_A ws sz) ws ∧ kEnv0 D C U)
theorem kPre0_blind {D : va_G} {C : Nat → ClassId} {ws : va_W} {sz : Nat} {av : List Value} : FrameBlind (kPre0 D C ws sz av) := fun a U g mk q => ⟨q.1, q.2.1, q.2.2.1, q.2.2.2.1, va_K.moved (u := U) (U := U.calling g mk a) (Vm.Alike.refl U.vm) q.2.2.2.2.1, va_AO.moved (u := U) (U := U.calling g mk a) (Vm.Alike.refl U.vm) q.2.2.2.2.2.1, va_AO.moved (u := U) (U := U.calling g mk a) (Vm.Alike.refl U.vm) q.2.2.2.2.2.2.1, kN_warm (U := U.calling g mk a) (State.WarmedH.refl U) q.2.2.2.2.2.2.2⟩
theorem kq_55 : Cond.methodLink "PartitionKernel" 1 ⟨"java/lang/Object", "<init>", "()V"⟩ ∈ kAll := kmem 55 (by decide +kernel) (by decide +kernel)
theorem kq_56 : Cond.instanceMethod ⟨"java/lang/Object", "<init>", "()V"⟩ ∈ kAll := kmem 56 (by decide +kernel) (by decide +kernel)
theorem kq_57 : Cond.code ⟨"java/lang/Object", "<init>", "()V"⟩ object_method_1_code 1 (Option.none) ∈ kAll := kmem 57 (by decide +kernel) (by decide +kernel)
theorem kq_58 : Cond.classLink "PartitionKernel" 13 "PartitionKernel$Partition" ∈ kAll := kmem 58 (by decide +kernel) (by decide +kernel)
theorem kq_60 : Cond.instantiable "PartitionKernel$Partition" 10 ∈ kAll := kmem 60 (by decide +kernel) (by decide +kernel)
theorem kq_61 : Cond.methodLinkNest "PartitionKernel" 19 ⟨"PartitionKernel$Partition", "<init>", "()V"⟩ "PartitionKernel" ∈ kNest := knmem 61 (by decide +kernel) (by decide +kernel)
theorem kq_62 : Cond.instanceMethod ⟨"PartitionKernel$Partition", "<init>", "()V"⟩ ∈ kAll := kmem 62 (by decide +kernel) (by decide +kernel)
theorem kq_63 : Cond.code ⟨"PartitionKernel$Partition", "<init>", "()V"⟩ prog_3_method_1_code 1 (Option.none) ∈ kAll := kmem 63 (by decide +kernel) (by decide +kernel)
theorem kq_64 : Cond.methodLink "PartitionKernel$Partition" 3 ⟨"java/lang/Object", "<init>", "()V"⟩ ∈ kAll := kmem 64 (by decide +kernel) (by decide +kernel)
theorem kq_101 : Cond.arrayClass FieldType.int ∈ kAll := kmem 101 (by decide +kernel) (by decide +kernel)
theorem kq_102 : Cond.classLink "PartitionKernel" 20 "PartitionKernel$Channel" ∈ kAll := kmem 102 (by decide +kernel) (by decide +kernel)
theorem kq_104 : Cond.instantiable "PartitionKernel$Channel" 10 ∈ kAll := kmem 104 (by decide +kernel) (by decide +kernel)
theorem kq_105 : Cond.methodLinkNest "PartitionKernel" 26 ⟨"PartitionKernel$Channel", "<init>", "()V"⟩ "PartitionKernel" ∈ kNest := knmem 105 (by decide +kernel) (by decide +kernel)
theorem kq_106 : Cond.instanceMethod ⟨"PartitionKernel$Channel", "<init>", "()V"⟩ ∈ kAll := kmem 106 (by decide +kernel) (by decide +kernel)
theorem kq_107 : Cond.code ⟨"PartitionKernel$Channel", "<init>", "()V"⟩ prog_2_method_1_code 1 (Option.none) ∈ kAll := kmem 107 (by decide +kernel) (by decide +kernel)
theorem kq_108 : Cond.methodLink "PartitionKernel$Channel" 3 ⟨"java/lang/Object", "<init>", "()V"⟩ ∈ kAll := kmem 108 (by decide +kernel) (by decide +kernel)
theorem kq_508 : Cond.methodLink "PartitionKernelModel" 1 ⟨"java/lang/Object", "<init>", "()V"⟩ ∈ kAll := kmem 508 (by decide +kernel) (by decide +kernel)
theorem kq_600 : Cond.arrayClass FieldType.boolean ∈ kAll := kmem 600 (by decide +kernel) (by decide +kernel)
theorem df_X1 : ∀ j, j < 10 → defaultValue (tyX1 j) = vp_V df1 j := by decide +kernel
theorem df_X0 : ∀ j, j < 10 → defaultValue (tyX0 j) = vp_V df1 j := by decide +kernel
