/-! ===== methods that may throw ===== -/
def kEx (k : Nat) : String := if k = 1 then kISE else if k = 2 then kIAE else kIOB
abbrev kXC (D : va_G) (A : Nat → Nat) (C : Nat → ClassId) (ka mu : kM) (o : Int32) (sz k : Nat) : String → State → State → Prop := vx_X (fun (_ : Unit) => True) (fun E _ t => (k ≠ 0 ∧ E = kEx k) ∧ kP D A C ka mu o t.heap) (kA A sz)
def kXi (l : Launch) (y : MethodName) (w : Cond) (rm : Room) (D : va_G) (A : Nat → Nat) (C : Nat → ClassId) (ka mu : kM) (o : Int32) (sz : Nat) (av : List Value) (k : Nat) (r : Int32) (ka' mu' : kM) (o' : Int32) : Prop :=
  vx_Met l y (w :: kAll) rm (kPre D A C ka mu o sz av) (va_Qi (fun (x : Int32) (_ : Unit) => k = 0 ∧ x = r) (fun _ t => kP D A C ka' mu' o' t.heap) (kA A sz)) (kXC D A C ka mu o sz k) rm.cells rm.slots (kA A sz)
def kXv (l : Launch) (y : MethodName) (w : Cond) (rm : Room) (D : va_G) (A : Nat → Nat) (C : Nat → ClassId) (ka mu : kM) (o : Int32) (sz : Nat) (av : List Value) (k : Nat) (ka' mu' : kM) (o' : Int32) : Prop :=
  vx_Met l y (w :: kAll) rm (kPre D A C ka mu o sz av) (va_Qv (fun (_ : Unit) => k = 0) (fun _ t => kP D A C ka' mu' o' t.heap) (kA A sz)) (kXC D A C ka mu o sz k) rm.cells rm.slots (kA A sz)
abbrev kYi (D : va_G) (A : Nat → Nat) (C : Nat → ClassId) (below : List Frame) (args : Array Value) (s : State) (ka mu : kM) (o : Int32) (mc ms k : Nat) (r : Int32) (ka' mu' : kM) (o' : Int32) : State → Prop :=
  vx_MQ below (va_Qi (fun (x : Int32) (_ : Unit) => k = 0 ∧ x = r) (fun _ t => kP D A C ka' mu' o' t.heap) (kA A s.heap.size)) (kXC D A C ka mu o s.heap.size k) args s mc ms (kA A s.heap.size)
abbrev kYv (D : va_G) (A : Nat → Nat) (C : Nat → ClassId) (below : List Frame) (args : Array Value) (s : State) (ka mu : kM) (o : Int32) (mc ms k : Nat) (ka' mu' : kM) (o' : Int32) : State → Prop :=
  vx_MQ below (va_Qv (fun (_ : Unit) => k = 0) (fun _ t => kP D A C ka' mu' o' t.heap) (kA A s.heap.size)) (kXC D A C ka mu o s.heap.size k) args s mc ms (kA A s.heap.size)
theorem kN_use {args : Array Value} {s : State} (h : ∀ w ∈ kNest, va_Nw w s) : ∀ w ∈ kNest, w.before args s = true := by
  intro w hw
  have h1 := h w hw
  have h2 := (List.mem_filter.mp hw).2
  cases w with
  | fieldLinkNest a i b n d x => exact va_Nw.use rfl h1
  | methodLinkNest a i y x => exact va_Nw.use rfl h1
  | castable a b => exact va_Nw.use rfl h1
  | declares x => exact va_Nw.use rfl h1
  | _ => exact absurd h2 (by simp [kisN])
def kNames : List String := ["java/lang/RuntimeException", "java/lang/Exception"]
theorem kat1 : ∀ w ∈ (vx_atS RX2 93 kISE kNames).filter goodWord, w ∈ kAll := by decide +kernel
theorem kat2 : ∀ w ∈ (vx_atS RX2 44 kIAE kNames).filter goodWord, w ∈ kAll := by decide +kernel
theorem kat3 : ∀ w ∈ (vx_atS RX2 145 kIOB kNames).filter goodWord, w ∈ kAll := by decide +kernel
theorem kau1 : ∀ w ∈ (vx_atS RX2 93 kISE kNames).filter (fun w => !goodWord w), w ∈ kNest := by decide +kernel
theorem kau2 : ∀ w ∈ (vx_atS RX2 44 kIAE kNames).filter (fun w => !goodWord w), w ∈ kNest := by decide +kernel
theorem kau3 : ∀ w ∈ (vx_atS RX2 145 kIOB kNames).filter (fun w => !goodWord w), w ∈ kNest := by decide +kernel
theorem kav1 : ∀ w ∈ Cond.classLink RX2 89 kISE :: Cond.initialized kISE :: vx_atS RX2 93 kISE kNames, vx_ot w = true := by decide +kernel
theorem kav2 : ∀ w ∈ Cond.classLink RX2 40 kIAE :: Cond.initialized kIAE :: vx_atS RX2 44 kIAE kNames, vx_ot w = true := by decide +kernel
theorem kav3 : ∀ w ∈ Cond.classLink RX2 141 kIOB :: Cond.initialized kIOB :: vx_atS RX2 145 kIOB kNames, vx_ot w = true := by decide +kernel
theorem kaw1 : Cond.classLink RX2 89 kISE ∈ kAll ∧ Cond.initialized kISE ∈ kAll := ⟨by decide +kernel, by decide +kernel⟩
theorem kaw2 : Cond.classLink RX2 40 kIAE ∈ kAll ∧ Cond.initialized kIAE ∈ kAll := ⟨by decide +kernel, by decide +kernel⟩
theorem kaw3 : Cond.classLink RX2 141 kIOB ∈ kAll ∧ Cond.initialized kIOB ∈ kAll := ⟨by decide +kernel, by decide +kernel⟩
theorem kP_kept {D : va_G} {A : Nat → Nat} {C : Nat → ClassId} {ka mu : kM} {o : Int32} {H H1 : Heap} (hP : kP D A C ka mu o H) (h : ∀ q : Nat, q < H.size → H1[q]? = H[q]?) : kP D A C ka mu o H1 := va_P.kept hP (fun k x hx => h x.1 (hP k x hx).lt)
section KX
variable {p : Program} {l : Launch} {e : Env} {R : Room} {s : State} {m : MethodId} {args : Array Value} {below : List Frame} {meth : Method} {c : Code} {H : Heap} {locs : List Loc} {cells slots : Nat}
variable {cc : ByteArray} {nL pc : Nat} {ls : Array Slot} {rest st0 : List Value} {D : va_G} {A : Nat → Nat} {C : Nat → ClassId} {ka mu : kM} {o : Int32} {own : String} {index mc ms : Nat}
theorem kXi_of {y : MethodName} {nL : Nat} {ret : Option FieldType} {rm : Room} {sz : Nat} {av : List Value} {k : Nat} {r : Int32} {ka' mu' : kM} {o' : Int32} (hA : kinj A) (hy : plainName y.cls = true) (hc : (lg_sl av).length ≤ nL)
    (body : ∀ (p : Program) (e : Env) (s : State) (m : MethodId) (args : Array Value) (below : List Frame) (meth : Method) (c : Code), kCtx D A C p s m args c cc nL y.cls → meth.sig.returnType = ret → meth.locks = false → (∀ x ∈ c.exceptionTable.toList, False) → kP D A C ka mu o s.heap → kS A s s.heap [] → ∀ ls : Array Slot, lv_has ls nL (lv_args 0 av) →
      W p l e rm s m args below meth c s.heap [] 0 0 (kYi D A C below args s ka mu o rm.cells rm.slots k r ka' mu' o') (F0 m 0 ls [])) : kXi l y (.code y cc nL ret) rm D A C ka mu o sz av k r ka' mu' o' := by
  refine vx_ofW (cc := cc) (maxL := nL) (ret := ret) hy rfl ?_
  intro p e s m args below meth c s₁ B hml hx hv
  obtain ⟨rfl, rfl, hP, hE⟩ := hv
  have hts := atoms_spec (ws := Cond.code y cc nL ret :: kAll) B.pre
  have hl := lv_entry av (n := nL) hc
  rw [lg_entry_eq]
  generalize (lg_sl av ++ List.replicate (nL - (lg_sl av).length) Slot.unset).toArray = ls at hl ⊢
  exact body p e s m _ below meth c ⟨B.exec, B.bytes, hml, findClass_of_methodNamed B.named, fun w hw => hts w (List.mem_cons_of_mem _ hw), hE, hA⟩ B.returns B.notSynchronized hx hP va_S.rf ls hl
theorem kXv_of {y : MethodName} {nL : Nat} {rm : Room} {sz : Nat} {av : List Value} {k : Nat} {ka' mu' : kM} {o' : Int32} (hA : kinj A) (hy : plainName y.cls = true) (hc : (lg_sl av).length ≤ nL)
    (body : ∀ (p : Program) (e : Env) (s : State) (m : MethodId) (args : Array Value) (below : List Frame) (meth : Method) (c : Code), kCtx D A C p s m args c cc nL y.cls → meth.sig.returnType = none → meth.locks = false → (∀ x ∈ c.exceptionTable.toList, False) → kP D A C ka mu o s.heap → kS A s s.heap [] → ∀ ls : Array Slot, lv_has ls nL (lv_args 0 av) →
      W p l e rm s m args below meth c s.heap [] 0 0 (kYv D A C below args s ka mu o rm.cells rm.slots k ka' mu' o') (F0 m 0 ls [])) : kXv l y (.code y cc nL none) rm D A C ka mu o sz av k ka' mu' o' := by
  refine vx_ofW (cc := cc) (maxL := nL) (ret := none) hy rfl ?_
  intro p e s m args below meth c s₁ B hml hx hv
  obtain ⟨rfl, rfl, hP, hE⟩ := hv
  have hts := atoms_spec (ws := Cond.code y cc nL none :: kAll) B.pre
  have hl := lv_entry av (n := nL) hc
  rw [lg_entry_eq]
  generalize (lg_sl av ++ List.replicate (nL - (lg_sl av).length) Slot.unset).toArray = ls at hl ⊢
  exact body p e s m _ below meth c ⟨B.exec, B.bytes, hml, findClass_of_methodNamed B.named, fun w hw => hts w (List.mem_cons_of_mem _ hw), hE, hA⟩ B.returns B.notSynchronized hx hP va_S.rf ls hl
theorem k_xiret {k : Nat} {r v : Int32} {k1 m1 ka' mu' : kM} {o1 o' : Int32} (G : kCtx D A C p s m args c cc nL own) (hr : meth.sig.returnType = some .int) (hlocks : meth.locks = false) (hP : kP D A C k1 m1 o1 H) (hS : kS A s H locs) (hk : k = 0) (hv : v = r) (h1 : k1 = ka') (h2 : m1 = mu') (h3 : o1 = o') (hdg : decode cc pc = .ok (.ireturn, 1)) :
    W p l e R s m args below meth c H locs cells slots (kYi D A C below args s ka mu o cells slots k r ka' mu' o') (F0 m pc ls [.int v]) := by
  subst hv; subst h1; subst h2; subst h3
  exact vx_ret (W.iret G.1 G.2.1 hr (fun t ht hW => ⟨⟨v, (), rfl, ⟨hk, rfl⟩, by show kP _ _ _ _ _ _ t.heap; rw [ht]; exact hP⟩, hS.F ht⟩) hS.2.2 hdg hlocks)
theorem k_xvret {k : Nat} {k1 m1 ka' mu' : kM} {o1 o' : Int32} (G : kCtx D A C p s m args c cc nL own) (hr : meth.sig.returnType = none) (hlocks : meth.locks = false) (hP : kP D A C k1 m1 o1 H) (hS : kS A s H locs) (hk : k = 0) (h1 : k1 = ka') (h2 : m1 = mu') (h3 : o1 = o') (hdg : decode cc pc = .ok (.return_, 1)) :
    W p l e R s m args below meth c H locs cells slots (kYv D A C below args s ka mu o cells slots k ka' mu' o') (F0 m pc ls []) := by
  subst h1; subst h2; subst h3
  exact vx_ret (W.vret G.1 G.2.1 hr (fun t ht hW => ⟨⟨(), rfl, hk, by show kP _ _ _ _ _ _ t.heap; rw [ht]; exact hP⟩, hS.F ht⟩) hS.2.2 hdg hlocks)
theorem k_throw1 {is k : Nat} {text : String} {k1 m1 : kM} {o1 : Int32} {Qc : Array Value → State → Outcome → State → Prop} (G : kCtx D A C p s m args c cc nL RX2) (hl0 : l.stackTraces = false) (hlocks : meth.locks = false) (hP : kP D A C k1 m1 o1 H) (hS : kS A s H locs) (hsz : ls.size = nL) (hstr : (is, text) ∈ kStr)
    (d0 : decode cc pc = .ok (.new 89, 3)) (d3 : decode cc (pc + 3) = .ok (.dup, 1)) (d4 : decode cc (pc + 4) = .ok (.ldc is, 2)) (d6 : decode cc (pc + 6) = .ok (.invokespecial 93, 3)) (d9 : decode cc (pc + 9) = .ok (.athrow, 1)) (hx : ∀ x ∈ c.exceptionTable.toList, False)
    (hRf : 5 < R.frames) (hRl : (rest.map fun v => v.category).sum + 82 ≤ R.locals) (hRc : cells + 1 ≤ R.cells) (hRs : slots + 6 ≤ R.slots) (hc : cells + 1 ≤ mc) (hs : slots + 6 ≤ ms) (hk : k = 1) (e1 : k1 = ka) (e2 : m1 = mu) (e3 : o1 = o) :
    W p l e R s m args below meth c H locs cells slots (vx_MQ below Qc (kXC D A C ka mu o s.heap.size k) args s mc ms (kA A s.heap.size)) (F0 m pc ls rest) := by
  subst e1; subst e2; subst e3; subst hk
  have hT := G.2.2.2.2.2.1.2.2
  obtain ⟨sa, hsa⟩ := hT.2.2.1 _ hstr
  refine vx_throwS (own := RX2) (cls := kISE) (names := kNames) (ik := 89) (ic := 93) (sa := sa) (text := text) (A := kA A s.heap.size) G.1 G.2.1 hl0 G.2.2.2.1 (by decide) (by decide) (G.2.2.2.2.1 _ kaw1.1) (G.2.2.2.2.1 _ kaw1.2) hsa (vx_hat (fun w hw => G.2.2.2.2.1 w (kat1 w hw)) kau1 (kN_use G.2.2.2.2.2.1.2.1)) kav1 hT.1 hT.2.1 hS (hsz.trans G.2.2.1.symm) d0 d3 d4 d6 d9 (fun x h => (hx x h).elim) hRf hRl hRc hRs hlocks (fun t _ hz ht => ⟨(), trivial, ⟨⟨by decide, rfl⟩, kP_kept hP ht⟩, Nat.le_trans hS.1 hz, fun q h1 h2 => (ht q (Nat.lt_of_lt_of_le h1 hS.1)).trans (hS.2.1 q h1 h2)⟩) hS.2.2 hc hs
theorem k_throw2 {is k : Nat} {text : String} {k1 m1 : kM} {o1 : Int32} {Qc : Array Value → State → Outcome → State → Prop} (G : kCtx D A C p s m args c cc nL RX2) (hl0 : l.stackTraces = false) (hlocks : meth.locks = false) (hP : kP D A C k1 m1 o1 H) (hS : kS A s H locs) (hsz : ls.size = nL) (hstr : (is, text) ∈ kStr)
    (d0 : decode cc pc = .ok (.new 40, 3)) (d3 : decode cc (pc + 3) = .ok (.dup, 1)) (d4 : decode cc (pc + 4) = .ok (.ldc is, 2)) (d6 : decode cc (pc + 6) = .ok (.invokespecial 44, 3)) (d9 : decode cc (pc + 9) = .ok (.athrow, 1)) (hx : ∀ x ∈ c.exceptionTable.toList, False)
    (hRf : 5 < R.frames) (hRl : (rest.map fun v => v.category).sum + 82 ≤ R.locals) (hRc : cells + 1 ≤ R.cells) (hRs : slots + 6 ≤ R.slots) (hc : cells + 1 ≤ mc) (hs : slots + 6 ≤ ms) (hk : k = 2) (e1 : k1 = ka) (e2 : m1 = mu) (e3 : o1 = o) :
    W p l e R s m args below meth c H locs cells slots (vx_MQ below Qc (kXC D A C ka mu o s.heap.size k) args s mc ms (kA A s.heap.size)) (F0 m pc ls rest) := by
  subst e1; subst e2; subst e3; subst hk
  have hT := G.2.2.2.2.2.1.2.2
  obtain ⟨sa, hsa⟩ := hT.2.2.1 _ hstr
  refine vx_throwS (own := RX2) (cls := kIAE) (names := kNames) (ik := 40) (ic := 44) (sa := sa) (text := text) (A := kA A s.heap.size) G.1 G.2.1 hl0 G.2.2.2.1 (by decide) (by decide) (G.2.2.2.2.1 _ kaw2.1) (G.2.2.2.2.1 _ kaw2.2) hsa (vx_hat (fun w hw => G.2.2.2.2.1 w (kat2 w hw)) kau2 (kN_use G.2.2.2.2.2.1.2.1)) kav2 hT.1 hT.2.1 hS (hsz.trans G.2.2.1.symm) d0 d3 d4 d6 d9 (fun x h => (hx x h).elim) hRf hRl hRc hRs hlocks (fun t _ hz ht => ⟨(), trivial, ⟨⟨by decide, rfl⟩, kP_kept hP ht⟩, Nat.le_trans hS.1 hz, fun q h1 h2 => (ht q (Nat.lt_of_lt_of_le h1 hS.1)).trans (hS.2.1 q h1 h2)⟩) hS.2.2 hc hs
theorem k_throw3 {is k : Nat} {text : String} {k1 m1 : kM} {o1 : Int32} {Qc : Array Value → State → Outcome → State → Prop} (G : kCtx D A C p s m args c cc nL RX2) (hl0 : l.stackTraces = false) (hlocks : meth.locks = false) (hP : kP D A C k1 m1 o1 H) (hS : kS A s H locs) (hsz : ls.size = nL) (hstr : (is, text) ∈ kStr)
    (d0 : decode cc pc = .ok (.new 141, 3)) (d3 : decode cc (pc + 3) = .ok (.dup, 1)) (d4 : decode cc (pc + 4) = .ok (.ldc is, 2)) (d6 : decode cc (pc + 6) = .ok (.invokespecial 145, 3)) (d9 : decode cc (pc + 9) = .ok (.athrow, 1)) (hx : ∀ x ∈ c.exceptionTable.toList, False)
    (hRf : 5 < R.frames) (hRl : (rest.map fun v => v.category).sum + 82 ≤ R.locals) (hRc : cells + 1 ≤ R.cells) (hRs : slots + 6 ≤ R.slots) (hc : cells + 1 ≤ mc) (hs : slots + 6 ≤ ms) (hk : k = 3) (e1 : k1 = ka) (e2 : m1 = mu) (e3 : o1 = o) :
    W p l e R s m args below meth c H locs cells slots (vx_MQ below Qc (kXC D A C ka mu o s.heap.size k) args s mc ms (kA A s.heap.size)) (F0 m pc ls rest) := by
  subst e1; subst e2; subst e3; subst hk
  have hT := G.2.2.2.2.2.1.2.2
  obtain ⟨sa, hsa⟩ := hT.2.2.1 _ hstr
  refine vx_throwS (own := RX2) (cls := kIOB) (names := kNames) (ik := 141) (ic := 145) (sa := sa) (text := text) (A := kA A s.heap.size) G.1 G.2.1 hl0 G.2.2.2.1 (by decide) (by decide) (G.2.2.2.2.1 _ kaw3.1) (G.2.2.2.2.1 _ kaw3.2) hsa (vx_hat (fun w hw => G.2.2.2.2.1 w (kat3 w hw)) kau3 (kN_use G.2.2.2.2.2.1.2.1)) kav3 hT.1 hT.2.1 hS (hsz.trans G.2.2.1.symm) d0 d3 d4 d6 d9 (fun x h => (hx x h).elim) hRf hRl hRc hRs hlocks (fun t _ hz ht => ⟨(), trivial, ⟨⟨by decide, rfl⟩, kP_kept hP ht⟩, Nat.le_trans hS.1 hz, fun q h1 h2 => (ht q (Nat.lt_of_lt_of_le h1 hS.1)).trans (hS.2.1 q h1 h2)⟩) hS.2.2 hc hs
variable {y : MethodName} {b : ByteArray} {n : Nat} {ret : Option FieldType} {rm : Room} {b0 : Nat} {As : List Value} {r : Int32} {ka' mu' : kM} {o' : Int32} {k kc : Nat} {ka0 mu0 : kM} {o0 : Int32} {Qc : Array Value → State → Outcome → State → Prop}
theorem k_runX {Qd : Array Value → State → Outcome → State → Prop} {XC : String → State → State → Prop} (G : kCtx D A C p s m args c cc nL own) (hP : kP D A C ka mu o H) (hS : kS A s H locs) (hsz : ls.size = nL) (hL : kLV own index y (.code y b n ret)) (hy : kYok y As.length)
    (hM : vx_Met l y (.code y b n ret :: kAll) rm (kPre D A C ka mu o H.size (.ref b0 :: As)) Qd XC rm.cells rm.slots (kA A H.size))
    (hrv : ∃ cell : Cell, H[b0]? = some cell ∧ cell.vm.isStatics = false ∧ s.vm.findClass y.cls = some cell.cls) (hR : rm.frames + 1 ≤ R.frames ∧ 8 + (n + 11) + rm.locals ≤ R.locals) (hf : cells + rm.cells ≤ R.cells ∧ slots + rm.slots ≤ R.slots)
    (hst : st0 = As.reverse ++ .ref b0 :: rest) (hW : (rest.map fun v => v.category).sum ≤ 8) (hdg : decode cc pc = .ok (.invokevirtual index, 3)) : vx_Run p l e R s m args below meth c H locs cells slots rm.cells rm.slots (F0 m pc ls st0) rest (Qd (Value.ref b0 :: As).toArray) XC (kA A H.size) :=
  vx_runV (As := As) (rest := rest) ⟨G.1, G.2.1, G.2.2.1, G.2.2.2.1, G.2.2.2.2.1⟩ hM (cwV As.length G.2.2.2.2.1 (kgoodV (fun _ h => h) hL.1 hL.2.1 hL.2.2.1 hL.2.2.2.1 hL.2.2.2.2) rfl rfl rfl ⟨rfl, hy⟩ hR) ⟨kPre_blind, hrv, kpre G hP hS _⟩ rfl rfl hsz hst (lv_room hW) hdg hf
theorem k_XVi (G : kCtx D A C p s m args c cc nL own) (hP : kP D A C ka mu o H) (hS : kS A s H locs) (hsz : ls.size = nL) (hL : kLV own index y (.code y b n ret)) (hy : kYok y As.length) (hM : kXi l y (.code y b n ret) rm D A C ka mu o H.size (.ref b0 :: As) k r ka' mu' o')
    (hrv : ∃ cell : Cell, H[b0]? = some cell ∧ cell.vm.isStatics = false ∧ s.vm.findClass y.cls = some cell.cls) (hR : rm.frames + 1 ≤ R.frames ∧ 8 + (n + 11) + rm.locals ≤ R.locals) (hf : cells + rm.cells ≤ R.cells ∧ slots + rm.slots ≤ R.slots) (hmc : cells + rm.cells ≤ mc ∧ slots + rm.slots ≤ ms) (hst : st0 = As.reverse ++ .ref b0 :: rest) (hW : (rest.map fun v => v.category).sum ≤ 8) (hx : ∀ x ∈ c.exceptionTable.toList, False) (hlocks : meth.locks = false) (hdg : decode cc pc = .ok (.invokevirtual index, 3))
    (hth : ¬ k = 0 → kc = k ∧ ka = ka0 ∧ mu = mu0 ∧ o = o0)
    (kk : k = 0 → ∀ (H1 : Heap) (locs1 : List Loc), kP D A C ka' mu' o' H1 → kS A s H1 locs1 → W p l e R s m args below meth c H1 locs1 (cells + rm.cells) (slots + rm.slots) (vx_MQ below Qc (kXC D A C ka0 mu0 o0 s.heap.size kc) args s mc ms (kA A s.heap.size)) (F0 m (pc + 3) ls (.int r :: rest))) :
    W p l e R s m args below meth c H locs cells slots (vx_MQ below Qc (kXC D A C ka0 mu0 o0 s.heap.size kc) args s mc ms (kA A s.heap.size)) (F0 m pc ls st0) := by
  refine vx_calli (k_runX G hP hS hsz hL hy hM hrv hR hf hst hW hdg) hS (fun q _ h => kA_mono hS.1 q h) (fun q h => kA_mono hS.1 q h) (fun q _ h => kA_mono hS.1 q h) (fun E ce q9 u t H1 locs1 ht _ _ hB _ _ hS1 hce hcv hcl => ?_) (fun x _ t H1 locs1 ht _ hx2 hB _ _ hS1 => ?_)
  · obtain ⟨⟨hk, hE⟩, hPt⟩ := hB
    obtain ⟨rfl, rfl, rfl, rfl⟩ := hth hk
    exact vx_out (fun x h => (hx x h).elim) hlocks hce hcv hcl (fun t2 ht2 _ => ⟨(), trivial, ⟨⟨hk, hE⟩, by rw [ht2, ← ht]; exact hPt⟩, hS1.F ht2⟩) hS1.2.2 hmc.1 hmc.2
  · obtain ⟨hk, rfl⟩ := hx2
    exact kk hk H1 locs1 (by rw [← ht]; exact hB) hS1
theorem k_XVv (G : kCtx D A C p s m args c cc nL own) (hP : kP D A C ka mu o H) (hS : kS A s H locs) (hsz : ls.size = nL) (hL : kLV own index y (.code y b n none)) (hy : kYok y As.length) (hM : kXv l y (.code y b n none) rm D A C ka mu o H.size (.ref b0 :: As) k ka' mu' o')
    (hrv : ∃ cell : Cell, H[b0]? = some cell ∧ cell.vm.isStatics = false ∧ s.vm.findClass y.cls = some cell.cls) (hR : rm.frames + 1 ≤ R.frames ∧ 8 + (n + 11) + rm.locals ≤ R.locals) (hf : cells + rm.cells ≤ R.cells ∧ slots + rm.slots ≤ R.slots) (hmc : cells + rm.cells ≤ mc ∧ slots + rm.slots ≤ ms) (hst : st0 = As.reverse ++ .ref b0 :: rest) (hW : (rest.map fun v => v.category).sum ≤ 8) (hx : ∀ x ∈ c.exceptionTable.toList, False) (hlocks : meth.locks = false) (hdg : decode cc pc = .ok (.invokevirtual index, 3))
    (hth : ¬ k = 0 → kc = k ∧ ka = ka0 ∧ mu = mu0 ∧ o = o0)
    (kk : k = 0 → ∀ (H1 : Heap) (locs1 : List Loc), kP D A C ka' mu' o' H1 → kS A s H1 locs1 → W p l e R s m args below meth c H1 locs1 (cells + rm.cells) (slots + rm.slots) (vx_MQ below Qc (kXC D A C ka0 mu0 o0 s.heap.size kc) args s mc ms (kA A s.heap.size)) (F0 m (pc + 3) ls rest)) :
    W p l e R s m args below meth c H locs cells slots (vx_MQ below Qc (kXC D A C ka0 mu0 o0 s.heap.size kc) args s mc ms (kA A s.heap.size)) (F0 m pc ls st0) := by
  refine vx_callv (k_runX G hP hS hsz hL hy hM hrv hR hf hst hW hdg) hS (fun q _ h => kA_mono hS.1 q h) (fun q h => kA_mono hS.1 q h) (fun q _ h => kA_mono hS.1 q h) (fun E ce q9 u t H1 locs1 ht _ _ hB _ _ hS1 hce hcv hcl => ?_) (fun _ t H1 locs1 ht _ hx2 hB _ _ hS1 => ?_)
  · obtain ⟨⟨hk, hE⟩, hPt⟩ := hB
    obtain ⟨rfl, rfl, rfl, rfl⟩ := hth hk
    exact vx_out (fun x h => (hx x h).elim) hlocks hce hcv hcl (fun t2 ht2 _ => ⟨(), trivial, ⟨⟨hk, hE⟩, by rw [ht2, ← ht]; exact hPt⟩, hS1.F ht2⟩) hS1.2.2 hmc.1 hmc.2
  · exact kk hx2 H1 locs1 (by rw [← ht]; exact hB) hS1
end KX
