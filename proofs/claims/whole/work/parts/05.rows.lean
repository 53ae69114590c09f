/-! ===== what holds all through a method's walk ===== -/
def kisN (w : Cond) : Bool := match w with | .fieldLinkNest .. => true | .methodLinkNest .. => true | .castable .. => true | .declares .. => true | _ => false
def kNest : List Cond := lw_tbl.filter kisN
theorem knmem {w : Cond} (i : Nat) (h : lw_tbl[i]? = some w) (g : kisN w = true) : w ∈ kNest := List.mem_filter.mpr ⟨List.mem_of_getElem? h, g⟩
theorem kN_warm {s U : State} (hW : s.WarmedH U.vm) (h : ∀ w ∈ kNest, va_Nw w s) : ∀ w ∈ kNest, va_Nw w U := by
  intro w hw
  have h1 := h w hw
  have h2 := (List.mem_filter.mp hw).2
  cases w with
  | fieldLinkNest a i b n d x => exact va_Nw.warmF hW h1
  | methodLinkNest a i y x => exact va_Nw.warmM hW h1
  | castable a b => exact va_Nw.warmC hW h1
  | declares x => exact va_Nw.warmD hW h1
  | _ => exact absurd h2 (by simp [kisN])
def kStr : List (Nat × String) := [(132, "sealed"), (42, "no such partition, or told already"), (54, "region not in memory, or not free"), (56, "entry not in the region, or restarts not 0 to 100"), (133, "partition not told"), (70, "ticks not 1 to 100, or the frame is full"), (78, "no such channel, or told already"), (80, "a channel to itself, or room not 0 to 8"), (143, "no such word"), (91, "no window"), (97, "not sealed"), (99, "ticks not 0 to 5000"), (104, "no such partition, or nothing to tell"), (114, "no such channel, or nothing to tell"), (121, "no such channel")]
def kISE : String := "java/lang/IllegalStateException"
def kIAE : String := "java/lang/IllegalArgumentException"
def kIOB : String := "java/lang/IndexOutOfBoundsException"
/-- what throws and catches need: Throwable's two statics, the texts, classes that aren't castable -/
def kThr (A : Nat → Prop) (U : State) (H : Heap) : Prop := vx_Zq Bundle.tN "UNASSIGNED_STACK" Bundle.steD A U H ∧ vx_Zq Bundle.tN "SUPPRESSED_SENTINEL" Bundle.listD A U H ∧ (∀ q ∈ kStr, ∃ sa : Nat, vk_R RX2 q.1 q.2 sa U) ∧ va_Nc kIAE kISE U ∧ va_Nc kIOB kISE U ∧ va_Nc kIOB kIAE U
theorem kThr_go {A B : Nat → Prop} {s U : State} {H1 H2 : Heap} (h : kThr A s H1) (hW : s.WarmedH U.vm) (hk : ∀ q, q < H1.size → ¬ A q → H2[q]? = H1[q]?) (hn : ∀ q, B q → A q) : kThr B U H2 :=
  ⟨((vx_Zq.moved hW.alike h.1).kept hk).narrow hn, ((vx_Zq.moved hW.alike h.2.1).kept hk).narrow hn, fun q hq => (h.2.2.1 q hq).elim (fun sa g => ⟨sa, vk_R.warm hW g⟩), va_Nc.moved hW.alike h.2.2.2.1, va_Nc.moved hW.alike h.2.2.2.2.1, va_Nc.moved hW.alike h.2.2.2.2.2⟩
/-- the tables, seen from U with heap H -/
def kE (D : va_G) (C : Nat → ClassId) (A : Nat → Nat) (sz : Nat) (U : State) (H : Heap) : Prop := va_K D vwCl (kt C) U ∧ (∀ w ∈ kNest, va_Nw w U) ∧ kThr (kA A sz) U H
theorem kE_go {D : va_G} {C : Nat → ClassId} {A : Nat → Nat} {s U : State} {H : Heap} {locs : List Loc} (h : kE D C A s.heap.size s s.heap) (hS : va_S (kA A s.heap.size) s.heap H locs) (hU : U.heap = H) (hW : s.WarmedH U.vm) : kE D C A H.size U U.heap :=
  ⟨va_K.moved hW.alike h.1, kN_warm hW h.2.1, kThr_go h.2.2 hW (fun q h1 h2 => by rw [hU]; exact hS.2.1 q h1 h2) (fun q hq => kA_mono hS.1 q hq)⟩
theorem kE_blind {D : va_G} {C : Nat → ClassId} {A : Nat → Nat} {sz : Nat} {U : State} {g : JFrame} {mk : MethodId} {a : Array Value} (h : kE D C A sz U U.heap) : kE D C A sz (U.calling g mk a) (U.calling g mk a).heap :=
  ⟨va_K.moved (u := U) (U := U.calling g mk a) (Vm.Alike.refl U.vm) h.1, kN_warm (State.WarmedH.refl U) h.2.1, kThr_go h.2.2 (State.WarmedH.refl U) (fun _ _ _ => rfl) (fun _ h => h)⟩
def kCtx (D : va_G) (A : Nat → Nat) (C : Nat → ClassId) (p : Program) (s : State) (m : MethodId) (args : Array Value) (c : Code) (cc : ByteArray) (nL : Nat) (own : String) : Prop :=
  p.tables.exec = Jvm.exec ∧ c.code = cc ∧ c.maxLocals = nL ∧ s.vm.findClass own = some m.cls ∧ (∀ w ∈ kAll, w.before args s = true) ∧ kE D C A s.heap.size s s.heap ∧ kinj A
abbrev kS (A : Nat → Nat) (s : State) (H : Heap) (locs : List Loc) : Prop := va_S (kA A s.heap.size) s.heap H locs
def kPre (D : va_G) (A : Nat → Nat) (C : Nat → ClassId) (ka mu : kM) (o : Int32) (sz : Nat) (av : List Value) : Array Value → State → Prop := va_Pc av (fun U => U.heap.size = sz ∧ kP D A C ka mu o U.heap ∧ kE D C A sz U U.heap)
theorem kPre_blind {D : va_G} {A : Nat → Nat} {C : Nat → ClassId} {ka mu : kM} {o : Int32} {sz : Nat} {av : List Value} : FrameBlind (kPre D A C ka mu o sz av) := fun a U g mk q => ⟨q.1, q.2.1, q.2.2.1, kE_blind q.2.2.2⟩
/-- a method that answers the int r, and leaves ka' mu' o' -/
def kMi (l : Launch) (y : MethodName) (w : Cond) (rm : Room) (D : va_G) (A : Nat → Nat) (C : Nat → ClassId) (ka mu : kM) (o : Int32) (sz : Nat) (av : List Value) (r : Int32) (ka' mu' : kM) (o' : Int32) : Prop :=
  Met l y (w :: kAll) rm (kPre D A C ka mu o sz av) (va_Qi (fun (x : Int32) (_ : Unit) => x = r) (fun _ t => kP D A C ka' mu' o' t.heap) (kA A sz)) rm.cells rm.slots (kA A sz)
def kMv (l : Launch) (y : MethodName) (w : Cond) (rm : Room) (D : va_G) (A : Nat → Nat) (C : Nat → ClassId) (ka mu : kM) (o : Int32) (sz : Nat) (av : List Value) (ka' mu' : kM) (o' : Int32) : Prop :=
  Met l y (w :: kAll) rm (kPre D A C ka mu o sz av) (va_Qv (fun (_ : Unit) => True) (fun _ t => kP D A C ka' mu' o' t.heap) (kA A sz)) rm.cells rm.slots (kA A sz)
abbrev kZi (D : va_G) (A : Nat → Nat) (C : Nat → ClassId) (below : List Frame) (args : Array Value) (s : State) (mc ms : Nat) (r : Int32) (ka' mu' : kM) (o' : Int32) : State → Prop :=
  MQ below (va_Qi (fun (x : Int32) (_ : Unit) => x = r) (fun _ t => kP D A C ka' mu' o' t.heap) (kA A s.heap.size)) args s mc ms (kA A s.heap.size)
abbrev kZv (D : va_G) (A : Nat → Nat) (C : Nat → ClassId) (below : List Frame) (args : Array Value) (s : State) (mc ms : Nat) (ka' mu' : kM) (o' : Int32) : State → Prop :=
  MQ below (va_Qv (fun (_ : Unit) => True) (fun _ t => kP D A C ka' mu' o' t.heap) (kA A s.heap.size)) args s mc ms (kA A s.heap.size)
section KR
variable {p : Program} {l : Launch} {e : Env} {R : Room} {s : State} {m : MethodId} {args : Array Value} {below : List Frame} {meth : Method} {c : Code} {H : Heap} {locs : List Loc} {cells slots : Nat} {Q : State → Prop}
variable {cc : ByteArray} {nL pc : Nat} {ls : Array Slot} {rest : List Value} {D : va_G} {A : Nat → Nat} {C : Nat → ClassId} {ka mu : kM} {o : Int32} {own : String} {j index : Nat}
theorem kMi_of {y : MethodName} {nL : Nat} {ret : Option FieldType} {rm : Room} {sz : Nat} {av : List Value} {r : Int32} {ka' mu' : kM} {o' : Int32} (hA : kinj A) (hy : plainName y.cls = true) (hc : (lg_sl av).length ≤ nL)
    (body : ∀ (p : Program) (e : Env) (s : State) (m : MethodId) (args : Array Value) (below : List Frame) (meth : Method) (c : Code), kCtx D A C p s m args c cc nL y.cls → meth.sig.returnType = ret → meth.locks = false → kP D A C ka mu o s.heap → kS A s s.heap [] → ∀ ls : Array Slot, lv_has ls nL (lv_args 0 av) →
      W p l e rm s m args below meth c s.heap [] 0 0 (kZi D A C below args s rm.cells rm.slots r ka' mu' o') (F0 m 0 ls [])) : kMi l y (.code y cc nL ret) rm D A C ka mu o sz av r ka' mu' o' := by
  refine Met.ofW (cc := cc) (maxL := nL) (ret := ret) hy rfl ?_
  intro p e s m args below meth c s₁ B hml hv
  obtain ⟨rfl, rfl, hP, hE⟩ := hv
  have hts := atoms_spec (ws := Cond.code y cc nL ret :: kAll) B.pre
  have hl := lv_entry av (n := nL) hc
  rw [lg_entry_eq]
  generalize (lg_sl av ++ List.replicate (nL - (lg_sl av).length) Slot.unset).toArray = ls at hl ⊢
  exact body p e s m _ below meth c ⟨B.exec, B.bytes, hml, findClass_of_methodNamed B.named, fun w hw => hts w (List.mem_cons_of_mem _ hw), hE, hA⟩ B.returns B.notSynchronized hP va_S.rf ls hl
theorem kMv_of {y : MethodName} {nL : Nat} {rm : Room} {sz : Nat} {av : List Value} {ka' mu' : kM} {o' : Int32} (hA : kinj A) (hy : plainName y.cls = true) (hc : (lg_sl av).length ≤ nL)
    (body : ∀ (p : Program) (e : Env) (s : State) (m : MethodId) (args : Array Value) (below : List Frame) (meth : Method) (c : Code), kCtx D A C p s m args c cc nL y.cls → meth.sig.returnType = none → meth.locks = false → kP D A C ka mu o s.heap → kS A s s.heap [] → ∀ ls : Array Slot, lv_has ls nL (lv_args 0 av) →
      W p l e rm s m args below meth c s.heap [] 0 0 (kZv D A C below args s rm.cells rm.slots ka' mu' o') (F0 m 0 ls [])) : kMv l y (.code y cc nL none) rm D A C ka mu o sz av ka' mu' o' := by
  refine Met.ofW (cc := cc) (maxL := nL) (ret := none) hy rfl ?_
  intro p e s m args below meth c s₁ B hml hv
  obtain ⟨rfl, rfl, hP, hE⟩ := hv
  have hts := atoms_spec (ws := Cond.code y cc nL none :: kAll) B.pre
  have hl := lv_entry av (n := nL) hc
  rw [lg_entry_eq]
  generalize (lg_sl av ++ List.replicate (nL - (lg_sl av).length) Slot.unset).toArray = ls at hl ⊢
  exact body p e s m _ below meth c ⟨B.exec, B.bytes, hml, findClass_of_methodNamed B.named, fun w hw => hts w (List.mem_cons_of_mem _ hw), hE, hA⟩ B.returns B.notSynchronized hP va_S.rf ls hl
/-! ends -/
theorem k_iret {r v : Int32} {k1 m1 ka' mu' : kM} {o1 o' : Int32} (G : kCtx D A C p s m args c cc nL own) (hr : meth.sig.returnType = some .int) (hlocks : meth.locks = false) (hP : kP D A C k1 m1 o1 H) (hS : kS A s H locs) (hv : v = r) (h1 : k1 = ka') (h2 : m1 = mu') (h3 : o1 = o') (hdg : decode cc pc = .ok (.ireturn, 1)) :
    W p l e R s m args below meth c H locs cells slots (kZi D A C below args s cells slots r ka' mu' o') (F0 m pc ls [.int v]) := by
  subst hv; subst h1; subst h2; subst h3
  exact W.iret G.1 G.2.1 hr (fun t ht hW => ⟨⟨v, (), rfl, rfl, by show kP _ _ _ _ _ _ t.heap; rw [ht]; exact hP⟩, hS.F ht⟩) hS.2.2 hdg hlocks
theorem k_zret {r v : Int32} {k1 m1 ka' mu' : kM} {o1 o' : Int32} (G : kCtx D A C p s m args c cc nL own) (hr : meth.sig.returnType = some .boolean) (hlocks : meth.locks = false) (hP : kP D A C k1 m1 o1 H) (hS : kS A s H locs) (hn : narrow .boolean (.int v) = .int v) (hv : v = r) (h1 : k1 = ka') (h2 : m1 = mu') (h3 : o1 = o') (hdg : decode cc pc = .ok (.ireturn, 1)) :
    W p l e R s m args below meth c H locs cells slots (kZi D A C below args s cells slots r ka' mu' o') (F0 m pc ls [.int v]) := by
  subst hv; subst h1; subst h2; subst h3
  exact W.zret G.1 G.2.1 hr hn (fun t ht hW => ⟨⟨v, (), rfl, rfl, by show kP _ _ _ _ _ _ t.heap; rw [ht]; exact hP⟩, hS.F ht⟩) hS.2.2 hdg hlocks
theorem k_vret {k1 m1 ka' mu' : kM} {o1 o' : Int32} (G : kCtx D A C p s m args c cc nL own) (hr : meth.sig.returnType = none) (hlocks : meth.locks = false) (hP : kP D A C k1 m1 o1 H) (hS : kS A s H locs) (h1 : k1 = ka') (h2 : m1 = mu') (h3 : o1 = o') (hdg : decode cc pc = .ok (.return_, 1)) :
    W p l e R s m args below meth c H locs cells slots (kZv D A C below args s cells slots ka' mu' o') (F0 m pc ls []) := by
  subst h1; subst h2; subst h3
  exact W.vret G.1 G.2.1 hr (fun t ht hW => ⟨⟨(), rfl, trivial, by show kP _ _ _ _ _ _ t.heap; rw [ht]; exact hP⟩, hS.F ht⟩) hS.2.2 hdg hlocks
/-! fields -/
theorem kf2_i (h1 : 5 ≤ j) (h2 : j < 12) (f : Nat → Int32) : (kf2 A f)[j]? = some (.int (f j)) := by
  rcases (show j = 5 ∨ j = 6 ∨ j = 7 ∨ j = 8 ∨ j = 9 ∨ j = 10 ∨ j = 11 by omega) with rfl | rfl | rfl | rfl | rfl | rfl | rfl <;> rfl
theorem kf2_s (h1 : 5 ≤ j) (h2 : j < 12) (f : Nat → Int32) (v : Int32) : (kf2 A f).set j (.int v) = kf2 A (upd f j v) := by
  rcases (show j = 5 ∨ j = 6 ∨ j = 7 ∨ j = 8 ∨ j = 9 ∨ j = 10 ∨ j = 11 by omega) with rfl | rfl | rfl | rfl | rfl | rfl | rfl <;> simp [kf2, upd]
theorem kf1_i {r : Nat} (h1 : 1 ≤ j) (h2 : j < 10) (f : Nat → Int32) : (kf1 A r f)[j]? = some (.int (f j)) := by
  rcases (show j = 1 ∨ j = 2 ∨ j = 3 ∨ j = 4 ∨ j = 5 ∨ j = 6 ∨ j = 7 ∨ j = 8 ∨ j = 9 by omega) with rfl | rfl | rfl | rfl | rfl | rfl | rfl | rfl | rfl <;> rfl
theorem kf1_s {r : Nat} (h1 : 1 ≤ j) (h2 : j < 10) (f : Nat → Int32) (v : Int32) : (kf1 A r f).set j (.int v) = kf1 A r (upd f j v) := by
  rcases (show j = 1 ∨ j = 2 ∨ j = 3 ∨ j = 4 ∨ j = 5 ∨ j = 6 ∨ j = 7 ∨ j = 8 ∨ j = 9 by omega) with rfl | rfl | rfl | rfl | rfl | rfl | rfl | rfl | rfl <;> simp [kf1, upd]
theorem kf0_i {r : Nat} (h1 : 1 ≤ j) (h2 : j < 10) (f : Nat → Int32) : (kf0 A r f)[j]? = some (.int (f j)) := by
  rcases (show j = 1 ∨ j = 2 ∨ j = 3 ∨ j = 4 ∨ j = 5 ∨ j = 6 ∨ j = 7 ∨ j = 8 ∨ j = 9 by omega) with rfl | rfl | rfl | rfl | rfl | rfl | rfl | rfl | rfl <;> rfl
theorem kf0_s {r : Nat} (h1 : 1 ≤ j) (h2 : j < 10) (f : Nat → Int32) (v : Int32) : (kf0 A r f).set j (.int v) = kf0 A r (upd f j v) := by
  rcases (show j = 1 ∨ j = 2 ∨ j = 3 ∨ j = 4 ∨ j = 5 ∨ j = 6 ∨ j = 7 ∨ j = 8 ∨ j = 9 by omega) with rfl | rfl | rfl | rfl | rfl | rfl | rfl | rfl | rfl <;> simp [kf0, upd]
def k3i (j : Nat) : Prop := j = 0 ∨ j = 12 ∨ j = 24 ∨ j = 25 ∨ j = 26 ∨ j = 27 ∨ j = 28 ∨ j = 29
theorem kf3_i (h : k3i j) (f : Nat → Int32) : (kf3 A f)[j]? = some (.int (f j)) := by
  rcases h with rfl | rfl | rfl | rfl | rfl | rfl | rfl | rfl <;> rfl
theorem kf3_s (h : k3i j) (f : Nat → Int32) (v : Int32) : (kf3 A f).set j (.int v) = kf3 A (upd f j v) := by
  rcases h with rfl | rfl | rfl | rfl | rfl | rfl | rfl | rfl <;> simp [kf3, upd]
theorem kin0 : ∀ w ∈ wsX00, w ∈ kAll := by decide +kernel
theorem kin1 : ∀ w ∈ wsX10, w ∈ kAll := by decide +kernel
theorem kin2 : ∀ w ∈ wsX20, w ∈ kAll := by decide +kernel
theorem kin3 : ∀ w ∈ wsX30, w ∈ kAll := by decide +kernel
theorem kw_X2 : (kw A C ka mu o)[0]? = some (A 0, .inr (2, kf2 A (ka 0))) := by rw [kw_at (by decide)]; rfl
theorem kw_X1 (h : j < 6) : (kw A C ka mu o)[j + 6]? = some (A (j + 6), .inr (1, kf1 A (j + 6) (ka (j + 6)))) := by
  rw [kw_at (by omega), kc_X1 h, krow, if_pos (by omega)]
theorem kw_X0 (h : j < 8) : (kw A C ka mu o)[j + 18]? = some (A (j + 18), .inr (0, kf0 A (j + 18) (ka (j + 18)))) := by
  rw [kw_at (by omega), kc_X0 h, krow, if_pos (by omega)]
theorem kw_X3 : (kw A C ka mu o)[34]? = some (A 34, .inr (3, kf3 A (mu 34))) := by rw [kw_at (by decide)]; rfl
theorem kw_IK {r n : Nat} (h : kI r n) (hr : r < 34) : (kw A C ka mu o)[r]? = some (A r, .inl (C 0, n, .inl (ka r))) := by
  rw [kw_at (by omega), kc_I h, krow, if_pos hr]
theorem kw_IM {r n : Nat} (h : kI r n) (hr : 34 ≤ r) : (kw A C ka mu o)[r]? = some (A r, .inl (C 0, n, .inl (mu r))) := by
  rw [kw_at (Nat.lt_trans h.2.2.2.2.2.2.2.1 (by decide)), kc_I h, krow, if_neg (by omega), if_pos h.2.2.2.2.2.2.2.1]
theorem k2_geti (G : kCtx D A C p s m args c cc nL RX2) (hP : kP D A C ka mu o H) (j : Nat) (h1 : 5 ≤ j) (h2 : j < 12) (hl : Cond.fieldLink RX2 index "PartitionKernel" (TX2 j).2.1 (TX2 j).2.2.1 ∈ kAll) (he : (TX2 j).1 = "PartitionKernel") (hdg : decode cc pc = .ok (.getfield index, 3))
    (kk : W p l e R s m args below meth c H locs cells slots Q (F0 m (pc + 3) ls (.int (ka 0 j) :: rest))) : W p l e R s m args below meth c H locs cells slots Q (F0 m pc ls (.ref (A 0) :: rest)) :=
  va_get (ci := 2) (C := RX2) (T := TX2) (N := 12) G.1 G.2.1 G.2.2.2.2.1 kin2 G.2.2.2.1 G.2.2.2.2.2.1.1 hP 0 kw_X2 rfl j h2 (G.2.2.2.2.1 _ hl) (fun x h => by rw [he] at h; exact h) (kf2_i h1 h2 _) hdg kk
theorem k2_getr (G : kCtx D A C p s m args c cc nL RX2) (hP : kP D A C ka mu o H) (j : Nat) (h2 : j < 5) (hl : Cond.fieldLink RX2 index "PartitionKernel" (TX2 j).2.1 (TX2 j).2.2.1 ∈ kAll) (he : (TX2 j).1 = "PartitionKernel") (hdg : decode cc pc = .ok (.getfield index, 3))
    (kk : W p l e R s m args below meth c H locs cells slots Q (F0 m (pc + 3) ls (.ref (A (j + 1)) :: rest))) : W p l e R s m args below meth c H locs cells slots Q (F0 m pc ls (.ref (A 0) :: rest)) :=
  va_get (ci := 2) (C := RX2) (T := TX2) (N := 12) G.1 G.2.1 G.2.2.2.2.1 kin2 G.2.2.2.1 G.2.2.2.2.2.1.1 hP 0 kw_X2 rfl j (by omega) (G.2.2.2.2.1 _ hl) (fun x h => by rw [he] at h; exact h) (by rcases (show j = 0 ∨ j = 1 ∨ j = 2 ∨ j = 3 ∨ j = 4 by omega) with rfl | rfl | rfl | rfl | rfl <;> rfl) hdg kk
theorem k2_puti (G : kCtx D A C p s m args c cc nL RX2) (hP : kP D A C ka mu o H) (hS : kS A s H locs) (j : Nat) (h1 : 5 ≤ j) (h2 : j < 12) (hl : Cond.fieldLink RX2 index "PartitionKernel" (TX2 j).2.1 (TX2 j).2.2.1 ∈ kAll) (he : (TX2 j).1 = "PartitionKernel") (hf : (TX2 j).2.2.2 = false) {v : Int32} (hn : narrow (tyX2 j) (.int v) = .int v) (hfit : fits (tyX2 j) (.int v) = true) (hdg : decode cc pc = .ok (.putfield index, 3))
    (kk : ∀ (H1 : Heap) (locs1 : List Loc), kP D A C (kup ka 0 j v) mu o H1 → kS A s H1 locs1 → W p l e R s m args below meth c H1 locs1 cells slots Q (F0 m (pc + 3) ls rest)) : W p l e R s m args below meth c H locs cells slots Q (F0 m pc ls (.int v :: .ref (A 0) :: rest)) := by
  refine va_put (ci := 2) (C := RX2) (T := TX2) (N := 12) G.1 G.2.1 G.2.2.2.2.1 kin2 tyX2 tyX2_ok nmX2 G.2.2.2.1 G.2.2.2.2.2.1.1 hP (kD G.2.2.2.2.2.2) hS 0 kw_X2 rfl j h2 (G.2.2.2.2.1 _ hl) (fun x h => by rw [he] at h; exact h) hf (tyX2_ok j h2) hn hfit (by show j < 12; exact h2) hdg (fun H1 locs1 hP1 _ hS1 => kk H1 locs1 ?_ hS1)
  rw [kf2_s h1 h2] at hP1
  show va_P D vwCl (kw A C (va_up ka 0 (upd (ka 0) j v)) mu o) H1
  rw [← kw_setK (by decide)]
  exact hP1
theorem k1_geti (G : kCtx D A C p s m args c cc nL RX1) (hP : kP D A C ka mu o H) {r : Nat} (hr : r < 6) (j : Nat) (h1 : 1 ≤ j) (h2 : j < 10) (hl : Cond.fieldLink RX1 index "PartitionKernel$Partition" (TX1 j).2.1 (TX1 j).2.2.1 ∈ kAll) (he : (TX1 j).1 = "PartitionKernel$Partition") (hdg : decode cc pc = .ok (.getfield index, 3))
    (kk : W p l e R s m args below meth c H locs cells slots Q (F0 m (pc + 3) ls (.int (ka (r + 6) j) :: rest))) : W p l e R s m args below meth c H locs cells slots Q (F0 m pc ls (.ref (A (r + 6)) :: rest)) :=
  va_get (ci := 1) (C := RX1) (T := TX1) (N := 10) G.1 G.2.1 G.2.2.2.2.1 kin1 G.2.2.2.1 G.2.2.2.2.2.1.1 hP (r + 6) (kw_X1 hr) rfl j h2 (G.2.2.2.2.1 _ hl) (fun x h => by rw [he] at h; exact h) (kf1_i h1 h2 _) hdg kk
theorem k1_puti (G : kCtx D A C p s m args c cc nL RX1) (hP : kP D A C ka mu o H) (hS : kS A s H locs) {r : Nat} (hr : r < 6) (j : Nat) (h1 : 1 ≤ j) (h2 : j < 10) (hl : Cond.fieldLink RX1 index "PartitionKernel$Partition" (TX1 j).2.1 (TX1 j).2.2.1 ∈ kAll) (he : (TX1 j).1 = "PartitionKernel$Partition") (hf : (TX1 j).2.2.2 = false) {v : Int32} (hn : narrow (tyX1 j) (.int v) = .int v) (hfit : fits (tyX1 j) (.int v) = true) (hdg : decode cc pc = .ok (.putfield index, 3))
    (kk : ∀ (H1 : Heap) (locs1 : List Loc), kP D A C (kup ka (r + 6) j v) mu o H1 → kS A s H1 locs1 → W p l e R s m args below meth c H1 locs1 cells slots Q (F0 m (pc + 3) ls rest)) : W p l e R s m args below meth c H locs cells slots Q (F0 m pc ls (.int v :: .ref (A (r + 6)) :: rest)) := by
  refine va_put (ci := 1) (C := RX1) (T := TX1) (N := 10) G.1 G.2.1 G.2.2.2.2.1 kin1 tyX1 tyX1_ok nmX1 G.2.2.2.1 G.2.2.2.2.2.1.1 hP (kD G.2.2.2.2.2.2) hS (r + 6) (kw_X1 hr) rfl j h2 (G.2.2.2.2.1 _ hl) (fun x h => by rw [he] at h; exact h) hf (tyX1_ok j h2) hn hfit (by show j < 10; exact h2) hdg (fun H1 locs1 hP1 _ hS1 => kk H1 locs1 ?_ hS1)
  rw [kf1_s h1 h2] at hP1
  show va_P D vwCl (kw A C (va_up ka (r + 6) (upd (ka (r + 6)) j v)) mu o) H1
  rw [← kw_setK (by omega), kc_X1 hr]
  exact hP1
theorem k1_getr (G : kCtx D A C p s m args c cc nL RX1) (hP : kP D A C ka mu o H) {r : Nat} (hr : r < 6) (hl : Cond.fieldLink RX1 index "PartitionKernel$Partition" (TX1 0).2.1 (TX1 0).2.2.1 ∈ kAll) (hdg : decode cc pc = .ok (.getfield index, 3))
    (kk : W p l e R s m args below meth c H locs cells slots Q (F0 m (pc + 3) ls (.ref (A (r + 12)) :: rest))) : W p l e R s m args below meth c H locs cells slots Q (F0 m pc ls (.ref (A (r + 6)) :: rest)) :=
  va_get (ci := 1) (C := RX1) (T := TX1) (N := 10) G.1 G.2.1 G.2.2.2.2.1 kin1 G.2.2.2.1 G.2.2.2.2.2.1.1 hP (r + 6) (kw_X1 hr) rfl 0 (by decide) (G.2.2.2.2.1 _ hl) (fun x h => h) rfl hdg kk
theorem k0_geti (G : kCtx D A C p s m args c cc nL RX0) (hP : kP D A C ka mu o H) {r : Nat} (hr : r < 8) (j : Nat) (h1 : 1 ≤ j) (h2 : j < 10) (hl : Cond.fieldLink RX0 index "PartitionKernel$Channel" (TX0 j).2.1 (TX0 j).2.2.1 ∈ kAll) (he : (TX0 j).1 = "PartitionKernel$Channel") (hdg : decode cc pc = .ok (.getfield index, 3))
    (kk : W p l e R s m args below meth c H locs cells slots Q (F0 m (pc + 3) ls (.int (ka (r + 18) j) :: rest))) : W p l e R s m args below meth c H locs cells slots Q (F0 m pc ls (.ref (A (r + 18)) :: rest)) :=
  va_get (ci := 0) (C := RX0) (T := TX0) (N := 10) G.1 G.2.1 G.2.2.2.2.1 kin0 G.2.2.2.1 G.2.2.2.2.2.1.1 hP (r + 18) (kw_X0 hr) rfl j h2 (G.2.2.2.2.1 _ hl) (fun x h => by rw [he] at h; exact h) (kf0_i h1 h2 _) hdg kk
theorem k0_puti (G : kCtx D A C p s m args c cc nL RX0) (hP : kP D A C ka mu o H) (hS : kS A s H locs) {r : Nat} (hr : r < 8) (j : Nat) (h1 : 1 ≤ j) (h2 : j < 10) (hl : Cond.fieldLink RX0 index "PartitionKernel$Channel" (TX0 j).2.1 (TX0 j).2.2.1 ∈ kAll) (he : (TX0 j).1 = "PartitionKernel$Channel") (hf : (TX0 j).2.2.2 = false) {v : Int32} (hn : narrow (tyX0 j) (.int v) = .int v) (hfit : fits (tyX0 j) (.int v) = true) (hdg : decode cc pc = .ok (.putfield index, 3))
    (kk : ∀ (H1 : Heap) (locs1 : List Loc), kP D A C (kup ka (r + 18) j v) mu o H1 → kS A s H1 locs1 → W p l e R s m args below meth c H1 locs1 cells slots Q (F0 m (pc + 3) ls rest)) : W p l e R s m args below meth c H locs cells slots Q (F0 m pc ls (.int v :: .ref (A (r + 18)) :: rest)) := by
  refine va_put (ci := 0) (C := RX0) (T := TX0) (N := 10) G.1 G.2.1 G.2.2.2.2.1 kin0 tyX0 tyX0_ok nmX0 G.2.2.2.1 G.2.2.2.2.2.1.1 hP (kD G.2.2.2.2.2.2) hS (r + 18) (kw_X0 hr) rfl j h2 (G.2.2.2.2.1 _ hl) (fun x h => by rw [he] at h; exact h) hf (tyX0_ok j h2) hn hfit (by show j < 10; exact h2) hdg (fun H1 locs1 hP1 _ hS1 => kk H1 locs1 ?_ hS1)
  rw [kf0_s h1 h2] at hP1
  show va_P D vwCl (kw A C (va_up ka (r + 18) (upd (ka (r + 18)) j v)) mu o) H1
  rw [← kw_setK (by omega), kc_X0 hr]
  exact hP1
theorem k0_getr (G : kCtx D A C p s m args c cc nL RX0) (hP : kP D A C ka mu o H) {r : Nat} (hr : r < 8) (hl : Cond.fieldLink RX0 index "PartitionKernel$Channel" (TX0 0).2.1 (TX0 0).2.2.1 ∈ kAll) (hdg : decode cc pc = .ok (.getfield index, 3))
    (kk : W p l e R s m args below meth c H locs cells slots Q (F0 m (pc + 3) ls (.ref (A (r + 26)) :: rest))) : W p l e R s m args below meth c H locs cells slots Q (F0 m pc ls (.ref (A (r + 18)) :: rest)) :=
  va_get (ci := 0) (C := RX0) (T := TX0) (N := 10) G.1 G.2.1 G.2.2.2.2.1 kin0 G.2.2.2.1 G.2.2.2.2.2.1.1 hP (r + 18) (kw_X0 hr) rfl 0 (by decide) (G.2.2.2.2.1 _ hl) (fun x h => h) rfl hdg kk
theorem k1N_geti (G : kCtx D A C p s m args c cc nL RX2) (hP : kP D A C ka mu o H) {r : Nat} (hr : r < 6) (j : Nat) (h1 : 1 ≤ j) (h2 : j < 10) (hl : Cond.fieldLinkNest RX2 index "PartitionKernel$Partition" (TX1 j).2.1 (TX1 j).2.2.1 "PartitionKernel" ∈ kNest) (he : (TX1 j).1 = "PartitionKernel$Partition") (hdg : decode cc pc = .ok (.getfield index, 3))
    (kk : W p l e R s m args below meth c H locs cells slots Q (F0 m (pc + 3) ls (.int (ka (r + 6) j) :: rest))) : W p l e R s m args below meth c H locs cells slots Q (F0 m pc ls (.ref (A (r + 6)) :: rest)) :=
  va_getN (ci := 1) (C := RX1) (T := TX1) (N := 10) G.1 G.2.1 G.2.2.2.2.1 kin1 G.2.2.2.1 G.2.2.2.2.2.1.1 hP (r + 6) (kw_X1 hr) rfl j h2 (va_Nw.use rfl (G.2.2.2.2.2.1.2.1 _ hl)) (fun x h => by rw [he] at h; exact h) (kf1_i h1 h2 _) hdg kk
theorem k1N_puti (G : kCtx D A C p s m args c cc nL RX2) (hP : kP D A C ka mu o H) (hS : kS A s H locs) {r : Nat} (hr : r < 6) (j : Nat) (h1 : 1 ≤ j) (h2 : j < 10) (hl : Cond.fieldLinkNest RX2 index "PartitionKernel$Partition" (TX1 j).2.1 (TX1 j).2.2.1 "PartitionKernel" ∈ kNest) (he : (TX1 j).1 = "PartitionKernel$Partition") (hf : (TX1 j).2.2.2 = false) {v : Int32} (hn : narrow (tyX1 j) (.int v) = .int v) (hfit : fits (tyX1 j) (.int v) = true) (hdg : decode cc pc = .ok (.putfield index, 3))
    (kk : ∀ (H1 : Heap) (locs1 : List Loc), kP D A C (kup ka (r + 6) j v) mu o H1 → kS A s H1 locs1 → W p l e R s m args below meth c H1 locs1 cells slots Q (F0 m (pc + 3) ls rest)) : W p l e R s m args below meth c H locs cells slots Q (F0 m pc ls (.int v :: .ref (A (r + 6)) :: rest)) := by
  refine va_putN (ci := 1) (C := RX1) (T := TX1) (N := 10) G.1 G.2.1 G.2.2.2.2.1 kin1 tyX1 tyX1_ok nmX1 G.2.2.2.1 G.2.2.2.2.2.1.1 hP (kD G.2.2.2.2.2.2) hS (r + 6) (kw_X1 hr) rfl j h2 (va_Nw.use rfl (G.2.2.2.2.2.1.2.1 _ hl)) (fun x h => by rw [he] at h; exact h) hf (tyX1_ok j h2) hn hfit (by show j < 10; exact h2) hdg (fun H1 locs1 hP1 _ hS1 => kk H1 locs1 ?_ hS1)
  rw [kf1_s h1 h2] at hP1
  show va_P D vwCl (kw A C (va_up ka (r + 6) (upd (ka (r + 6)) j v)) mu o) H1
  rw [← kw_setK (by omega), kc_X1 hr]
  exact hP1
theorem k1N_getr (G : kCtx D A C p s m args c cc nL RX2) (hP : kP D A C ka mu o H) {r : Nat} (hr : r < 6) (hl : Cond.fieldLinkNest RX2 index "PartitionKernel$Partition" (TX1 0).2.1 (TX1 0).2.2.1 "PartitionKernel" ∈ kNest) (hdg : decode cc pc = .ok (.getfield index, 3))
    (kk : W p l e R s m args below meth c H locs cells slots Q (F0 m (pc + 3) ls (.ref (A (r + 12)) :: rest))) : W p l e R s m args below meth c H locs cells slots Q (F0 m pc ls (.ref (A (r + 6)) :: rest)) :=
  va_getN (ci := 1) (C := RX1) (T := TX1) (N := 10) G.1 G.2.1 G.2.2.2.2.1 kin1 G.2.2.2.1 G.2.2.2.2.2.1.1 hP (r + 6) (kw_X1 hr) rfl 0 (by decide) (va_Nw.use rfl (G.2.2.2.2.2.1.2.1 _ hl)) (fun x h => h) rfl hdg kk
theorem k0N_geti (G : kCtx D A C p s m args c cc nL RX2) (hP : kP D A C ka mu o H) {r : Nat} (hr : r < 8) (j : Nat) (h1 : 1 ≤ j) (h2 : j < 10) (hl : Cond.fieldLinkNest RX2 index "PartitionKernel$Channel" (TX0 j).2.1 (TX0 j).2.2.1 "PartitionKernel" ∈ kNest) (he : (TX0 j).1 = "PartitionKernel$Channel") (hdg : decode cc pc = .ok (.getfield index, 3))
    (kk : W p l e R s m args below meth c H locs cells slots Q (F0 m (pc + 3) ls (.int (ka (r + 18) j) :: rest))) : W p l e R s m args below meth c H locs cells slots Q (F0 m pc ls (.ref (A (r + 18)) :: rest)) :=
  va_getN (ci := 0) (C := RX0) (T := TX0) (N := 10) G.1 G.2.1 G.2.2.2.2.1 kin0 G.2.2.2.1 G.2.2.2.2.2.1.1 hP (r + 18) (kw_X0 hr) rfl j h2 (va_Nw.use rfl (G.2.2.2.2.2.1.2.1 _ hl)) (fun x h => by rw [he] at h; exact h) (kf0_i h1 h2 _) hdg kk
theorem k0N_puti (G : kCtx D A C p s m args c cc nL RX2) (hP : kP D A C ka mu o H) (hS : kS A s H locs) {r : Nat} (hr : r < 8) (j : Nat) (h1 : 1 ≤ j) (h2 : j < 10) (hl : Cond.fieldLinkNest RX2 index "PartitionKernel$Channel" (TX0 j).2.1 (TX0 j).2.2.1 "PartitionKernel" ∈ kNest) (he : (TX0 j).1 = "PartitionKernel$Channel") (hf : (TX0 j).2.2.2 = false) {v : Int32} (hn : narrow (tyX0 j) (.int v) = .int v) (hfit : fits (tyX0 j) (.int v) = true) (hdg : decode cc pc = .ok (.putfield index, 3))
    (kk : ∀ (H1 : Heap) (locs1 : List Loc), kP D A C (kup ka (r + 18) j v) mu o H1 → kS A s H1 locs1 → W p l e R s m args below meth c H1 locs1 cells slots Q (F0 m (pc + 3) ls rest)) : W p l e R s m args below meth c H locs cells slots Q (F0 m pc ls (.int v :: .ref (A (r + 18)) :: rest)) := by
  refine va_putN (ci := 0) (C := RX0) (T := TX0) (N := 10) G.1 G.2.1 G.2.2.2.2.1 kin0 tyX0 tyX0_ok nmX0 G.2.2.2.1 G.2.2.2.2.2.1.1 hP (kD G.2.2.2.2.2.2) hS (r + 18) (kw_X0 hr) rfl j h2 (va_Nw.use rfl (G.2.2.2.2.2.1.2.1 _ hl)) (fun x h => by rw [he] at h; exact h) hf (tyX0_ok j h2) hn hfit (by show j < 10; exact h2) hdg (fun H1 locs1 hP1 _ hS1 => kk H1 locs1 ?_ hS1)
  rw [kf0_s h1 h2] at hP1
  show va_P D vwCl (kw A C (va_up ka (r + 18) (upd (ka (r + 18)) j v)) mu o) H1
  rw [← kw_setK (by omega), kc_X0 hr]
  exact hP1
theorem k0N_getr (G : kCtx D A C p s m args c cc nL RX2) (hP : kP D A C ka mu o H) {r : Nat} (hr : r < 8) (hl : Cond.fieldLinkNest RX2 index "PartitionKernel$Channel" (TX0 0).2.1 (TX0 0).2.2.1 "PartitionKernel" ∈ kNest) (hdg : decode cc pc = .ok (.getfield index, 3))
    (kk : W p l e R s m args below meth c H locs cells slots Q (F0 m (pc + 3) ls (.ref (A (r + 26)) :: rest))) : W p l e R s m args below meth c H locs cells slots Q (F0 m pc ls (.ref (A (r + 18)) :: rest)) :=
  va_getN (ci := 0) (C := RX0) (T := TX0) (N := 10) G.1 G.2.1 G.2.2.2.2.1 kin0 G.2.2.2.1 G.2.2.2.2.2.1.1 hP (r + 18) (kw_X0 hr) rfl 0 (by decide) (va_Nw.use rfl (G.2.2.2.2.2.1.2.1 _ hl)) (fun x h => h) rfl hdg kk
theorem k3_geti (G : kCtx D A C p s m args c cc nL RX3) (hP : kP D A C ka mu o H) (j : Nat) (h : k3i j) (h2 : j < 30) (hl : Cond.fieldLink RX3 index "PartitionKernelModel" (TX3 j).2.1 (TX3 j).2.2.1 ∈ kAll) (he : (TX3 j).1 = "PartitionKernelModel") (hdg : decode cc pc = .ok (.getfield index, 3))
    (kk : W p l e R s m args below meth c H locs cells slots Q (F0 m (pc + 3) ls (.int (mu (34) j) :: rest))) : W p l e R s m args below meth c H locs cells slots Q (F0 m pc ls (.ref (A (34)) :: rest)) :=
  va_get (ci := 3) (C := RX3) (T := TX3) (N := 30) G.1 G.2.1 G.2.2.2.2.1 kin3 G.2.2.2.1 G.2.2.2.2.2.1.1 hP (34) kw_X3 rfl j h2 (G.2.2.2.2.1 _ hl) (fun x h => by rw [he] at h; exact h) (kf3_i h _) hdg kk
theorem k3_puti (G : kCtx D A C p s m args c cc nL RX3) (hP : kP D A C ka mu o H) (hS : kS A s H locs) (j : Nat) (h : k3i j) (h2 : j < 30) (hl : Cond.fieldLink RX3 index "PartitionKernelModel" (TX3 j).2.1 (TX3 j).2.2.1 ∈ kAll) (he : (TX3 j).1 = "PartitionKernelModel") (hf : (TX3 j).2.2.2 = false) {v : Int32} (hn : narrow (tyX3 j) (.int v) = .int v) (hfit : fits (tyX3 j) (.int v) = true) (hdg : decode cc pc = .ok (.putfield index, 3))
    (kk : ∀ (H1 : Heap) (locs1 : List Loc), kP D A C ka (kup mu (34) j v) o H1 → kS A s H1 locs1 → W p l e R s m args below meth c H1 locs1 cells slots Q (F0 m (pc + 3) ls rest)) : W p l e R s m args below meth c H locs cells slots Q (F0 m pc ls (.int v :: .ref (A (34)) :: rest)) := by
  refine va_put (ci := 3) (C := RX3) (T := TX3) (N := 30) G.1 G.2.1 G.2.2.2.2.1 kin3 tyX3 tyX3_ok nmX3 G.2.2.2.1 G.2.2.2.2.2.1.1 hP (kD G.2.2.2.2.2.2) hS (34) kw_X3 rfl j h2 (G.2.2.2.2.1 _ hl) (fun x h => by rw [he] at h; exact h) hf (tyX3_ok j h2) hn hfit (by show j < 30; exact h2) hdg (fun H1 locs1 hP1 _ hS1 => kk H1 locs1 ?_ hS1)
  rw [kf3_s h] at hP1
  show va_P D vwCl (kw A C ka (va_up mu (34) (upd (mu (34)) j v)) o) H1
  rw [← kw_setM (by decide) (by decide), kc_X3]
  exact hP1
theorem k3_getr (G : kCtx D A C p s m args c cc nL RX3) (hP : kP D A C ka mu o H) (j q : Nat) (h2 : j < 30) (hq : ∀ (A : Nat → Nat) (f : Nat → Int32), (kf3 A f)[j]? = some (.ref (A q))) (hl : Cond.fieldLink RX3 index "PartitionKernelModel" (TX3 j).2.1 (TX3 j).2.2.1 ∈ kAll) (he : (TX3 j).1 = "PartitionKernelModel") (hdg : decode cc pc = .ok (.getfield index, 3))
    (kk : W p l e R s m args below meth c H locs cells slots Q (F0 m (pc + 3) ls (.ref (A q) :: rest))) : W p l e R s m args below meth c H locs cells slots Q (F0 m pc ls (.ref (A 34) :: rest)) :=
  va_get (ci := 3) (C := RX3) (T := TX3) (N := 30) G.1 G.2.1 G.2.2.2.2.1 kin3 G.2.2.2.1 G.2.2.2.2.2.1.1 hP 34 kw_X3 rfl j h2 (G.2.2.2.2.1 _ hl) (fun x h => by rw [he] at h; exact h) (hq A _) hdg kk
/-! arrays -/
theorem kK_ald (G : kCtx D A C p s m args c cc nL own) (hP : kP D A C ka mu o H) {r n : Nat} (h : kI r n) (hr : r < 34) {i : Int32} (hin : vp_in i n) (hdg : decode cc pc = .ok (.iaload, 1))
    (kk : W p l e R s m args below meth c H locs cells slots Q (F0 m (pc + 1) ls (.int (ka r i.toNatClampNeg) :: rest))) : W p l e R s m args below meth c H locs cells slots Q (F0 m pc ls (.int i :: .ref (A r) :: rest)) :=
  va_iald G.1 G.2.1 G.2.2.2.2.2.1.1 hP r 0 (kw_IK h hr) rfl hin hdg kk
theorem kM_ald (G : kCtx D A C p s m args c cc nL own) (hP : kP D A C ka mu o H) {r n : Nat} (h : kI r n) (hr : 34 ≤ r) {i : Int32} (hin : vp_in i n) (hdg : decode cc pc = .ok (.iaload, 1))
    (kk : W p l e R s m args below meth c H locs cells slots Q (F0 m (pc + 1) ls (.int (mu r i.toNatClampNeg) :: rest))) : W p l e R s m args below meth c H locs cells slots Q (F0 m pc ls (.int i :: .ref (A r) :: rest)) :=
  va_iald G.1 G.2.1 G.2.2.2.2.2.1.1 hP r 0 (kw_IM h hr) rfl hin hdg kk
theorem kK_ast (G : kCtx D A C p s m args c cc nL own) (hP : kP D A C ka mu o H) (hS : kS A s H locs) {r n : Nat} (h : kI r n) (hr : r < 34) {i x : Int32} (hin : vp_in i n) (hdg : decode cc pc = .ok (.iastore, 1))
    (kk : ∀ (H1 : Heap) (locs1 : List Loc), kP D A C (kup ka r i.toNatClampNeg x) mu o H1 → kS A s H1 locs1 → W p l e R s m args below meth c H1 locs1 cells slots Q (F0 m (pc + 1) ls rest)) : W p l e R s m args below meth c H locs cells slots Q (F0 m pc ls (.int x :: .int i :: .ref (A r) :: rest)) := by
  refine va_iast G.1 G.2.1 G.2.2.2.2.2.1.1 hP (kD G.2.2.2.2.2.2) hS r 0 (kw_IK h hr) rfl hin hdg (fun H1 locs1 hP1 _ hS1 => kk H1 locs1 ?_ hS1)
  show va_P D vwCl (kw A C (va_up ka r (upd (ka r) i.toNatClampNeg x)) mu o) H1
  rw [← kw_setK hr, kc_I h]
  exact hP1
theorem kM_ast (G : kCtx D A C p s m args c cc nL own) (hP : kP D A C ka mu o H) (hS : kS A s H locs) {r n : Nat} (h : kI r n) (hr : 34 ≤ r) {i x : Int32} (hin : vp_in i n) (hdg : decode cc pc = .ok (.iastore, 1))
    (kk : ∀ (H1 : Heap) (locs1 : List Loc), kP D A C ka (kup mu r i.toNatClampNeg x) o H1 → kS A s H1 locs1 → W p l e R s m args below meth c H1 locs1 cells slots Q (F0 m (pc + 1) ls rest)) : W p l e R s m args below meth c H locs cells slots Q (F0 m pc ls (.int x :: .int i :: .ref (A r) :: rest)) := by
  refine va_iast G.1 G.2.1 G.2.2.2.2.2.1.1 hP (kD G.2.2.2.2.2.2) hS r 0 (kw_IM h hr) rfl hin hdg (fun H1 locs1 hP1 _ hS1 => kk H1 locs1 ?_ hS1)
  show va_P D vwCl (kw A C ka (va_up mu r (upd (mu r) i.toNatClampNeg x)) o) H1
  rw [← kw_setM hr h.2.2.2.2.2.2.2.1, kc_I h]
  exact hP1
theorem kw_Z : (kw A C ka mu o)[48]? = some (A 48, .inl (C 4, 8, .inl (mu 48))) := by rw [kw_at (by decide)]; rfl
theorem kZ_ald (G : kCtx D A C p s m args c cc nL own) (hP : kP D A C ka mu o H) {i : Int32} (hin : vp_in i 8) (hdg : decode cc pc = .ok (.baload, 1))
    (kk : W p l e R s m args below meth c H locs cells slots Q (F0 m (pc + 1) ls (.int (mu 48 i.toNatClampNeg) :: rest))) : W p l e R s m args below meth c H locs cells slots Q (F0 m pc ls (.int i :: .ref (A 48) :: rest)) :=
  va_zald G.1 G.2.1 G.2.2.2.2.2.1.1 hP 48 4 kw_Z rfl hin hdg kk
theorem kZ_ast (G : kCtx D A C p s m args c cc nL own) (hP : kP D A C ka mu o H) (hS : kS A s H locs) {i x : Int32} (hx : vp_nar .boolean x = x) (hin : vp_in i 8) (hdg : decode cc pc = .ok (.bastore, 1))
    (kk : ∀ (H1 : Heap) (locs1 : List Loc), kP D A C ka (kup mu 48 i.toNatClampNeg x) o H1 → kS A s H1 locs1 → W p l e R s m args below meth c H1 locs1 cells slots Q (F0 m (pc + 1) ls rest)) : W p l e R s m args below meth c H locs cells slots Q (F0 m pc ls (.int x :: .int i :: .ref (A 48) :: rest)) := by
  refine va_zast G.1 G.2.1 G.2.2.2.2.2.1.1 hP (kD G.2.2.2.2.2.2) hS 48 4 kw_Z rfl hin hdg (fun H1 locs1 hP1 _ hS1 => kk H1 locs1 ?_ hS1)
  show va_P D vwCl (kw A C ka (va_up mu 48 (upd (mu 48) i.toNatClampNeg x)) o) H1
  rw [← kw_setM (by decide) (by decide)]
  rw [hx] at hP1
  exact hP1
theorem kw_PA : (kw A C ka mu o)[2]? = some (A 2, .inl (C 2, 6, .inr (.inr (.inr (.inr (fun i => some (A (i + 6)))))))) := by rw [kw_at (by decide)]; rfl
theorem kw_CA : (kw A C ka mu o)[3]? = some (A 3, .inl (C 3, 8, .inr (.inr (.inr (.inr (fun i => some (A (i + 18)))))))) := by rw [kw_at (by decide)]; rfl
theorem kP_ald (G : kCtx D A C p s m args c cc nL own) (hP : kP D A C ka mu o H) {i : Int32} (hin : vp_in i 6) (hdg : decode cc pc = .ok (.aaload, 1))
    (kk : W p l e R s m args below meth c H locs cells slots Q (F0 m (pc + 1) ls (.ref (A (i.toNatClampNeg + 6)) :: rest))) : W p l e R s m args below meth c H locs cells slots Q (F0 m pc ls (.int i :: .ref (A 2) :: rest)) :=
  va_aldq G.1 G.2.1 G.2.2.2.2.2.1.1 hP 2 2 kw_PA rfl hin hdg kk
theorem kC_ald (G : kCtx D A C p s m args c cc nL own) (hP : kP D A C ka mu o H) {i : Int32} (hin : vp_in i 8) (hdg : decode cc pc = .ok (.aaload, 1))
    (kk : W p l e R s m args below meth c H locs cells slots Q (F0 m (pc + 1) ls (.ref (A (i.toNatClampNeg + 18)) :: rest))) : W p l e R s m args below meth c H locs cells slots Q (F0 m pc ls (.int i :: .ref (A 3) :: rest)) :=
  va_aldq G.1 G.2.1 G.2.2.2.2.2.1.1 hP 3 3 kw_CA rfl hin hdg kk
end KR
