/-! ===== rows for the law and its helpers ===== -/
theorem arrV_cg {cA : ClassId} {n : Nat} {f g : Nat → Value} (h : ∀ j, j < n → f j = g j) : arrV cA n f = arrV cA n g := by
  unfold arrV
  congr 1
  congr 1
  funext j
  exact h j.val j.isLt
section KH
variable {p : Program} {l : Launch} {e : Env} {R : Room} {s : State} {m : MethodId} {args : Array Value} {below : List Frame} {meth : Method} {c : Code} {H : Heap} {locs : List Loc} {cells slots : Nat} {Q : State → Prop}
variable {cc : ByteArray} {nL pc : Nat} {ls : Array Slot} {rest st0 : List Value} {D : va_G} {A : Nat → Nat} {C : Nat → ClassId} {ka mu : kM} {o : Int32} {own : String} {index : Nat}
theorem kMi_ofH {y : MethodName} {nL : Nat} {ret : Option FieldType} {rm : Room} {sz : Nat} {av : List Value} {r : Int32} {ka' mu' : kM} {o' : Int32} {hh : List (Nat × Nat × Nat × Nat)} (hA : kinj A) (hy : plainName y.cls = true) (hc : (lg_sl av).length ≤ nL)
    (body : ∀ (p : Program) (e : Env) (s : State) (m : MethodId) (args : Array Value) (below : List Frame) (meth : Method) (c : Code), kCtx D A C p s m args c cc nL y.cls → meth.sig.returnType = ret → meth.locks = false → c.exceptionTable.toList = tableOf hh → kP D A C ka mu o s.heap → kS A s s.heap [] → ∀ ls : Array Slot, lv_has ls nL (lv_args 0 av) →
      W p l e rm s m args below meth c s.heap [] 0 0 (kZi D A C below args s rm.cells rm.slots r ka' mu' o') (F0 m 0 ls [])) : kMi l y (.codeWith y cc nL ret hh) rm D A C ka mu o sz av r ka' mu' o' := by
  refine va_MetW (cc := cc) (maxL := nL) (ret := ret) (hh := hh) hy rfl ?_
  intro p e s m args below meth c s₁ B hml hv
  obtain ⟨rfl, rfl, hP, hE⟩ := hv
  have hts := atoms_spec (ws := Cond.codeWith y cc nL ret hh :: kAll) B.pre
  have hx := vx_table (x := y) B (hts _ List.mem_cons_self)
  have hl := lv_entry av (n := nL) hc
  rw [lg_entry_eq]
  generalize (lg_sl av ++ List.replicate (nL - (lg_sl av).length) Slot.unset).toArray = ls at hl ⊢
  exact body p e s m _ below meth c ⟨B.exec, B.bytes, hml, findClass_of_methodNamed B.named, fun w hw => hts w (List.mem_cons_of_mem _ hw), hE, hA⟩ B.returns B.notSynchronized hx hP va_S.rf ls hl
theorem kc_57 {f : Nat → Int32} : kc A C 57 f = .inl (C 1, 1, .inr (.inl (fun j => (f j).toInt64))) := rfl
theorem k_last (G : kCtx D A C p s m args c cc nL own) (hP : kP D A C ka mu o H) (hS : kS A s H locs) {x : Int32} (hdg : decode cc pc = .ok (.lastore, 1))
    (kk : ∀ (H1 : Heap) (locs1 : List Loc), kP D A C ka mu x H1 → kS A s H1 locs1 → W p l e R s m args below meth c H1 locs1 cells slots Q (F0 m (pc + 1) ls rest)) : W p l e R s m args below meth c H locs cells slots Q (F0 m pc ls (.long x.toInt64 :: .int 0 :: .ref (A 57) :: rest)) := by
  have h57 : (kw A C ka mu o)[57]? = some (A 57, .inl (C 1, 1, .inr (.inl (fun _ => o.toInt64)))) := kw_at (by decide)
  refine va_last G.1 G.2.1 G.2.2.2.2.2.1.1 hP (kD G.2.2.2.2.2.2) hS 57 1 h57 rfl (by unfold vp_in; decide) hdg (fun H1 locs1 hP1 _ hS1 => kk H1 locs1 ?_ hS1)
  have hat := hP1 57 _ (List.getElem?_set_self (by rw [kw_len]; decide))
  have hat2 : va_at D vwCl (A 57, kc A C 57 (fun _ => x)) H1 := by
    show H1[A 57]? = some (vp_cell (C 1) (1, .inr (.inl (fun _ => x.toInt64))))
    have h1 : H1[A 57]? = some (vp_cell (C 1) (1, .inr (.inl (vp_updL (fun _ => o.toInt64) (0 : Int32).toNatClampNeg x.toInt64)))) := hat
    rw [h1, vp_cell_l, vp_cell_l]
    congr 1
  show va_P D vwCl (kw A C ka mu x) H1
  rw [← kw_setO (o := o)]
  intro k q hk
  by_cases e : k = 57
  · subst e
    rw [List.getElem?_set_self (by rw [kw_len]; decide)] at hk
    cases hk
    exact hat2
  · rw [List.getElem?_set_ne (Ne.symm e)] at hk
    exact hP1 k q (by rw [List.getElem?_set_ne (Ne.symm e)]; exact hk)
theorem k_lald (G : kCtx D A C p s m args c cc nL own) (hP : kP D A C ka mu o H) (hdg : decode cc pc = .ok (.laload, 1))
    (kk : W p l e R s m args below meth c H locs cells slots Q (F0 m (pc + 1) ls (.long o.toInt64 :: rest))) : W p l e R s m args below meth c H locs cells slots Q (F0 m pc ls (.int 0 :: .ref (A 57) :: rest)) := by
  have h57 : (kw A C ka mu o)[57]? = some (A 57, .inl (C 1, 1, .inr (.inl (fun _ => o.toInt64)))) := kw_at (by decide)
  exact va_lald G.1 G.2.1 G.2.2.2.2.2.1.1 hP 57 1 h57 rfl (by unfold vp_in; decide) hdg kk
variable {y : MethodName} {b : ByteArray} {n : Nat} {ret : Option FieldType} {rm : Room} {b0 : Nat} {As : List Value} {r : Int32} {ka' mu' : kM} {o' : Int32} {k : Nat} {hh : List (Nat × Nat × Nat × Nat)}
/-- the row of the helper's table that takes an exception of kind k -/
def kRow (C : Nat → Prop) (s : State) (hh : List (Nat × Nat × Nat × Nat)) (pc k : Nat) : Prop :=
  ∃ (pre suf : List (Nat × Nat × Nat × Nat)) (q : Nat × Nat × Nat × Nat), hh = pre ++ q :: suf ∧ covers ⟨q.1, q.2.1, q.2.2.1, q.2.2.2⟩ pc = true ∧ q.2.2.2 ≠ 0 ∧ Cond.classLink RL q.2.2.2 (kEx k) ∈ kAll ∧ Cond.castable (kEx k) (kEx k) ∈ kNest ∧ (∀ z ∈ pre, z.2.2.2 ≠ 0 ∧ ∃ nm : String, Cond.classLink RL z.2.2.2 nm ∈ kAll ∧ va_Nc (kEx k) nm s) ∧ C q.2.2.1
theorem k_takes {E : String} {ce : Cell} {q9 : Addr} (G : kCtx D A C p s m args c cc nL RL) (hx : c.exceptionTable.toList = tableOf hh) (hE : E = kEx k) (hce : H[q9]? = some ce) (hcv : ce.vm = .none) (hcl : s.vm.findClass E = some ce.cls)
    (hrow : kRow (fun hpc => W p l e R s m args below meth c H locs cells slots Q (F0 m hpc ls [.ref q9])) s hh pc k) : vx_W p l e R s m args below meth c H locs cells slots Q (F0 m pc ls rest) q9 := by
  subst hE
  obtain ⟨pre, suf, q, rfl, hcov, h0, hcl1, hcast, hpre, hW⟩ := hrow
  refine vx_catch (own := RL) (name := kEx k) G.2.2.2.1 (tableOf pre) ⟨q.1, q.2.1, q.2.2.1, q.2.2.2⟩ (tableOf suf) (by rw [hx]; unfold tableOf; rw [List.map_append, List.map_cons]) (fun z hz => ?_) hcov h0 (G.2.2.2.2.1 _ hcl1) (kN_use G.2.2.2.2.2.1.2.1 _ hcast) hce hcv hcl hW
  obtain ⟨z', hz', rfl⟩ := List.mem_map.mp hz
  obtain ⟨g0, nm, g1, g2⟩ := hpre z' hz'
  exact Or.inr ⟨g0, nm, G.2.2.2.2.1 _ g1, g2⟩
theorem k_CVi (G : kCtx D A C p s m args c cc nL RL) (hP : kP D A C ka mu o H) (hS : kS A s H locs) (hsz : ls.size = nL) (hL : kLV RL index y (.code y b n ret)) (hy : kYok y As.length) (hM : kXi l y (.code y b n ret) rm D A C ka mu o H.size (.ref b0 :: As) k r ka' mu' o')
    (hrv : ∃ cell : Cell, H[b0]? = some cell ∧ cell.vm.isStatics = false ∧ s.vm.findClass y.cls = some cell.cls) (hR : rm.frames + 1 ≤ R.frames ∧ 8 + (n + 11) + rm.locals ≤ R.locals) (hf : cells + rm.cells ≤ R.cells ∧ slots + rm.slots ≤ R.slots) (hst : st0 = As.reverse ++ .ref b0 :: rest) (hW : (rest.map fun v => v.category).sum ≤ 8) (hdg : decode cc pc = .ok (.invokevirtual index, 3)) (hx : c.exceptionTable.toList = tableOf hh)
    (hth : ¬ k = 0 → ∀ (q9 : Addr) (H1 : Heap) (locs1 : List Loc), kP D A C ka mu o H1 → kS A s H1 locs1 → kRow (fun hpc => W p l e R s m args below meth c H1 locs1 (cells + rm.cells) (slots + rm.slots) Q (F0 m hpc ls [.ref q9])) s hh pc k)
    (kk : k = 0 → ∀ (H1 : Heap) (locs1 : List Loc), kP D A C ka' mu' o' H1 → kS A s H1 locs1 → W p l e R s m args below meth c H1 locs1 (cells + rm.cells) (slots + rm.slots) Q (F0 m (pc + 3) ls (.int r :: rest))) :
    W p l e R s m args below meth c H locs cells slots Q (F0 m pc ls st0) := by
  refine vx_calli (k_runX G hP hS hsz hL hy hM hrv hR hf hst hW hdg) hS (fun q _ h => kA_mono hS.1 q h) (fun q h => kA_mono hS.1 q h) (fun q _ h => kA_mono hS.1 q h) (fun E ce q9 u t H1 locs1 ht _ _ hB _ _ hS1 hce hcv hcl => ?_) (fun x _ t H1 locs1 ht _ hx2 hB _ _ hS1 => ?_)
  · obtain ⟨⟨hk, hE⟩, hPt⟩ := hB
    exact k_takes G hx hE hce hcv hcl (hth hk q9 H1 locs1 (by rw [← ht]; exact hPt) hS1)
  · obtain ⟨hk, rfl⟩ := hx2
    exact kk hk H1 locs1 (by rw [← ht]; exact hB) hS1
theorem k_CVv (G : kCtx D A C p s m args c cc nL RL) (hP : kP D A C ka mu o H) (hS : kS A s H locs) (hsz : ls.size = nL) (hL : kLV RL index y (.code y b n none)) (hy : kYok y As.length) (hM : kXv l y (.code y b n none) rm D A C ka mu o H.size (.ref b0 :: As) k ka' mu' o')
    (hrv : ∃ cell : Cell, H[b0]? = some cell ∧ cell.vm.isStatics = false ∧ s.vm.findClass y.cls = some cell.cls) (hR : rm.frames + 1 ≤ R.frames ∧ 8 + (n + 11) + rm.locals ≤ R.locals) (hf : cells + rm.cells ≤ R.cells ∧ slots + rm.slots ≤ R.slots) (hst : st0 = As.reverse ++ .ref b0 :: rest) (hW : (rest.map fun v => v.category).sum ≤ 8) (hdg : decode cc pc = .ok (.invokevirtual index, 3)) (hx : c.exceptionTable.toList = tableOf hh)
    (hth : ¬ k = 0 → ∀ (q9 : Addr) (H1 : Heap) (locs1 : List Loc), kP D A C ka mu o H1 → kS A s H1 locs1 → kRow (fun hpc => W p l e R s m args below meth c H1 locs1 (cells + rm.cells) (slots + rm.slots) Q (F0 m hpc ls [.ref q9])) s hh pc k)
    (kk : k = 0 → ∀ (H1 : Heap) (locs1 : List Loc), kP D A C ka' mu' o' H1 → kS A s H1 locs1 → W p l e R s m args below meth c H1 locs1 (cells + rm.cells) (slots + rm.slots) Q (F0 m (pc + 3) ls rest)) :
    W p l e R s m args below meth c H locs cells slots Q (F0 m pc ls st0) := by
  refine vx_callv (k_runX G hP hS hsz hL hy hM hrv hR hf hst hW hdg) hS (fun q _ h => kA_mono hS.1 q h) (fun q h => kA_mono hS.1 q h) (fun q _ h => kA_mono hS.1 q h) (fun E ce q9 u t H1 locs1 ht _ _ hB _ _ hS1 hce hcv hcl => ?_) (fun _ t H1 locs1 ht _ hx2 hB _ _ hS1 => ?_)
  · obtain ⟨⟨hk, hE⟩, hPt⟩ := hB
    exact k_takes G hx hE hce hcv hcl (hth hk q9 H1 locs1 (by rw [← ht]; exact hPt) hS1)
  · exact kk hx2 H1 locs1 (by rw [← ht]; exact hB) hS1
/-- the law calls a helper -/
theorem k_Hi (G : kCtx D A C p s m args c cc nL own) (hP : kP D A C ka mu o H) (hS : kS A s H locs) (hsz : ls.size = nL) (hL : kLS own index y (.codeWith y b n ret hh)) (hy : kYok y As.length) (hM : kMi l y (.codeWith y b n ret hh) rm D A C ka mu o H.size As r ka' mu' o')
    (hR : rm.frames + 1 ≤ R.frames ∧ 8 + (n + 11) + rm.locals ≤ R.locals) (hf : cells + rm.cells ≤ R.cells ∧ slots + rm.slots ≤ R.slots) (hst : st0 = As.reverse ++ rest) (hW : (rest.map fun v => v.category).sum ≤ 8) (hdg : decode cc pc = .ok (.invokestatic index, 3))
    (kk : ∀ (H1 : Heap) (locs1 : List Loc), kP D A C ka' mu' o' H1 → kS A s H1 locs1 → W p l e R s m args below meth c H1 locs1 (cells + rm.cells) (slots + rm.slots) Q (F0 m (pc + 3) ls (.int r :: rest))) : W p l e R s m args below meth c H locs cells slots Q (F0 m pc ls st0) :=
  k_goi hS (vx_runSW (As := As) (rest := rest) ⟨G.1, G.2.1, G.2.2.1, G.2.2.2.1, G.2.2.2.2.1⟩ hM (vx_cwSW As.length G.2.2.2.2.1 (kgoodS (fun _ h => h) hL.1 hL.2.1 hL.2.2.1 hL.2.2.2) rfl rfl rfl hy hR) ⟨kPre_blind, kpre G hP hS _⟩ rfl rfl hsz hst (lv_room hW) hdg hf) kk
end KH
/-! what kinds there are -/
def KW (n : Nat) (ka : kM) (P : Nat × Int32 × kM) : Prop := P.1 = 0 ∨ (P.2.2 = ka ∧ 1 ≤ P.1 ∧ P.1 ≤ n)
def KV (n : Nat) (ka : kM) (P : Nat × kM) : Prop := P.1 = 0 ∨ (P.2 = ka ∧ 1 ≤ P.1 ∧ P.1 ≤ n)
def KN (a b : Nat) (P : Nat × Int32) : Prop := P.1 = 0 ∨ (a ≤ P.1 ∧ P.1 ≤ b)
theorem KW_ite {n : Nat} {ka : kM} {c : Prop} [Decidable c] {x y : Nat × Int32 × kM} (h1 : KW n ka x) (h2 : KW n ka y) : KW n ka (if c then x else y) := by
  by_cases h : c
  · rw [if_pos h]; exact h1
  · rw [if_neg h]; exact h2
theorem KV_ite {n : Nat} {ka : kM} {c : Prop} [Decidable c] {x y : Nat × kM} (h1 : KV n ka x) (h2 : KV n ka y) : KV n ka (if c then x else y) := by
  by_cases h : c
  · rw [if_pos h]; exact h1
  · rw [if_neg h]; exact h2
theorem KN_ite {a b : Nat} {c : Prop} [Decidable c] {x y : Nat × Int32} (h1 : KN a b x) (h2 : KN a b y) : KN a b (if c then x else y) := by
  by_cases h : c
  · rw [if_pos h]; exact h1
  · rw [if_neg h]; exact h2
theorem KW_0 {n : Nat} {ka k : kM} {r : Int32} : KW n ka (0, r, k) := Or.inl rfl
theorem KV_0 {n : Nat} {ka k : kM} : KV n ka (0, k) := Or.inl rfl
theorem KN_0 {a b : Nat} {r : Int32} : KN a b (0, r) := Or.inl rfl
theorem KW_k {n k : Nat} {ka : kM} {r : Int32} (h : 1 ≤ k ∧ k ≤ n) : KW n ka (k, r, ka) := Or.inr ⟨rfl, h⟩
theorem KV_k {n k : Nat} {ka : kM} (h : 1 ≤ k ∧ k ≤ n) : KV n ka (k, ka) := Or.inr ⟨rfl, h⟩
theorem KN_k {a b k : Nat} {r : Int32} (h : a ≤ k ∧ k ≤ b) : KN a b (k, r) := Or.inr h
theorem kd_sealed {n : Nat} (ka : kM) (hn : 1 ≤ n) : f_X2_refuseIfSealed ka = 0 ∨ (1 ≤ f_X2_refuseIfSealed ka ∧ f_X2_refuseIfSealed ka ≤ n) := by
  rw [f_X2_refuseIfSealed]
  by_cases h : ka 0 7 = 0
  · rw [if_pos h]; exact Or.inl rfl
  · rw [if_neg h]; exact Or.inr ⟨Nat.le_refl _, hn⟩
theorem kd_told {a n : Nat} (ka : kM) (p : Int32) (ha : a ≤ 2) (hn : 2 ≤ n) : f_X2_refuseUnlessTold ka p = 0 ∨ (a ≤ f_X2_refuseUnlessTold ka p ∧ f_X2_refuseUnlessTold ka p ≤ n) := by
  rw [f_X2_refuseUnlessTold]
  by_cases h : p < 0
  · rw [if_pos h]; exact Or.inr ⟨ha, hn⟩
  · rw [if_neg h]
    by_cases h : (6 : Int32) ≤ p
    · rw [if_pos h]; exact Or.inr ⟨ha, hn⟩
    · rw [if_neg h]
      by_cases h : f_X1_isTold ka p.toNatClampNeg = 0
      · rw [if_pos h]; exact Or.inr ⟨ha, hn⟩
      · rw [if_neg h]; exact Or.inl rfl
theorem KW_or {n k : Nat} {ka : kM} {r : Int32} (h : k = 0 ∨ (1 ≤ k ∧ k ≤ n)) : KW n ka (k, r, ka) := h.elim Or.inl (fun q => Or.inr ⟨rfl, q⟩)
theorem KV_or {n k : Nat} {ka : kM} (h : k = 0 ∨ (1 ≤ k ∧ k ≤ n)) : KV n ka (k, ka) := h.elim Or.inl (fun q => Or.inr ⟨rfl, q⟩)
theorem kd_addr {a : Nat} (ka : kM) (p i : Int32) (ha : a ≤ 2) : (f_X2_addressOf ka p i).1 = 0 ∨ (a ≤ (f_X2_addressOf ka p i).1 ∧ (f_X2_addressOf ka p i).1 ≤ 3) := by
  rw [f_X2_addressOf]
  by_cases h : f_X2_refuseUnlessTold ka p = 0
  · rw [if_pos h]
    by_cases h2 : f_X1_holds ka p.toNatClampNeg i = 0
    · rw [if_pos h2]; exact Or.inr ⟨by show a ≤ 3; omega, by show 3 ≤ 3; omega⟩
    · rw [if_neg h2]; exact Or.inl rfl
  · rw [if_neg h]; exact kd_told ka p ha (by omega)
theorem kd_partition {ka : kM} {p0 p1 p2 p3 p4 : Int32} : KV 2 ka (f_X2_partition ka p0 p1 p2 p3 p4) := by
  unfold f_X2_partition
  repeat' first | (with_reducible exact KV_0) | (with_reducible exact KV_k (by decide)) | (with_reducible refine KV_ite ?_ ?_) | (with_reducible exact KV_or (kd_sealed _ (by decide))) | (with_reducible exact KV_or (kd_told _ _ (by decide) (by decide)))
theorem kd_channel {ka : kM} {p0 p1 p2 p3 : Int32} : KV 2 ka (f_X2_channel ka p0 p1 p2 p3) := by
  unfold f_X2_channel
  repeat' first | (with_reducible exact KV_0) | (with_reducible exact KV_k (by decide)) | (with_reducible refine KV_ite ?_ ?_) | (with_reducible exact KV_or (kd_sealed _ (by decide))) | (with_reducible exact KV_or (kd_told _ _ (by decide) (by decide)))
theorem kd_window {ka : kM} {p0 p1 : Int32} : KW 2 ka (f_X2_window ka p0 p1) := by
  unfold f_X2_window
  repeat' first | (with_reducible exact KW_0) | (with_reducible exact KW_k (by decide)) | (with_reducible refine KW_ite ?_ ?_) | (with_reducible exact KW_or (kd_sealed _ (by decide))) | (with_reducible exact KW_or (kd_told _ _ (by decide) (by decide)))
theorem kd_poke {ka : kM} {p0 p1 p2 : Int32} : KW 3 ka (f_X2_poke ka p0 p1 p2) := by
  unfold f_X2_poke
  repeat' first | (with_reducible exact KW_0) | (with_reducible exact KW_k (by decide)) | (with_reducible refine KW_ite ?_ ?_) | (with_reducible exact KW_or (kd_sealed _ (by decide))) | (with_reducible exact KW_or (kd_addr _ _ _ (by decide)))
theorem kd_seal {ka : kM} : KW 1 ka (f_X2_seal ka) := by
  unfold f_X2_seal
  repeat' first | (with_reducible exact KW_0) | (with_reducible exact KW_k (by decide)) | (with_reducible refine KW_ite ?_ ?_) | (with_reducible exact KW_or (kd_sealed _ (by decide)))
theorem kd_step {ka : kM} {p0 : Int32} : KW 2 ka (f_X2_step ka p0) := by
  unfold f_X2_step
  repeat' first | (with_reducible exact KW_0) | (with_reducible exact KW_k (by decide)) | (with_reducible refine KW_ite ?_ ?_)
theorem kd_peek {ka : kM} {p0 p1 : Int32} : KN 2 3 (f_X2_peek ka p0 p1) := by
  unfold f_X2_peek
  by_cases h : (f_X2_addressOf ka p0 p1).1 = 0
  · rw [if_pos h]; exact KN_0
  · rw [if_neg h]; exact kd_addr _ _ _ (by decide)
theorem kd_toldm {ka : kM} {p0 p1 : Int32} : KN 2 2 (f_X2_told ka p0 p1) := by
  unfold f_X2_told
  repeat' first | (with_reducible exact KN_0) | (with_reducible exact KN_k (by decide)) | (with_reducible refine KN_ite ?_ ?_)
theorem kd_has {ka : kM} {p0 p1 : Int32} : KN 2 2 (f_X2_has ka p0 p1) := by
  unfold f_X2_has
  repeat' first | (with_reducible exact KN_0) | (with_reducible exact KN_k (by decide)) | (with_reducible refine KN_ite ?_ ?_)
theorem kd_queued {ka : kM} {p0 p1 : Int32} : KN 2 2 (f_X2_queued ka p0 p1) := by
  unfold f_X2_queued
  repeat' first | (with_reducible exact KN_0) | (with_reducible exact KN_k (by decide)) | (with_reducible refine KN_ite ?_ ?_)
