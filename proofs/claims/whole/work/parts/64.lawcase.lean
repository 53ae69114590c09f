/-! ===== the law, call by call ===== -/
def kTail (p : Program) (l : Launch) (e : Env) (s : State) (m : MethodId) (below : List Frame) (meth : Method) (c : Code) (D : va_G) (A : Nat → Nat) (C : Nat → ClassId) (b t : Nat) (Q : State → Prop) : Prop :=
  ∀ (ka' mu' : kM) (o' : Int32) (H : Heap) (locs : List Loc) (ls : Array Slot) (c1 s1 : Nat), c1 ≤ 1000 + 10 * (t + 1) → s1 ≤ 10000 + 100 * (t + 1) → RV (5000 * ((t : Int) + 1)) ka' mu' → kP D A C ka' mu' o' H → kS A s H locs → lv_has ls 7 [(4, .int (nI (6 * t))), (3, .ref (A 57)), (2, .ref (A 34)), (1, .ref (A 0)), (0, .ref b)] → W p l e room_1 s m #[Value.ref b] below meth c H locs c1 s1 Q (F0 m 806 ls [])
theorem k_in {t L a : Nat} (ht : 6 * t + 6 ≤ L) (hL : L ≤ 3072) (ha : a < 6) : vp_in (nI (6 * t) + nI a) L := by
  rw [nI_add, vp_in_iff, nI_toInt (by omega)]
  omega
theorem cdI_z {k : Nat} (h : k ≤ 3) (hz : cdI k = 0) : k = 0 := by
  have h1 : (nI k).toInt = (k : Int) := nI_toInt (by omega)
  have h2 : nI k = 0 := hz
  rw [h2, show (0 : Int32).toInt = 0 from rfl] at h1
  omega
theorem cd1_z {k : Nat} (h : k = 0 ∨ (2 ≤ k ∧ k ≤ 3)) (hz : cd1 k = 0) : k = 0 := by
  have h1 : (nI (k - 1)).toInt = ((k - 1 : Nat) : Int) := nI_toInt (by omega)
  have h2 : nI (k - 1) = 0 := hz
  rw [h2, show (0 : Int32).toInt = 0 from rfl] at h1
  omega
theorem lg_self (x : Int64) : lg_cmp x x = 0 := by
  unfold lg_cmp
  rw [if_neg (fun h => Int64.lt_irrefl h), if_pos rfl]
set_option maxHeartbeats 4000000 in
set_option maxRecDepth 100000 in
theorem lc_partition {p : Program} {l : Launch} {e : Env} {s : State} {m : MethodId} {below : List Frame} {meth : Method} {c : Code} {H : Heap} {locs : List Loc} {ls : Array Slot} {Q : State → Prop} {b L t : Nat} {xs : Nat → Int32} {D : va_G} {A : Nat → Nat} {C : Nat → ClassId} {ka mu : kM} {o : Int32} (hl0 : l.stackTraces = false) (G : kCtx D A C p s m #[Value.ref b] c code 7 RL) (hX : va_X b L xs s s.heap) (hbl : b < s.heap.size) (hbA : ¬ kA A s.heap.size b) (ht : 6 * t + 6 ≤ L) (hL : L ≤ 3072) (hR : RV (5000 * (t : Int)) ka mu) (hP : kP D A C ka mu o H) (hS : kS A s H locs) (hl : lv_has ls 7 [(4, .int (nI (6 * t))), (3, .ref (A 57)), (2, .ref (A 34)), (1, .ref (A 0)), (0, .ref b)]) (tail : kTail p l e s m below meth c D A C b t Q) : W p l e room_1 s m #[Value.ref b] below meth c H locs (1000 + 10 * t) (10000 + 100 * t) Q (F0 m 104 ls []) := by
  have hIk : kInv ka := Rq_kInv hR.1.1
  have hIm : mInv mu := Rq_mInv hR.1.1
  have hpi := part_ok (p0 := (xs (nI (6 * t) + 1).toNatClampNeg)) (p1 := (xs (nI (6 * t) + 2).toNatClampNeg)) (p2 := (xs (nI (6 * t) + 3).toNatClampNeg)) (p3 := (xs (nI (6 * t) + 4).toNatClampNeg)) (p4 := (xs (nI (6 * t) + 5).toNatClampNeg)) hR
  refine lv_aload_n G.1 G.2.1 dL_law_104 rfl (lv_at hl 3 rfl) ?_
  refine lv_aload_n G.1 G.2.1 dL_law_105 rfl (lv_at hl 4 rfl) ?_
  refine lv_iload G.1 G.2.1 dL_law_106 (lv_at hl 0 rfl) ?_
  refine lv_iconst (v := 1) G.1 G.2.1 dL_law_108 (by decide) ?_
  refine lv_iadd G.1 G.2.1 dL_law_109 ?_
  refine va_sld G.1 G.2.1 hX hbl hbA hS (k_in ht hL (by decide) (a := 1)) dL_law_110 ?_
  refine lv_aload_n G.1 G.2.1 dL_law_111 rfl (lv_at hl 4 rfl) ?_
  refine lv_iload G.1 G.2.1 dL_law_112 (lv_at hl 0 rfl) ?_
  refine lv_iconst (v := 2) G.1 G.2.1 dL_law_114 (by decide) ?_
  refine lv_iadd G.1 G.2.1 dL_law_115 ?_
  refine va_sld G.1 G.2.1 hX hbl hbA hS (k_in ht hL (by decide) (a := 2)) dL_law_116 ?_
  refine lv_aload_n G.1 G.2.1 dL_law_117 rfl (lv_at hl 4 rfl) ?_
  refine lv_iload G.1 G.2.1 dL_law_118 (lv_at hl 0 rfl) ?_
  refine lv_iconst (v := 3) G.1 G.2.1 dL_law_120 (by decide) ?_
  refine lv_iadd G.1 G.2.1 dL_law_121 ?_
  refine va_sld G.1 G.2.1 hX hbl hbA hS (k_in ht hL (by decide) (a := 3)) dL_law_122 ?_
  refine lv_aload_n G.1 G.2.1 dL_law_123 rfl (lv_at hl 4 rfl) ?_
  refine lv_iload G.1 G.2.1 dL_law_124 (lv_at hl 0 rfl) ?_
  refine lv_iconst (v := 4) G.1 G.2.1 dL_law_126 (by decide) ?_
  refine lv_iadd G.1 G.2.1 dL_law_127 ?_
  refine va_sld G.1 G.2.1 hX hbl hbA hS (k_in ht hL (by decide) (a := 4)) dL_law_128 ?_
  refine lv_aload_n G.1 G.2.1 dL_law_129 rfl (lv_at hl 4 rfl) ?_
  refine lv_iload G.1 G.2.1 dL_law_130 (lv_at hl 0 rfl) ?_
  refine lv_iconst (v := 5) G.1 G.2.1 dL_law_132 (by decide) ?_
  refine lv_iadd G.1 G.2.1 dL_law_133 ?_
  refine va_sld G.1 G.2.1 hX hbl hbA hS (k_in ht hL (by decide) (a := 5)) dL_law_134 ?_
  refine k_Hi (As := [.ref (A 0), .int (xs (nI (6 * t) + 1).toNatClampNeg), .int (xs (nI (6 * t) + 2).toNatClampNeg), .int (xs (nI (6 * t) + 3).toNatClampNeg), .int (xs (nI (6 * t) + 4).toNatClampNeg), .int (xs (nI (6 * t) + 5).toNatClampNeg)]) (rest := []) G hP hS hl.1 kl_L_55 yk_L_partition (c_L_partition l D A C _ _ _ _ G.2.2.2.2.2.2 (xs (nI (6 * t) + 1).toNatClampNeg) (xs (nI (6 * t) + 2).toNatClampNeg) (xs (nI (6 * t) + 3).toNatClampNeg) (xs (nI (6 * t) + 4).toNatClampNeg) (xs (nI (6 * t) + 5).toNatClampNeg) hl0 ) (by unfold room_1; decide) ⟨by show 1000 + 10 * t + 2 ≤ 601024; omega, by show 10000 + 100 * t + 12 ≤ 7293034; omega⟩ rfl (Nat.le_of_ble_eq_true rfl) dL_law_135 (fun H locs hP hS => ?_)
  refine lv_istore (lv' := [(5, .int (cdI (f_X2_partition ka (xs (nI (6 * t) + 1).toNatClampNeg) (xs (nI (6 * t) + 2).toNatClampNeg) (xs (nI (6 * t) + 3).toNatClampNeg) (xs (nI (6 * t) + 4).toNatClampNeg) (xs (nI (6 * t) + 5).toNatClampNeg)).1)), (4, .int (nI (6 * t))), (3, .ref (A 57)), (2, .ref (A 34)), (1, .ref (A 0)), (0, .ref b)]) G.1 G.2.1 dL_law_138 hl (by decide) rfl (fun ls hl => ?_)
  refine lv_aload_n G.1 G.2.1 dL_law_140 rfl (lv_at hl 3 rfl) ?_
  refine lv_aload_n G.1 G.2.1 dL_law_141 rfl (lv_at hl 5 rfl) ?_
  refine lv_iload G.1 G.2.1 dL_law_142 (lv_at hl 1 rfl) ?_
  refine lv_iconst (v := 1) G.1 G.2.1 dL_law_144 (by decide) ?_
  refine lv_iadd G.1 G.2.1 dL_law_145 ?_
  refine va_sld G.1 G.2.1 hX hbl hbA hS (k_in ht hL (by decide) (a := 1)) dL_law_146 ?_
  refine lv_aload_n G.1 G.2.1 dL_law_147 rfl (lv_at hl 5 rfl) ?_
  refine lv_iload G.1 G.2.1 dL_law_148 (lv_at hl 1 rfl) ?_
  refine lv_iconst (v := 2) G.1 G.2.1 dL_law_150 (by decide) ?_
  refine lv_iadd G.1 G.2.1 dL_law_151 ?_
  refine va_sld G.1 G.2.1 hX hbl hbA hS (k_in ht hL (by decide) (a := 2)) dL_law_152 ?_
  refine lv_aload_n G.1 G.2.1 dL_law_153 rfl (lv_at hl 5 rfl) ?_
  refine lv_iload G.1 G.2.1 dL_law_154 (lv_at hl 1 rfl) ?_
  refine lv_iconst (v := 3) G.1 G.2.1 dL_law_156 (by decide) ?_
  refine lv_iadd G.1 G.2.1 dL_law_157 ?_
  refine va_sld G.1 G.2.1 hX hbl hbA hS (k_in ht hL (by decide) (a := 3)) dL_law_158 ?_
  refine lv_aload_n G.1 G.2.1 dL_law_159 rfl (lv_at hl 5 rfl) ?_
  refine lv_iload G.1 G.2.1 dL_law_160 (lv_at hl 1 rfl) ?_
  refine lv_iconst (v := 4) G.1 G.2.1 dL_law_162 (by decide) ?_
  refine lv_iadd G.1 G.2.1 dL_law_163 ?_
  refine va_sld G.1 G.2.1 hX hbl hbA hS (k_in ht hL (by decide) (a := 4)) dL_law_164 ?_
  refine lv_aload_n G.1 G.2.1 dL_law_165 rfl (lv_at hl 5 rfl) ?_
  refine lv_iload G.1 G.2.1 dL_law_166 (lv_at hl 1 rfl) ?_
  refine lv_iconst (v := 5) G.1 G.2.1 dL_law_168 (by decide) ?_
  refine lv_iadd G.1 G.2.1 dL_law_169 ?_
  refine va_sld G.1 G.2.1 hX hbl hbA hS (k_in ht hL (by decide) (a := 5)) dL_law_170 ?_
  refine k_Vv (As := [.int (xs (nI (6 * t) + 1).toNatClampNeg), .int (xs (nI (6 * t) + 2).toNatClampNeg), .int (xs (nI (6 * t) + 3).toNatClampNeg), .int (xs (nI (6 * t) + 4).toNatClampNeg), .int (xs (nI (6 * t) + 5).toNatClampNeg)]) (rest := []) G hP hS hl.1 kl_L_60 yk_X3_partition (c_X3_partition l D A C _ _ _ _ G.2.2.2.2.2.2 (xs (nI (6 * t) + 1).toNatClampNeg) (xs (nI (6 * t) + 2).toNatClampNeg) (xs (nI (6 * t) + 3).toNatClampNeg) (xs (nI (6 * t) + 4).toNatClampNeg) (xs (nI (6 * t) + 5).toNatClampNeg) ) (kr3 G hP) (by unfold room_1; decide) ⟨by show 1000 + 10 * t + 2 + 0 ≤ 601024; omega, by show 10000 + 100 * t + 12 + 0 ≤ 7293034; omega⟩ rfl (Nat.le_of_ble_eq_true rfl) dL_law_171 (fun H locs hP hS => ?_)
  refine lv_aload_n G.1 G.2.1 dL_law_174 rfl (lv_at hl 3 rfl) ?_
  refine k_Vi (As := []) (rest := []) G hP hS hl.1 kl_L_61 yk_X3_thrown (c_X3_thrown l D A C _ _ _ _ G.2.2.2.2.2.2) (kr3 G hP) (by unfold room_1; decide) ⟨by show 1000 + 10 * t + 2 + 0 + 0 ≤ 601024; omega, by show 10000 + 100 * t + 12 + 0 + 0 ≤ 7293034; omega⟩ rfl (Nat.le_of_ble_eq_true rfl) dL_law_175 (fun H locs hP hS => ?_)
  refine lv_iload G.1 G.2.1 dL_law_178 (lv_at hl 0 rfl) ?_
  refine lv_icmp_eq (tgt := 185) G.1 G.2.1 dL_law_180 (by decide) (fun _ => ?_) (fun c => absurd hpi.1 c)
  refine lv_goto (tgt := 806) G.1 G.2.1 dL_law_185 (by decide) ?_
  exact tail _ _ _ _ _ _ _ _ (by show 1000 + 10 * t + 2 + 0 + 0 ≤ _; omega) (by show 10000 + 100 * t + 12 + 0 + 0 ≤ _; omega) (RV_mono hpi.2 (by omega)) hP hS (lv_sub hl [1, 2, 3, 4, 5] rfl)
set_option maxHeartbeats 4000000 in
set_option maxRecDepth 100000 in
theorem lc_window {p : Program} {l : Launch} {e : Env} {s : State} {m : MethodId} {below : List Frame} {meth : Method} {c : Code} {H : Heap} {locs : List Loc} {ls : Array Slot} {Q : State → Prop} {b L t : Nat} {xs : Nat → Int32} {D : va_G} {A : Nat → Nat} {C : Nat → ClassId} {ka mu : kM} {o : Int32} (hl0 : l.stackTraces = false) (G : kCtx D A C p s m #[Value.ref b] c code 7 RL) (hX : va_X b L xs s s.heap) (hbl : b < s.heap.size) (hbA : ¬ kA A s.heap.size b) (ht : 6 * t + 6 ≤ L) (hL : L ≤ 3072) (hR : RV (5000 * (t : Int)) ka mu) (hP : kP D A C ka mu o H) (hS : kS A s H locs) (hl : lv_has ls 7 [(4, .int (nI (6 * t))), (3, .ref (A 57)), (2, .ref (A 34)), (1, .ref (A 0)), (0, .ref b)]) (tail : kTail p l e s m below meth c D A C b t Q) : W p l e room_1 s m #[Value.ref b] below meth c H locs (1000 + 10 * t) (10000 + 100 * t) Q (F0 m 188 ls []) := by
  have hIk : kInv ka := Rq_kInv hR.1.1
  have hIm : mInv mu := Rq_mInv hR.1.1
  have hpi := win_ok (p0 := (xs (nI (6 * t) + 1).toNatClampNeg)) (p1 := (xs (nI (6 * t) + 2).toNatClampNeg)) hR
  refine lv_aload_n G.1 G.2.1 dL_law_188 rfl (lv_at hl 3 rfl) ?_
  refine lv_aload_n G.1 G.2.1 dL_law_189 rfl (lv_at hl 4 rfl) ?_
  refine lv_iload G.1 G.2.1 dL_law_190 (lv_at hl 0 rfl) ?_
  refine lv_iconst (v := 1) G.1 G.2.1 dL_law_192 (by decide) ?_
  refine lv_iadd G.1 G.2.1 dL_law_193 ?_
  refine va_sld G.1 G.2.1 hX hbl hbA hS (k_in ht hL (by decide) (a := 1)) dL_law_194 ?_
  refine lv_aload_n G.1 G.2.1 dL_law_195 rfl (lv_at hl 4 rfl) ?_
  refine lv_iload G.1 G.2.1 dL_law_196 (lv_at hl 0 rfl) ?_
  refine lv_iconst (v := 2) G.1 G.2.1 dL_law_198 (by decide) ?_
  refine lv_iadd G.1 G.2.1 dL_law_199 ?_
  refine va_sld G.1 G.2.1 hX hbl hbA hS (k_in ht hL (by decide) (a := 2)) dL_law_200 ?_
  refine lv_aload_n G.1 G.2.1 dL_law_201 rfl (lv_at hl 1 rfl) ?_
  refine k_Hi (As := [.ref (A 0), .int (xs (nI (6 * t) + 1).toNatClampNeg), .int (xs (nI (6 * t) + 2).toNatClampNeg), .ref (A 57)]) (rest := []) G hP hS hl.1 kl_L_64 yk_L_window (c_L_window l D A C _ _ _ _ G.2.2.2.2.2.2 (xs (nI (6 * t) + 1).toNatClampNeg) (xs (nI (6 * t) + 2).toNatClampNeg) hl0 hIk) (by unfold room_1; decide) ⟨by show 1000 + 10 * t + 3 ≤ 601024; omega, by show 10000 + 100 * t + 18 ≤ 7293034; omega⟩ rfl (Nat.le_of_ble_eq_true rfl) dL_law_202 (fun H locs hP hS => ?_)
  refine lv_istore (lv' := [(5, .int (cdI (f_X2_window ka (xs (nI (6 * t) + 1).toNatClampNeg) (xs (nI (6 * t) + 2).toNatClampNeg)).1)), (4, .int (nI (6 * t))), (3, .ref (A 57)), (2, .ref (A 34)), (1, .ref (A 0)), (0, .ref b)]) G.1 G.2.1 dL_law_205 hl (by decide) rfl (fun ls hl => ?_)
  refine lv_aload_n G.1 G.2.1 dL_law_207 rfl (lv_at hl 3 rfl) ?_
  refine lv_aload_n G.1 G.2.1 dL_law_208 rfl (lv_at hl 5 rfl) ?_
  refine lv_iload G.1 G.2.1 dL_law_209 (lv_at hl 1 rfl) ?_
  refine lv_iconst (v := 1) G.1 G.2.1 dL_law_211 (by decide) ?_
  refine lv_iadd G.1 G.2.1 dL_law_212 ?_
  refine va_sld G.1 G.2.1 hX hbl hbA hS (k_in ht hL (by decide) (a := 1)) dL_law_213 ?_
  refine lv_aload_n G.1 G.2.1 dL_law_214 rfl (lv_at hl 5 rfl) ?_
  refine lv_iload G.1 G.2.1 dL_law_215 (lv_at hl 1 rfl) ?_
  refine lv_iconst (v := 2) G.1 G.2.1 dL_law_217 (by decide) ?_
  refine lv_iadd G.1 G.2.1 dL_law_218 ?_
  refine va_sld G.1 G.2.1 hX hbl hbA hS (k_in ht hL (by decide) (a := 2)) dL_law_219 ?_
  refine k_Vi (As := [.int (xs (nI (6 * t) + 1).toNatClampNeg), .int (xs (nI (6 * t) + 2).toNatClampNeg)]) (rest := []) G hP hS hl.1 kl_L_67 yk_X3_window (c_X3_window l D A C _ _ _ _ G.2.2.2.2.2.2 (xs (nI (6 * t) + 1).toNatClampNeg) (xs (nI (6 * t) + 2).toNatClampNeg) hIm) (kr3 G hP) (by unfold room_1; decide) ⟨by show 1000 + 10 * t + 3 + 0 ≤ 601024; omega, by show 10000 + 100 * t + 18 + 0 ≤ 7293034; omega⟩ rfl (Nat.le_of_ble_eq_true rfl) dL_law_220 (fun H locs hP hS => ?_)
  refine lv_istore (lv' := [(6, .int (f_X3_window mu (xs (nI (6 * t) + 1).toNatClampNeg) (xs (nI (6 * t) + 2).toNatClampNeg)).1), (5, .int (cdI (f_X2_window ka (xs (nI (6 * t) + 1).toNatClampNeg) (xs (nI (6 * t) + 2).toNatClampNeg)).1)), (4, .int (nI (6 * t))), (3, .ref (A 57)), (2, .ref (A 34)), (1, .ref (A 0)), (0, .ref b)]) G.1 G.2.1 dL_law_223 hl (by decide) rfl (fun ls hl => ?_)
  refine lv_aload_n G.1 G.2.1 dL_law_225 rfl (lv_at hl 4 rfl) ?_
  refine k_Vi (As := []) (rest := []) G hP hS hl.1 kl_L_61 yk_X3_thrown (c_X3_thrown l D A C _ _ _ _ G.2.2.2.2.2.2) (kr3 G hP) (by unfold room_1; decide) ⟨by show 1000 + 10 * t + 3 + 0 + 0 ≤ 601024; omega, by show 10000 + 100 * t + 18 + 0 + 0 ≤ 7293034; omega⟩ rfl (Nat.le_of_ble_eq_true rfl) dL_law_226 (fun H locs hP hS => ?_)
  refine lv_iload G.1 G.2.1 dL_law_229 (lv_at hl 1 rfl) ?_
  refine lv_icmp_eq (tgt := 236) G.1 G.2.1 dL_law_231 (by decide) (fun _ => ?_) (fun c => absurd hpi.1 c)
  refine lv_iload G.1 G.2.1 dL_law_236 (lv_at hl 1 rfl) ?_
  refine lv_if_ne (tgt := 253) G.1 G.2.1 dL_law_238 (by decide) (fun hz => ?_) (fun hz => ?_)
  · refine lv_goto (tgt := 806) G.1 G.2.1 dL_law_253 (by decide) ?_
    exact tail _ _ _ _ _ _ _ _ (by show 1000 + 10 * t + 3 + 0 + 0 ≤ _; omega) (by show 10000 + 100 * t + 18 + 0 + 0 ≤ _; omega) (RV_mono hpi.2.2 (by omega)) hP hS (lv_sub hl [2, 3, 4, 5, 6] rfl)
  · have hz0 : (f_X2_window ka (xs (nI (6 * t) + 1).toNatClampNeg) (xs (nI (6 * t) + 2).toNatClampNeg)).1 = 0 := cdI_z ((kd_window (ka := ka) (p0 := (xs (nI (6 * t) + 1).toNatClampNeg)) (p1 := (xs (nI (6 * t) + 2).toNatClampNeg))).elim (fun q => by omega) (fun q => by omega)) hz
    have ho : (if (f_X2_window ka (xs (nI (6 * t) + 1).toNatClampNeg) (xs (nI (6 * t) + 2).toNatClampNeg)).1 = 0 then (f_X2_window ka (xs (nI (6 * t) + 1).toNatClampNeg) (xs (nI (6 * t) + 2).toNatClampNeg)).2.1 else o) = (f_X3_window mu (xs (nI (6 * t) + 1).toNatClampNeg) (xs (nI (6 * t) + 2).toNatClampNeg)).1 := by rw [if_pos hz0]; exact hpi.2.1 hz0
    rw [ho] at hP
    refine lv_aload_n G.1 G.2.1 dL_law_241 rfl (lv_at hl 3 rfl) ?_
    refine lv_iconst (v := 0) G.1 G.2.1 dL_law_242 (by decide) ?_
    refine k_lald G hP dL_law_243 ?_
    refine lv_iload G.1 G.2.1 dL_law_244 (lv_at hl 0 rfl) ?_
    refine lv_i2l G.1 G.2.1 dL_law_246 rfl ?_
    refine W.lcmp G.1 G.2.1 dL_law_247 ?_
    refine lv_if_eq (tgt := 253) G.1 G.2.1 dL_law_248 (by decide) (fun _ => ?_) (fun c => absurd (lg_self _) c)
    refine lv_goto (tgt := 806) G.1 G.2.1 dL_law_253 (by decide) ?_
    exact tail _ _ _ _ _ _ _ _ (by show 1000 + 10 * t + 3 + 0 + 0 ≤ _; omega) (by show 10000 + 100 * t + 18 + 0 + 0 ≤ _; omega) (RV_mono hpi.2.2 (by omega)) hP hS (lv_sub hl [2, 3, 4, 5, 6] rfl)
set_option maxHeartbeats 4000000 in
set_option maxRecDepth 100000 in
theorem lc_channel {p : Program} {l : Launch} {e : Env} {s : State} {m : MethodId} {below : List Frame} {meth : Method} {c : Code} {H : Heap} {locs : List Loc} {ls : Array Slot} {Q : State → Prop} {b L t : Nat} {xs : Nat → Int32} {D : va_G} {A : Nat → Nat} {C : Nat → ClassId} {ka mu : kM} {o : Int32} (hl0 : l.stackTraces = false) (G : kCtx D A C p s m #[Value.ref b] c code 7 RL) (hX : va_X b L xs s s.heap) (hbl : b < s.heap.size) (hbA : ¬ kA A s.heap.size b) (ht : 6 * t + 6 ≤ L) (hL : L ≤ 3072) (hR : RV (5000 * (t : Int)) ka mu) (hP : kP D A C ka mu o H) (hS : kS A s H locs) (hl : lv_has ls 7 [(4, .int (nI (6 * t))), (3, .ref (A 57)), (2, .ref (A 34)), (1, .ref (A 0)), (0, .ref b)]) (tail : kTail p l e s m below meth c D A C b t Q) : W p l e room_1 s m #[Value.ref b] below meth c H locs (1000 + 10 * t) (10000 + 100 * t) Q (F0 m 256 ls []) := by
  have hIk : kInv ka := Rq_kInv hR.1.1
  have hIm : mInv mu := Rq_mInv hR.1.1
  have hpi := chan_ok (p0 := (xs (nI (6 * t) + 1).toNatClampNeg)) (p1 := (xs (nI (6 * t) + 2).toNatClampNeg)) (p2 := (xs (nI (6 * t) + 3).toNatClampNeg)) (p3 := (xs (nI (6 * t) + 4).toNatClampNeg)) hR
  refine lv_aload_n G.1 G.2.1 dL_law_256 rfl (lv_at hl 3 rfl) ?_
  refine lv_aload_n G.1 G.2.1 dL_law_257 rfl (lv_at hl 4 rfl) ?_
  refine lv_iload G.1 G.2.1 dL_law_258 (lv_at hl 0 rfl) ?_
  refine lv_iconst (v := 1) G.1 G.2.1 dL_law_260 (by decide) ?_
  refine lv_iadd G.1 G.2.1 dL_law_261 ?_
  refine va_sld G.1 G.2.1 hX hbl hbA hS (k_in ht hL (by decide) (a := 1)) dL_law_262 ?_
  refine lv_aload_n G.1 G.2.1 dL_law_263 rfl (lv_at hl 4 rfl) ?_
  refine lv_iload G.1 G.2.1 dL_law_264 (lv_at hl 0 rfl) ?_
  refine lv_iconst (v := 2) G.1 G.2.1 dL_law_266 (by decide) ?_
  refine lv_iadd G.1 G.2.1 dL_law_267 ?_
  refine va_sld G.1 G.2.1 hX hbl hbA hS (k_in ht hL (by decide) (a := 2)) dL_law_268 ?_
  refine lv_aload_n G.1 G.2.1 dL_law_269 rfl (lv_at hl 4 rfl) ?_
  refine lv_iload G.1 G.2.1 dL_law_270 (lv_at hl 0 rfl) ?_
  refine lv_iconst (v := 3) G.1 G.2.1 dL_law_272 (by decide) ?_
  refine lv_iadd G.1 G.2.1 dL_law_273 ?_
  refine va_sld G.1 G.2.1 hX hbl hbA hS (k_in ht hL (by decide) (a := 3)) dL_law_274 ?_
  refine lv_aload_n G.1 G.2.1 dL_law_275 rfl (lv_at hl 4 rfl) ?_
  refine lv_iload G.1 G.2.1 dL_law_276 (lv_at hl 0 rfl) ?_
  refine lv_iconst (v := 4) G.1 G.2.1 dL_law_278 (by decide) ?_
  refine lv_iadd G.1 G.2.1 dL_law_279 ?_
  refine va_sld G.1 G.2.1 hX hbl hbA hS (k_in ht hL (by decide) (a := 4)) dL_law_280 ?_
  refine k_Hi (As := [.ref (A 0), .int (xs (nI (6 * t) + 1).toNatClampNeg), .int (xs (nI (6 * t) + 2).toNatClampNeg), .int (xs (nI (6 * t) + 3).toNatClampNeg), .int (xs (nI (6 * t) + 4).toNatClampNeg)]) (rest := []) G hP hS hl.1 kl_L_68 yk_L_channel (c_L_channel l D A C _ _ _ _ G.2.2.2.2.2.2 (xs (nI (6 * t) + 1).toNatClampNeg) (xs (nI (6 * t) + 2).toNatClampNeg) (xs (nI (6 * t) + 3).toNatClampNeg) (xs (nI (6 * t) + 4).toNatClampNeg) hl0 ) (by unfold room_1; decide) ⟨by show 1000 + 10 * t + 4 ≤ 601024; omega, by show 10000 + 100 * t + 24 ≤ 7293034; omega⟩ rfl (Nat.le_of_ble_eq_true rfl) dL_law_281 (fun H locs hP hS => ?_)
  refine lv_istore (lv' := [(5, .int (cdI (f_X2_channel ka (xs (nI (6 * t) + 1).toNatClampNeg) (xs (nI (6 * t) + 2).toNatClampNeg) (xs (nI (6 * t) + 3).toNatClampNeg) (xs (nI (6 * t) + 4).toNatClampNeg)).1)), (4, .int (nI (6 * t))), (3, .ref (A 57)), (2, .ref (A 34)), (1, .ref (A 0)), (0, .ref b)]) G.1 G.2.1 dL_law_284 hl (by decide) rfl (fun ls hl => ?_)
  refine lv_aload_n G.1 G.2.1 dL_law_286 rfl (lv_at hl 3 rfl) ?_
  refine lv_aload_n G.1 G.2.1 dL_law_287 rfl (lv_at hl 5 rfl) ?_
  refine lv_iload G.1 G.2.1 dL_law_288 (lv_at hl 1 rfl) ?_
  refine lv_iconst (v := 1) G.1 G.2.1 dL_law_290 (by decide) ?_
  refine lv_iadd G.1 G.2.1 dL_law_291 ?_
  refine va_sld G.1 G.2.1 hX hbl hbA hS (k_in ht hL (by decide) (a := 1)) dL_law_292 ?_
  refine lv_aload_n G.1 G.2.1 dL_law_293 rfl (lv_at hl 5 rfl) ?_
  refine lv_iload G.1 G.2.1 dL_law_294 (lv_at hl 1 rfl) ?_
  refine lv_iconst (v := 2) G.1 G.2.1 dL_law_296 (by decide) ?_
  refine lv_iadd G.1 G.2.1 dL_law_297 ?_
  refine va_sld G.1 G.2.1 hX hbl hbA hS (k_in ht hL (by decide) (a := 2)) dL_law_298 ?_
  refine lv_aload_n G.1 G.2.1 dL_law_299 rfl (lv_at hl 5 rfl) ?_
  refine lv_iload G.1 G.2.1 dL_law_300 (lv_at hl 1 rfl) ?_
  refine lv_iconst (v := 3) G.1 G.2.1 dL_law_302 (by decide) ?_
  refine lv_iadd G.1 G.2.1 dL_law_303 ?_
  refine va_sld G.1 G.2.1 hX hbl hbA hS (k_in ht hL (by decide) (a := 3)) dL_law_304 ?_
  refine lv_aload_n G.1 G.2.1 dL_law_305 rfl (lv_at hl 5 rfl) ?_
  refine lv_iload G.1 G.2.1 dL_law_306 (lv_at hl 1 rfl) ?_
  refine lv_iconst (v := 4) G.1 G.2.1 dL_law_308 (by decide) ?_
  refine lv_iadd G.1 G.2.1 dL_law_309 ?_
  refine va_sld G.1 G.2.1 hX hbl hbA hS (k_in ht hL (by decide) (a := 4)) dL_law_310 ?_
  refine k_Vv (As := [.int (xs (nI (6 * t) + 1).toNatClampNeg), .int (xs (nI (6 * t) + 2).toNatClampNeg), .int (xs (nI (6 * t) + 3).toNatClampNeg), .int (xs (nI (6 * t) + 4).toNatClampNeg)]) (rest := []) G hP hS hl.1 kl_L_71 yk_X3_channel (c_X3_channel l D A C _ _ _ _ G.2.2.2.2.2.2 (xs (nI (6 * t) + 1).toNatClampNeg) (xs (nI (6 * t) + 2).toNatClampNeg) (xs (nI (6 * t) + 3).toNatClampNeg) (xs (nI (6 * t) + 4).toNatClampNeg) ) (kr3 G hP) (by unfold room_1; decide) ⟨by show 1000 + 10 * t + 4 + 0 ≤ 601024; omega, by show 10000 + 100 * t + 24 + 0 ≤ 7293034; omega⟩ rfl (Nat.le_of_ble_eq_true rfl) dL_law_311 (fun H locs hP hS => ?_)
  refine lv_aload_n G.1 G.2.1 dL_law_314 rfl (lv_at hl 3 rfl) ?_
  refine k_Vi (As := []) (rest := []) G hP hS hl.1 kl_L_61 yk_X3_thrown (c_X3_thrown l D A C _ _ _ _ G.2.2.2.2.2.2) (kr3 G hP) (by unfold room_1; decide) ⟨by show 1000 + 10 * t + 4 + 0 + 0 ≤ 601024; omega, by show 10000 + 100 * t + 24 + 0 + 0 ≤ 7293034; omega⟩ rfl (Nat.le_of_ble_eq_true rfl) dL_law_315 (fun H locs hP hS => ?_)
  refine lv_iload G.1 G.2.1 dL_law_318 (lv_at hl 0 rfl) ?_
  refine lv_icmp_eq (tgt := 325) G.1 G.2.1 dL_law_320 (by decide) (fun _ => ?_) (fun c => absurd hpi.1 c)
  refine lv_goto (tgt := 806) G.1 G.2.1 dL_law_325 (by decide) ?_
  exact tail _ _ _ _ _ _ _ _ (by show 1000 + 10 * t + 4 + 0 + 0 ≤ _; omega) (by show 10000 + 100 * t + 24 + 0 + 0 ≤ _; omega) (RV_mono hpi.2 (by omega)) hP hS (lv_sub hl [1, 2, 3, 4, 5] rfl)
set_option maxHeartbeats 4000000 in
set_option maxRecDepth 100000 in
theorem lc_poke {p : Program} {l : Launch} {e : Env} {s : State} {m : MethodId} {below : List Frame} {meth : Method} {c : Code} {H : Heap} {locs : List Loc} {ls : Array Slot} {Q : State → Prop} {b L t : Nat} {xs : Nat → Int32} {D : va_G} {A : Nat → Nat} {C : Nat → ClassId} {ka mu : kM} {o : Int32} (hl0 : l.stackTraces = false) (G : kCtx D A C p s m #[Value.ref b] c code 7 RL) (hX : va_X b L xs s s.heap) (hbl : b < s.heap.size) (hbA : ¬ kA A s.heap.size b) (ht : 6 * t + 6 ≤ L) (hL : L ≤ 3072) (hR : RV (5000 * (t : Int)) ka mu) (hP : kP D A C ka mu o H) (hS : kS A s H locs) (hl : lv_has ls 7 [(4, .int (nI (6 * t))), (3, .ref (A 57)), (2, .ref (A 34)), (1, .ref (A 0)), (0, .ref b)]) (tail : kTail p l e s m below meth c D A C b t Q) : W p l e room_1 s m #[Value.ref b] below meth c H locs (1000 + 10 * t) (10000 + 100 * t) Q (F0 m 328 ls []) := by
  have hIk : kInv ka := Rq_kInv hR.1.1
  have hIm : mInv mu := Rq_mInv hR.1.1
  have hpi := poke_ok (p0 := (xs (nI (6 * t) + 1).toNatClampNeg)) (p1 := (xs (nI (6 * t) + 2).toNatClampNeg)) (p2 := (xs (nI (6 * t) + 3).toNatClampNeg)) hR
  refine lv_aload_n G.1 G.2.1 dL_law_328 rfl (lv_at hl 3 rfl) ?_
  refine lv_aload_n G.1 G.2.1 dL_law_329 rfl (lv_at hl 4 rfl) ?_
  refine lv_iload G.1 G.2.1 dL_law_330 (lv_at hl 0 rfl) ?_
  refine lv_iconst (v := 1) G.1 G.2.1 dL_law_332 (by decide) ?_
  refine lv_iadd G.1 G.2.1 dL_law_333 ?_
  refine va_sld G.1 G.2.1 hX hbl hbA hS (k_in ht hL (by decide) (a := 1)) dL_law_334 ?_
  refine lv_aload_n G.1 G.2.1 dL_law_335 rfl (lv_at hl 4 rfl) ?_
  refine lv_iload G.1 G.2.1 dL_law_336 (lv_at hl 0 rfl) ?_
  refine lv_iconst (v := 2) G.1 G.2.1 dL_law_338 (by decide) ?_
  refine lv_iadd G.1 G.2.1 dL_law_339 ?_
  refine va_sld G.1 G.2.1 hX hbl hbA hS (k_in ht hL (by decide) (a := 2)) dL_law_340 ?_
  refine lv_aload_n G.1 G.2.1 dL_law_341 rfl (lv_at hl 4 rfl) ?_
  refine lv_iload G.1 G.2.1 dL_law_342 (lv_at hl 0 rfl) ?_
  refine lv_iconst (v := 3) G.1 G.2.1 dL_law_344 (by decide) ?_
  refine lv_iadd G.1 G.2.1 dL_law_345 ?_
  refine va_sld G.1 G.2.1 hX hbl hbA hS (k_in ht hL (by decide) (a := 3)) dL_law_346 ?_
  refine lv_aload_n G.1 G.2.1 dL_law_347 rfl (lv_at hl 1 rfl) ?_
  refine k_Hi (As := [.ref (A 0), .int (xs (nI (6 * t) + 1).toNatClampNeg), .int (xs (nI (6 * t) + 2).toNatClampNeg), .int (xs (nI (6 * t) + 3).toNatClampNeg), .ref (A 57)]) (rest := []) G hP hS hl.1 kl_L_72 yk_L_poke (c_L_poke l D A C _ _ _ _ G.2.2.2.2.2.2 (xs (nI (6 * t) + 1).toNatClampNeg) (xs (nI (6 * t) + 2).toNatClampNeg) (xs (nI (6 * t) + 3).toNatClampNeg) hl0 hIk) (by unfold room_1; decide) ⟨by show 1000 + 10 * t + 3 ≤ 601024; omega, by show 10000 + 100 * t + 18 ≤ 7293034; omega⟩ rfl (Nat.le_of_ble_eq_true rfl) dL_law_348 (fun H locs hP hS => ?_)
  refine lv_istore (lv' := [(5, .int (cdI (f_X2_poke ka (xs (nI (6 * t) + 1).toNatClampNeg) (xs (nI (6 * t) + 2).toNatClampNeg) (xs (nI (6 * t) + 3).toNatClampNeg)).1)), (4, .int (nI (6 * t))), (3, .ref (A 57)), (2, .ref (A 34)), (1, .ref (A 0)), (0, .ref b)]) G.1 G.2.1 dL_law_351 hl (by decide) rfl (fun ls hl => ?_)
  refine lv_aload_n G.1 G.2.1 dL_law_353 rfl (lv_at hl 3 rfl) ?_
  refine lv_aload_n G.1 G.2.1 dL_law_354 rfl (lv_at hl 5 rfl) ?_
  refine lv_iload G.1 G.2.1 dL_law_355 (lv_at hl 1 rfl) ?_
  refine lv_iconst (v := 1) G.1 G.2.1 dL_law_357 (by decide) ?_
  refine lv_iadd G.1 G.2.1 dL_law_358 ?_
  refine va_sld G.1 G.2.1 hX hbl hbA hS (k_in ht hL (by decide) (a := 1)) dL_law_359 ?_
  refine lv_aload_n G.1 G.2.1 dL_law_360 rfl (lv_at hl 5 rfl) ?_
  refine lv_iload G.1 G.2.1 dL_law_361 (lv_at hl 1 rfl) ?_
  refine lv_iconst (v := 2) G.1 G.2.1 dL_law_363 (by decide) ?_
  refine lv_iadd G.1 G.2.1 dL_law_364 ?_
  refine va_sld G.1 G.2.1 hX hbl hbA hS (k_in ht hL (by decide) (a := 2)) dL_law_365 ?_
  refine lv_aload_n G.1 G.2.1 dL_law_366 rfl (lv_at hl 5 rfl) ?_
  refine lv_iload G.1 G.2.1 dL_law_367 (lv_at hl 1 rfl) ?_
  refine lv_iconst (v := 3) G.1 G.2.1 dL_law_369 (by decide) ?_
  refine lv_iadd G.1 G.2.1 dL_law_370 ?_
  refine va_sld G.1 G.2.1 hX hbl hbA hS (k_in ht hL (by decide) (a := 3)) dL_law_371 ?_
  refine k_Vi (As := [.int (xs (nI (6 * t) + 1).toNatClampNeg), .int (xs (nI (6 * t) + 2).toNatClampNeg), .int (xs (nI (6 * t) + 3).toNatClampNeg)]) (rest := []) G hP hS hl.1 kl_L_75 yk_X3_poke (c_X3_poke l D A C _ _ _ _ G.2.2.2.2.2.2 (xs (nI (6 * t) + 1).toNatClampNeg) (xs (nI (6 * t) + 2).toNatClampNeg) (xs (nI (6 * t) + 3).toNatClampNeg) hIm) (kr3 G hP) (by unfold room_1; decide) ⟨by show 1000 + 10 * t + 3 + 0 ≤ 601024; omega, by show 10000 + 100 * t + 18 + 0 ≤ 7293034; omega⟩ rfl (Nat.le_of_ble_eq_true rfl) dL_law_372 (fun H locs hP hS => ?_)
  refine lv_istore (lv' := [(6, .int (f_X3_poke mu (xs (nI (6 * t) + 1).toNatClampNeg) (xs (nI (6 * t) + 2).toNatClampNeg) (xs (nI (6 * t) + 3).toNatClampNeg)).1), (5, .int (cdI (f_X2_poke ka (xs (nI (6 * t) + 1).toNatClampNeg) (xs (nI (6 * t) + 2).toNatClampNeg) (xs (nI (6 * t) + 3).toNatClampNeg)).1)), (4, .int (nI (6 * t))), (3, .ref (A 57)), (2, .ref (A 34)), (1, .ref (A 0)), (0, .ref b)]) G.1 G.2.1 dL_law_375 hl (by decide) rfl (fun ls hl => ?_)
  refine lv_aload_n G.1 G.2.1 dL_law_377 rfl (lv_at hl 4 rfl) ?_
  refine k_Vi (As := []) (rest := []) G hP hS hl.1 kl_L_61 yk_X3_thrown (c_X3_thrown l D A C _ _ _ _ G.2.2.2.2.2.2) (kr3 G hP) (by unfold room_1; decide) ⟨by show 1000 + 10 * t + 3 + 0 + 0 ≤ 601024; omega, by show 10000 + 100 * t + 18 + 0 + 0 ≤ 7293034; omega⟩ rfl (Nat.le_of_ble_eq_true rfl) dL_law_378 (fun H locs hP hS => ?_)
  refine lv_iload G.1 G.2.1 dL_law_381 (lv_at hl 1 rfl) ?_
  refine lv_icmp_eq (tgt := 388) G.1 G.2.1 dL_law_383 (by decide) (fun _ => ?_) (fun c => absurd hpi.1 c)
  refine lv_iload G.1 G.2.1 dL_law_388 (lv_at hl 1 rfl) ?_
  refine lv_if_ne (tgt := 405) G.1 G.2.1 dL_law_390 (by decide) (fun hz => ?_) (fun hz => ?_)
  · refine lv_goto (tgt := 806) G.1 G.2.1 dL_law_405 (by decide) ?_
    exact tail _ _ _ _ _ _ _ _ (by show 1000 + 10 * t + 3 + 0 + 0 ≤ _; omega) (by show 10000 + 100 * t + 18 + 0 + 0 ≤ _; omega) (RV_mono hpi.2.2 (by omega)) hP hS (lv_sub hl [2, 3, 4, 5, 6] rfl)
  · have hz0 : (f_X2_poke ka (xs (nI (6 * t) + 1).toNatClampNeg) (xs (nI (6 * t) + 2).toNatClampNeg) (xs (nI (6 * t) + 3).toNatClampNeg)).1 = 0 := cdI_z ((kd_poke (ka := ka) (p0 := (xs (nI (6 * t) + 1).toNatClampNeg)) (p1 := (xs (nI (6 * t) + 2).toNatClampNeg)) (p2 := (xs (nI (6 * t) + 3).toNatClampNeg))).elim (fun q => by omega) (fun q => by omega)) hz
    have ho : (if (f_X2_poke ka (xs (nI (6 * t) + 1).toNatClampNeg) (xs (nI (6 * t) + 2).toNatClampNeg) (xs (nI (6 * t) + 3).toNatClampNeg)).1 = 0 then (f_X2_poke ka (xs (nI (6 * t) + 1).toNatClampNeg) (xs (nI (6 * t) + 2).toNatClampNeg) (xs (nI (6 * t) + 3).toNatClampNeg)).2.1 else o) = (f_X3_poke mu (xs (nI (6 * t) + 1).toNatClampNeg) (xs (nI (6 * t) + 2).toNatClampNeg) (xs (nI (6 * t) + 3).toNatClampNeg)).1 := by rw [if_pos hz0]; exact hpi.2.1 hz0
    rw [ho] at hP
    refine lv_aload_n G.1 G.2.1 dL_law_393 rfl (lv_at hl 3 rfl) ?_
    refine lv_iconst (v := 0) G.1 G.2.1 dL_law_394 (by decide) ?_
    refine k_lald G hP dL_law_395 ?_
    refine lv_iload G.1 G.2.1 dL_law_396 (lv_at hl 0 rfl) ?_
    refine lv_i2l G.1 G.2.1 dL_law_398 rfl ?_
    refine W.lcmp G.1 G.2.1 dL_law_399 ?_
    refine lv_if_eq (tgt := 405) G.1 G.2.1 dL_law_400 (by decide) (fun _ => ?_) (fun c => absurd (lg_self _) c)
    refine lv_goto (tgt := 806) G.1 G.2.1 dL_law_405 (by decide) ?_
    exact tail _ _ _ _ _ _ _ _ (by show 1000 + 10 * t + 3 + 0 + 0 ≤ _; omega) (by show 10000 + 100 * t + 18 + 0 + 0 ≤ _; omega) (RV_mono hpi.2.2 (by omega)) hP hS (lv_sub hl [2, 3, 4, 5, 6] rfl)
set_option maxHeartbeats 4000000 in
set_option maxRecDepth 100000 in
theorem lc_peek {p : Program} {l : Launch} {e : Env} {s : State} {m : MethodId} {below : List Frame} {meth : Method} {c : Code} {H : Heap} {locs : List Loc} {ls : Array Slot} {Q : State → Prop} {b L t : Nat} {xs : Nat → Int32} {D : va_G} {A : Nat → Nat} {C : Nat → ClassId} {ka mu : kM} {o : Int32} (hl0 : l.stackTraces = false) (G : kCtx D A C p s m #[Value.ref b] c code 7 RL) (hX : va_X b L xs s s.heap) (hbl : b < s.heap.size) (hbA : ¬ kA A s.heap.size b) (ht : 6 * t + 6 ≤ L) (hL : L ≤ 3072) (hR : RV (5000 * (t : Int)) ka mu) (hP : kP D A C ka mu o H) (hS : kS A s H locs) (hl : lv_has ls 7 [(4, .int (nI (6 * t))), (3, .ref (A 57)), (2, .ref (A 34)), (1, .ref (A 0)), (0, .ref b)]) (tail : kTail p l e s m below meth c D A C b t Q) : W p l e room_1 s m #[Value.ref b] below meth c H locs (1000 + 10 * t) (10000 + 100 * t) Q (F0 m 408 ls []) := by
  have hIk : kInv ka := Rq_kInv hR.1.1
  have hIm : mInv mu := Rq_mInv hR.1.1
  have hpi := peek_ok (p0 := (xs (nI (6 * t) + 1).toNatClampNeg)) (p1 := (xs (nI (6 * t) + 2).toNatClampNeg)) hR
  refine lv_aload_n G.1 G.2.1 dL_law_408 rfl (lv_at hl 3 rfl) ?_
  refine lv_aload_n G.1 G.2.1 dL_law_409 rfl (lv_at hl 4 rfl) ?_
  refine lv_iload G.1 G.2.1 dL_law_410 (lv_at hl 0 rfl) ?_
  refine lv_iconst (v := 1) G.1 G.2.1 dL_law_412 (by decide) ?_
  refine lv_iadd G.1 G.2.1 dL_law_413 ?_
  refine va_sld G.1 G.2.1 hX hbl hbA hS (k_in ht hL (by decide) (a := 1)) dL_law_414 ?_
  refine lv_aload_n G.1 G.2.1 dL_law_415 rfl (lv_at hl 4 rfl) ?_
  refine lv_iload G.1 G.2.1 dL_law_416 (lv_at hl 0 rfl) ?_
  refine lv_iconst (v := 2) G.1 G.2.1 dL_law_418 (by decide) ?_
  refine lv_iadd G.1 G.2.1 dL_law_419 ?_
  refine va_sld G.1 G.2.1 hX hbl hbA hS (k_in ht hL (by decide) (a := 2)) dL_law_420 ?_
  refine lv_aload_n G.1 G.2.1 dL_law_421 rfl (lv_at hl 1 rfl) ?_
  refine k_Hi (As := [.ref (A 0), .int (xs (nI (6 * t) + 1).toNatClampNeg), .int (xs (nI (6 * t) + 2).toNatClampNeg), .ref (A 57)]) (rest := []) G hP hS hl.1 kl_L_76 yk_L_peek (c_L_peek l D A C _ _ _ _ G.2.2.2.2.2.2 (xs (nI (6 * t) + 1).toNatClampNeg) (xs (nI (6 * t) + 2).toNatClampNeg) hl0 hIk) (by unfold room_1; decide) ⟨by show 1000 + 10 * t + 2 ≤ 601024; omega, by show 10000 + 100 * t + 12 ≤ 7293034; omega⟩ rfl (Nat.le_of_ble_eq_true rfl) dL_law_422 (fun H locs hP hS => ?_)
  refine lv_istore (lv' := [(5, .int (cd1 (f_X2_peek ka (xs (nI (6 * t) + 1).toNatClampNeg) (xs (nI (6 * t) + 2).toNatClampNeg)).1)), (4, .int (nI (6 * t))), (3, .ref (A 57)), (2, .ref (A 34)), (1, .ref (A 0)), (0, .ref b)]) G.1 G.2.1 dL_law_425 hl (by decide) rfl (fun ls hl => ?_)
  refine lv_aload_n G.1 G.2.1 dL_law_427 rfl (lv_at hl 3 rfl) ?_
  refine lv_aload_n G.1 G.2.1 dL_law_428 rfl (lv_at hl 5 rfl) ?_
  refine lv_iload G.1 G.2.1 dL_law_429 (lv_at hl 1 rfl) ?_
  refine lv_iconst (v := 1) G.1 G.2.1 dL_law_431 (by decide) ?_
  refine lv_iadd G.1 G.2.1 dL_law_432 ?_
  refine va_sld G.1 G.2.1 hX hbl hbA hS (k_in ht hL (by decide) (a := 1)) dL_law_433 ?_
  refine lv_aload_n G.1 G.2.1 dL_law_434 rfl (lv_at hl 5 rfl) ?_
  refine lv_iload G.1 G.2.1 dL_law_435 (lv_at hl 1 rfl) ?_
  refine lv_iconst (v := 2) G.1 G.2.1 dL_law_437 (by decide) ?_
  refine lv_iadd G.1 G.2.1 dL_law_438 ?_
  refine va_sld G.1 G.2.1 hX hbl hbA hS (k_in ht hL (by decide) (a := 2)) dL_law_439 ?_
  refine k_Vi (As := [.int (xs (nI (6 * t) + 1).toNatClampNeg), .int (xs (nI (6 * t) + 2).toNatClampNeg)]) (rest := []) G hP hS hl.1 kl_L_78 yk_X3_peek (c_X3_peek l D A C _ _ _ _ G.2.2.2.2.2.2 (xs (nI (6 * t) + 1).toNatClampNeg) (xs (nI (6 * t) + 2).toNatClampNeg) hIm) (kr3 G hP) (by unfold room_1; decide) ⟨by show 1000 + 10 * t + 2 + 0 ≤ 601024; omega, by show 10000 + 100 * t + 12 + 0 ≤ 7293034; omega⟩ rfl (Nat.le_of_ble_eq_true rfl) dL_law_440 (fun H locs hP hS => ?_)
  refine lv_istore (lv' := [(6, .int (f_X3_peek mu (xs (nI (6 * t) + 1).toNatClampNeg) (xs (nI (6 * t) + 2).toNatClampNeg)).1), (5, .int (cd1 (f_X2_peek ka (xs (nI (6 * t) + 1).toNatClampNeg) (xs (nI (6 * t) + 2).toNatClampNeg)).1)), (4, .int (nI (6 * t))), (3, .ref (A 57)), (2, .ref (A 34)), (1, .ref (A 0)), (0, .ref b)]) G.1 G.2.1 dL_law_443 hl (by decide) rfl (fun ls hl => ?_)
  refine lv_aload_n G.1 G.2.1 dL_law_445 rfl (lv_at hl 4 rfl) ?_
  refine k_Vi (As := []) (rest := []) G hP hS hl.1 kl_L_61 yk_X3_thrown (c_X3_thrown l D A C _ _ _ _ G.2.2.2.2.2.2) (kr3 G hP) (by unfold room_1; decide) ⟨by show 1000 + 10 * t + 2 + 0 + 0 ≤ 601024; omega, by show 10000 + 100 * t + 12 + 0 + 0 ≤ 7293034; omega⟩ rfl (Nat.le_of_ble_eq_true rfl) dL_law_446 (fun H locs hP hS => ?_)
  refine lv_iload G.1 G.2.1 dL_law_449 (lv_at hl 1 rfl) ?_
  refine lv_icmp_eq (tgt := 456) G.1 G.2.1 dL_law_451 (by decide) (fun _ => ?_) (fun c => absurd hpi.1 c)
  refine lv_iload G.1 G.2.1 dL_law_456 (lv_at hl 1 rfl) ?_
  refine lv_if_ne (tgt := 473) G.1 G.2.1 dL_law_458 (by decide) (fun hz => ?_) (fun hz => ?_)
  · refine lv_goto (tgt := 806) G.1 G.2.1 dL_law_473 (by decide) ?_
    exact tail _ _ _ _ _ _ _ _ (by show 1000 + 10 * t + 2 + 0 + 0 ≤ _; omega) (by show 10000 + 100 * t + 12 + 0 + 0 ≤ _; omega) (RV_mono hpi.2.2 (by omega)) hP hS (lv_sub hl [2, 3, 4, 5, 6] rfl)
  · have hz0 : (f_X2_peek ka (xs (nI (6 * t) + 1).toNatClampNeg) (xs (nI (6 * t) + 2).toNatClampNeg)).1 = 0 := cd1_z ((kd_peek (ka := ka) (p0 := (xs (nI (6 * t) + 1).toNatClampNeg)) (p1 := (xs (nI (6 * t) + 2).toNatClampNeg))).elim Or.inl (fun q => Or.inr (by omega))) hz
    have ho : (if (f_X2_peek ka (xs (nI (6 * t) + 1).toNatClampNeg) (xs (nI (6 * t) + 2).toNatClampNeg)).1 = 0 then (f_X2_peek ka (xs (nI (6 * t) + 1).toNatClampNeg) (xs (nI (6 * t) + 2).toNatClampNeg)).2 else o) = (f_X3_peek mu (xs (nI (6 * t) + 1).toNatClampNeg) (xs (nI (6 * t) + 2).toNatClampNeg)).1 := by rw [if_pos hz0]; exact hpi.2.1 hz0
    rw [ho] at hP
    refine lv_aload_n G.1 G.2.1 dL_law_461 rfl (lv_at hl 3 rfl) ?_
    refine lv_iconst (v := 0) G.1 G.2.1 dL_law_462 (by decide) ?_
    refine k_lald G hP dL_law_463 ?_
    refine lv_iload G.1 G.2.1 dL_law_464 (lv_at hl 0 rfl) ?_
    refine lv_i2l G.1 G.2.1 dL_law_466 rfl ?_
    refine W.lcmp G.1 G.2.1 dL_law_467 ?_
    refine lv_if_eq (tgt := 473) G.1 G.2.1 dL_law_468 (by decide) (fun _ => ?_) (fun c => absurd (lg_self _) c)
    refine lv_goto (tgt := 806) G.1 G.2.1 dL_law_473 (by decide) ?_
    exact tail _ _ _ _ _ _ _ _ (by show 1000 + 10 * t + 2 + 0 + 0 ≤ _; omega) (by show 10000 + 100 * t + 12 + 0 + 0 ≤ _; omega) (RV_mono hpi.2.2 (by omega)) hP hS (lv_sub hl [2, 3, 4, 5, 6] rfl)
set_option maxHeartbeats 4000000 in
set_option maxRecDepth 100000 in
theorem lc_seal {p : Program} {l : Launch} {e : Env} {s : State} {m : MethodId} {below : List Frame} {meth : Method} {c : Code} {H : Heap} {locs : List Loc} {ls : Array Slot} {Q : State → Prop} {b L t : Nat} {xs : Nat → Int32} {D : va_G} {A : Nat → Nat} {C : Nat → ClassId} {ka mu : kM} {o : Int32} (hl0 : l.stackTraces = false) (G : kCtx D A C p s m #[Value.ref b] c code 7 RL) (hX : va_X b L xs s s.heap) (hbl : b < s.heap.size) (hbA : ¬ kA A s.heap.size b) (ht : 6 * t + 6 ≤ L) (hL : L ≤ 3072) (hR : RV (5000 * (t : Int)) ka mu) (hP : kP D A C ka mu o H) (hS : kS A s H locs) (hl : lv_has ls 7 [(4, .int (nI (6 * t))), (3, .ref (A 57)), (2, .ref (A 34)), (1, .ref (A 0)), (0, .ref b)]) (tail : kTail p l e s m below meth c D A C b t Q) : W p l e room_1 s m #[Value.ref b] below meth c H locs (1000 + 10 * t) (10000 + 100 * t) Q (F0 m 476 ls []) := by
  have hIk : kInv ka := Rq_kInv hR.1.1
  have hIm : mInv mu := Rq_mInv hR.1.1
  have hpi := seal_ok hR
  refine lv_aload_n G.1 G.2.1 dL_law_476 rfl (lv_at hl 3 rfl) ?_
  refine lv_aload_n G.1 G.2.1 dL_law_477 rfl (lv_at hl 1 rfl) ?_
  refine k_Hi (As := [.ref (A 0), .ref (A 57)]) (rest := []) G hP hS hl.1 kl_L_79 yk_L_seal (c_L_seal l D A C _ _ _ _ G.2.2.2.2.2.2  hl0 ) (by unfold room_1; decide) ⟨by show 1000 + 10 * t + 2 ≤ 601024; omega, by show 10000 + 100 * t + 12 ≤ 7293034; omega⟩ rfl (Nat.le_of_ble_eq_true rfl) dL_law_478 (fun H locs hP hS => ?_)
  refine lv_istore (lv' := [(5, .int (cdI (f_X2_seal ka).1)), (4, .int (nI (6 * t))), (3, .ref (A 57)), (2, .ref (A 34)), (1, .ref (A 0)), (0, .ref b)]) G.1 G.2.1 dL_law_481 hl (by decide) rfl (fun ls hl => ?_)
  refine lv_aload_n G.1 G.2.1 dL_law_483 rfl (lv_at hl 3 rfl) ?_
  refine k_Vi (As := []) (rest := []) G hP hS hl.1 kl_L_82 yk_X3_seal (c_X3_seal l D A C _ _ _ _ G.2.2.2.2.2.2  hIm) (kr3 G hP) (by unfold room_1; decide) ⟨by show 1000 + 10 * t + 2 + 0 ≤ 601024; omega, by show 10000 + 100 * t + 12 + 0 ≤ 7293034; omega⟩ rfl (Nat.le_of_ble_eq_true rfl) dL_law_484 (fun H locs hP hS => ?_)
  refine lv_istore (lv' := [(6, .int (f_X3_seal mu).1), (5, .int (cdI (f_X2_seal ka).1)), (4, .int (nI (6 * t))), (3, .ref (A 57)), (2, .ref (A 34)), (1, .ref (A 0)), (0, .ref b)]) G.1 G.2.1 dL_law_487 hl (by decide) rfl (fun ls hl => ?_)
  refine lv_aload_n G.1 G.2.1 dL_law_489 rfl (lv_at hl 4 rfl) ?_
  refine k_Vi (As := []) (rest := []) G hP hS hl.1 kl_L_61 yk_X3_thrown (c_X3_thrown l D A C _ _ _ _ G.2.2.2.2.2.2) (kr3 G hP) (by unfold room_1; decide) ⟨by show 1000 + 10 * t + 2 + 0 + 0 ≤ 601024; omega, by show 10000 + 100 * t + 12 + 0 + 0 ≤ 7293034; omega⟩ rfl (Nat.le_of_ble_eq_true rfl) dL_law_490 (fun H locs hP hS => ?_)
  refine lv_iload G.1 G.2.1 dL_law_493 (lv_at hl 1 rfl) ?_
  refine lv_icmp_eq (tgt := 500) G.1 G.2.1 dL_law_495 (by decide) (fun _ => ?_) (fun c => absurd hpi.1 c)
  refine lv_iload G.1 G.2.1 dL_law_500 (lv_at hl 1 rfl) ?_
  refine lv_if_ne (tgt := 517) G.1 G.2.1 dL_law_502 (by decide) (fun hz => ?_) (fun hz => ?_)
  · refine lv_goto (tgt := 806) G.1 G.2.1 dL_law_517 (by decide) ?_
    exact tail _ _ _ _ _ _ _ _ (by show 1000 + 10 * t + 2 + 0 + 0 ≤ _; omega) (by show 10000 + 100 * t + 12 + 0 + 0 ≤ _; omega) (RV_mono hpi.2.2 (by omega)) hP hS (lv_sub hl [2, 3, 4, 5, 6] rfl)
  · have hz0 : (f_X2_seal ka).1 = 0 := cdI_z ((kd_seal (ka := ka)).elim (fun q => by omega) (fun q => by omega)) hz
    have ho : (if (f_X2_seal ka).1 = 0 then (f_X2_seal ka).2.1 else o) = (f_X3_seal mu).1 := by rw [if_pos hz0]; exact hpi.2.1 hz0
    rw [ho] at hP
    refine lv_aload_n G.1 G.2.1 dL_law_505 rfl (lv_at hl 3 rfl) ?_
    refine lv_iconst (v := 0) G.1 G.2.1 dL_law_506 (by decide) ?_
    refine k_lald G hP dL_law_507 ?_
    refine lv_iload G.1 G.2.1 dL_law_508 (lv_at hl 0 rfl) ?_
    refine lv_i2l G.1 G.2.1 dL_law_510 rfl ?_
    refine W.lcmp G.1 G.2.1 dL_law_511 ?_
    refine lv_if_eq (tgt := 517) G.1 G.2.1 dL_law_512 (by decide) (fun _ => ?_) (fun c => absurd (lg_self _) c)
    refine lv_goto (tgt := 806) G.1 G.2.1 dL_law_517 (by decide) ?_
    exact tail _ _ _ _ _ _ _ _ (by show 1000 + 10 * t + 2 + 0 + 0 ≤ _; omega) (by show 10000 + 100 * t + 12 + 0 + 0 ≤ _; omega) (RV_mono hpi.2.2 (by omega)) hP hS (lv_sub hl [2, 3, 4, 5, 6] rfl)
set_option maxHeartbeats 4000000 in
set_option maxRecDepth 100000 in
theorem lc_step {p : Program} {l : Launch} {e : Env} {s : State} {m : MethodId} {below : List Frame} {meth : Method} {c : Code} {H : Heap} {locs : List Loc} {ls : Array Slot} {Q : State → Prop} {b L t : Nat} {xs : Nat → Int32} {D : va_G} {A : Nat → Nat} {C : Nat → ClassId} {ka mu : kM} {o : Int32} (hl0 : l.stackTraces = false) (G : kCtx D A C p s m #[Value.ref b] c code 7 RL) (hX : va_X b L xs s s.heap) (hbl : b < s.heap.size) (hbA : ¬ kA A s.heap.size b) (ht : 6 * t + 6 ≤ L) (hL : L ≤ 3072) (hR : RV (5000 * (t : Int)) ka mu) (hP : kP D A C ka mu o H) (hS : kS A s H locs) (hl : lv_has ls 7 [(4, .int (nI (6 * t))), (3, .ref (A 57)), (2, .ref (A 34)), (1, .ref (A 0)), (0, .ref b)]) (tail : kTail p l e s m below meth c D A C b t Q) : W p l e room_1 s m #[Value.ref b] below meth c H locs (1000 + 10 * t) (10000 + 100 * t) Q (F0 m 520 ls []) := by
  have hIk : kInv ka := Rq_kInv hR.1.1
  have hIm : mInv mu := Rq_mInv hR.1.1
  have hpi := step_ok (p0 := (xs (nI (6 * t) + 1).toNatClampNeg)) hR (by omega)
  refine lv_aload_n G.1 G.2.1 dL_law_520 rfl (lv_at hl 3 rfl) ?_
  refine lv_aload_n G.1 G.2.1 dL_law_521 rfl (lv_at hl 4 rfl) ?_
  refine lv_iload G.1 G.2.1 dL_law_522 (lv_at hl 0 rfl) ?_
  refine lv_iconst (v := 1) G.1 G.2.1 dL_law_524 (by decide) ?_
  refine lv_iadd G.1 G.2.1 dL_law_525 ?_
  refine va_sld G.1 G.2.1 hX hbl hbA hS (k_in ht hL (by decide) (a := 1)) dL_law_526 ?_
  refine lv_aload_n G.1 G.2.1 dL_law_527 rfl (lv_at hl 1 rfl) ?_
  refine k_Hi (As := [.ref (A 0), .int (xs (nI (6 * t) + 1).toNatClampNeg), .ref (A 57)]) (rest := []) G hP hS hl.1 kl_L_83 yk_L_step (c_L_step l D A C _ _ _ _ G.2.2.2.2.2.2 (xs (nI (6 * t) + 1).toNatClampNeg) hl0 hIk) (by unfold room_1; decide) ⟨by show 1000 + 10 * t + 1 ≤ 601024; omega, by show 10000 + 100 * t + 6 ≤ 7293034; omega⟩ rfl (Nat.le_of_ble_eq_true rfl) dL_law_528 (fun H locs hP hS => ?_)
  refine lv_istore (lv' := [(5, .int (cdI (f_X2_step ka (xs (nI (6 * t) + 1).toNatClampNeg)).1)), (4, .int (nI (6 * t))), (3, .ref (A 57)), (2, .ref (A 34)), (1, .ref (A 0)), (0, .ref b)]) G.1 G.2.1 dL_law_531 hl (by decide) rfl (fun ls hl => ?_)
  refine lv_aload_n G.1 G.2.1 dL_law_533 rfl (lv_at hl 3 rfl) ?_
  refine lv_aload_n G.1 G.2.1 dL_law_534 rfl (lv_at hl 5 rfl) ?_
  refine lv_iload G.1 G.2.1 dL_law_535 (lv_at hl 1 rfl) ?_
  refine lv_iconst (v := 1) G.1 G.2.1 dL_law_537 (by decide) ?_
  refine lv_iadd G.1 G.2.1 dL_law_538 ?_
  refine va_sld G.1 G.2.1 hX hbl hbA hS (k_in ht hL (by decide) (a := 1)) dL_law_539 ?_
  refine k_Vi (As := [.int (xs (nI (6 * t) + 1).toNatClampNeg)]) (rest := []) G hP hS hl.1 kl_L_86 yk_X3_step (c_X3_step l D A C _ _ _ _ G.2.2.2.2.2.2 (xs (nI (6 * t) + 1).toNatClampNeg) (fun q1 q2 q3 => (steplp_ok _ (5000 * (t : Int)) ka (kup mu 34 0 0) 0 (RV_thr hR).1 (by rw [hR.1.1.1.2.2.2.2.1]; exact q3) (by have := kstep_in q1 q2; omega)).2.2.2 (kup_at _ _ _ _))) (kr3 G hP) (by unfold room_1; decide) ⟨by show 1000 + 10 * t + 1 + 0 ≤ 601024; omega, by show 10000 + 100 * t + 6 + 0 ≤ 7293034; omega⟩ rfl (Nat.le_of_ble_eq_true rfl) dL_law_540 (fun H locs hP hS => ?_)
  refine lv_istore (lv' := [(6, .int (f_X3_step mu (xs (nI (6 * t) + 1).toNatClampNeg)).1), (5, .int (cdI (f_X2_step ka (xs (nI (6 * t) + 1).toNatClampNeg)).1)), (4, .int (nI (6 * t))), (3, .ref (A 57)), (2, .ref (A 34)), (1, .ref (A 0)), (0, .ref b)]) G.1 G.2.1 dL_law_543 hl (by decide) rfl (fun ls hl => ?_)
  refine lv_aload_n G.1 G.2.1 dL_law_545 rfl (lv_at hl 4 rfl) ?_
  refine k_Vi (As := []) (rest := []) G hP hS hl.1 kl_L_61 yk_X3_thrown (c_X3_thrown l D A C _ _ _ _ G.2.2.2.2.2.2) (kr3 G hP) (by unfold room_1; decide) ⟨by show 1000 + 10 * t + 1 + 0 + 0 ≤ 601024; omega, by show 10000 + 100 * t + 6 + 0 + 0 ≤ 7293034; omega⟩ rfl (Nat.le_of_ble_eq_true rfl) dL_law_546 (fun H locs hP hS => ?_)
  refine lv_iload G.1 G.2.1 dL_law_549 (lv_at hl 1 rfl) ?_
  refine lv_icmp_eq (tgt := 556) G.1 G.2.1 dL_law_551 (by decide) (fun _ => ?_) (fun c => absurd hpi.1 c)
  refine lv_iload G.1 G.2.1 dL_law_556 (lv_at hl 1 rfl) ?_
  refine lv_if_ne (tgt := 573) G.1 G.2.1 dL_law_558 (by decide) (fun hz => ?_) (fun hz => ?_)
  · refine lv_goto (tgt := 806) G.1 G.2.1 dL_law_573 (by decide) ?_
    exact tail _ _ _ _ _ _ _ _ (by show 1000 + 10 * t + 1 + 0 + 0 ≤ _; omega) (by show 10000 + 100 * t + 6 + 0 + 0 ≤ _; omega) (RV_mono hpi.2.2 (by omega)) hP hS (lv_sub hl [2, 3, 4, 5, 6] rfl)
  · have hz0 : (f_X2_step ka (xs (nI (6 * t) + 1).toNatClampNeg)).1 = 0 := cdI_z ((kd_step (ka := ka) (p0 := (xs (nI (6 * t) + 1).toNatClampNeg))).elim (fun q => by omega) (fun q => by omega)) hz
    have ho : (if (f_X2_step ka (xs (nI (6 * t) + 1).toNatClampNeg)).1 = 0 then (f_X2_step ka (xs (nI (6 * t) + 1).toNatClampNeg)).2.1 else o) = (f_X3_step mu (xs (nI (6 * t) + 1).toNatClampNeg)).1 := by rw [if_pos hz0]; exact hpi.2.1 hz0
    rw [ho] at hP
    refine lv_aload_n G.1 G.2.1 dL_law_561 rfl (lv_at hl 3 rfl) ?_
    refine lv_iconst (v := 0) G.1 G.2.1 dL_law_562 (by decide) ?_
    refine k_lald G hP dL_law_563 ?_
    refine lv_iload G.1 G.2.1 dL_law_564 (lv_at hl 0 rfl) ?_
    refine lv_i2l G.1 G.2.1 dL_law_566 rfl ?_
    refine W.lcmp G.1 G.2.1 dL_law_567 ?_
    refine lv_if_eq (tgt := 573) G.1 G.2.1 dL_law_568 (by decide) (fun _ => ?_) (fun c => absurd (lg_self _) c)
    refine lv_goto (tgt := 806) G.1 G.2.1 dL_law_573 (by decide) ?_
    exact tail _ _ _ _ _ _ _ _ (by show 1000 + 10 * t + 1 + 0 + 0 ≤ _; omega) (by show 10000 + 100 * t + 6 + 0 + 0 ≤ _; omega) (RV_mono hpi.2.2 (by omega)) hP hS (lv_sub hl [2, 3, 4, 5, 6] rfl)
set_option maxHeartbeats 4000000 in
set_option maxRecDepth 100000 in
theorem lc_told {p : Program} {l : Launch} {e : Env} {s : State} {m : MethodId} {below : List Frame} {meth : Method} {c : Code} {H : Heap} {locs : List Loc} {ls : Array Slot} {Q : State → Prop} {b L t : Nat} {xs : Nat → Int32} {D : va_G} {A : Nat → Nat} {C : Nat → ClassId} {ka mu : kM} {o : Int32} (hl0 : l.stackTraces = false) (G : kCtx D A C p s m #[Value.ref b] c code 7 RL) (hX : va_X b L xs s s.heap) (hbl : b < s.heap.size) (hbA : ¬ kA A s.heap.size b) (ht : 6 * t + 6 ≤ L) (hL : L ≤ 3072) (hR : RV (5000 * (t : Int)) ka mu) (hP : kP D A C ka mu o H) (hS : kS A s H locs) (hl : lv_has ls 7 [(4, .int (nI (6 * t))), (3, .ref (A 57)), (2, .ref (A 34)), (1, .ref (A 0)), (0, .ref b)]) (tail : kTail p l e s m below meth c D A C b t Q) : W p l e room_1 s m #[Value.ref b] below meth c H locs (1000 + 10 * t) (10000 + 100 * t) Q (F0 m 576 ls []) := by
  have hIk : kInv ka := Rq_kInv hR.1.1
  have hIm : mInv mu := Rq_mInv hR.1.1
  have hpi := told_ok (p0 := (xs (nI (6 * t) + 1).toNatClampNeg)) (p1 := (xs (nI (6 * t) + 2).toNatClampNeg)) hR
  refine lv_aload_n G.1 G.2.1 dL_law_576 rfl (lv_at hl 3 rfl) ?_
  refine lv_aload_n G.1 G.2.1 dL_law_577 rfl (lv_at hl 4 rfl) ?_
  refine lv_iload G.1 G.2.1 dL_law_578 (lv_at hl 0 rfl) ?_
  refine lv_iconst (v := 1) G.1 G.2.1 dL_law_580 (by decide) ?_
  refine lv_iadd G.1 G.2.1 dL_law_581 ?_
  refine va_sld G.1 G.2.1 hX hbl hbA hS (k_in ht hL (by decide) (a := 1)) dL_law_582 ?_
  refine lv_aload_n G.1 G.2.1 dL_law_583 rfl (lv_at hl 4 rfl) ?_
  refine lv_iload G.1 G.2.1 dL_law_584 (lv_at hl 0 rfl) ?_
  refine lv_iconst (v := 2) G.1 G.2.1 dL_law_586 (by decide) ?_
  refine lv_iadd G.1 G.2.1 dL_law_587 ?_
  refine va_sld G.1 G.2.1 hX hbl hbA hS (k_in ht hL (by decide) (a := 2)) dL_law_588 ?_
  refine lv_aload_n G.1 G.2.1 dL_law_589 rfl (lv_at hl 1 rfl) ?_
  refine k_Hi (As := [.ref (A 0), .int (xs (nI (6 * t) + 1).toNatClampNeg), .int (xs (nI (6 * t) + 2).toNatClampNeg), .ref (A 57)]) (rest := []) G hP hS hl.1 kl_L_87 yk_L_told (c_L_told l D A C _ _ _ _ G.2.2.2.2.2.2 (xs (nI (6 * t) + 1).toNatClampNeg) (xs (nI (6 * t) + 2).toNatClampNeg) hl0 ) (by unfold room_1; decide) ⟨by show 1000 + 10 * t + 1 ≤ 601024; omega, by show 10000 + 100 * t + 6 ≤ 7293034; omega⟩ rfl (Nat.le_of_ble_eq_true rfl) dL_law_590 (fun H locs hP hS => ?_)
  refine lv_istore (lv' := [(5, .int (cd1 (f_X2_told ka (xs (nI (6 * t) + 1).toNatClampNeg) (xs (nI (6 * t) + 2).toNatClampNeg)).1)), (4, .int (nI (6 * t))), (3, .ref (A 57)), (2, .ref (A 34)), (1, .ref (A 0)), (0, .ref b)]) G.1 G.2.1 dL_law_593 hl (by decide) rfl (fun ls hl => ?_)
  refine lv_aload_n G.1 G.2.1 dL_law_595 rfl (lv_at hl 3 rfl) ?_
  refine lv_aload_n G.1 G.2.1 dL_law_596 rfl (lv_at hl 5 rfl) ?_
  refine lv_iload G.1 G.2.1 dL_law_597 (lv_at hl 1 rfl) ?_
  refine lv_iconst (v := 1) G.1 G.2.1 dL_law_599 (by decide) ?_
  refine lv_iadd G.1 G.2.1 dL_law_600 ?_
  refine va_sld G.1 G.2.1 hX hbl hbA hS (k_in ht hL (by decide) (a := 1)) dL_law_601 ?_
  refine lv_aload_n G.1 G.2.1 dL_law_602 rfl (lv_at hl 5 rfl) ?_
  refine lv_iload G.1 G.2.1 dL_law_603 (lv_at hl 1 rfl) ?_
  refine lv_iconst (v := 2) G.1 G.2.1 dL_law_605 (by decide) ?_
  refine lv_iadd G.1 G.2.1 dL_law_606 ?_
  refine va_sld G.1 G.2.1 hX hbl hbA hS (k_in ht hL (by decide) (a := 2)) dL_law_607 ?_
  refine k_Vi (As := [.int (xs (nI (6 * t) + 1).toNatClampNeg), .int (xs (nI (6 * t) + 2).toNatClampNeg)]) (rest := []) G hP hS hl.1 kl_L_89 yk_X3_told (c_X3_told l D A C _ _ _ _ G.2.2.2.2.2.2 (xs (nI (6 * t) + 1).toNatClampNeg) (xs (nI (6 * t) + 2).toNatClampNeg) ) (kr3 G hP) (by unfold room_1; decide) ⟨by show 1000 + 10 * t + 1 + 0 ≤ 601024; omega, by show 10000 + 100 * t + 6 + 0 ≤ 7293034; omega⟩ rfl (Nat.le_of_ble_eq_true rfl) dL_law_608 (fun H locs hP hS => ?_)
  refine lv_istore (lv' := [(6, .int (f_X3_told mu (xs (nI (6 * t) + 1).toNatClampNeg) (xs (nI (6 * t) + 2).toNatClampNeg)).1), (5, .int (cd1 (f_X2_told ka (xs (nI (6 * t) + 1).toNatClampNeg) (xs (nI (6 * t) + 2).toNatClampNeg)).1)), (4, .int (nI (6 * t))), (3, .ref (A 57)), (2, .ref (A 34)), (1, .ref (A 0)), (0, .ref b)]) G.1 G.2.1 dL_law_611 hl (by decide) rfl (fun ls hl => ?_)
  refine lv_aload_n G.1 G.2.1 dL_law_613 rfl (lv_at hl 4 rfl) ?_
  refine k_Vi (As := []) (rest := []) G hP hS hl.1 kl_L_61 yk_X3_thrown (c_X3_thrown l D A C _ _ _ _ G.2.2.2.2.2.2) (kr3 G hP) (by unfold room_1; decide) ⟨by show 1000 + 10 * t + 1 + 0 + 0 ≤ 601024; omega, by show 10000 + 100 * t + 6 + 0 + 0 ≤ 7293034; omega⟩ rfl (Nat.le_of_ble_eq_true rfl) dL_law_614 (fun H locs hP hS => ?_)
  refine lv_iload G.1 G.2.1 dL_law_617 (lv_at hl 1 rfl) ?_
  refine lv_icmp_eq (tgt := 624) G.1 G.2.1 dL_law_619 (by decide) (fun _ => ?_) (fun c => absurd hpi.1 c)
  refine lv_iload G.1 G.2.1 dL_law_624 (lv_at hl 1 rfl) ?_
  refine lv_if_ne (tgt := 641) G.1 G.2.1 dL_law_626 (by decide) (fun hz => ?_) (fun hz => ?_)
  · refine lv_goto (tgt := 806) G.1 G.2.1 dL_law_641 (by decide) ?_
    exact tail _ _ _ _ _ _ _ _ (by show 1000 + 10 * t + 1 + 0 + 0 ≤ _; omega) (by show 10000 + 100 * t + 6 + 0 + 0 ≤ _; omega) (RV_mono hpi.2.2 (by omega)) hP hS (lv_sub hl [2, 3, 4, 5, 6] rfl)
  · have hz0 : (f_X2_told ka (xs (nI (6 * t) + 1).toNatClampNeg) (xs (nI (6 * t) + 2).toNatClampNeg)).1 = 0 := cd1_z ((kd_toldm (ka := ka) (p0 := (xs (nI (6 * t) + 1).toNatClampNeg)) (p1 := (xs (nI (6 * t) + 2).toNatClampNeg))).elim Or.inl (fun q => Or.inr (by omega))) hz
    have ho : (if (f_X2_told ka (xs (nI (6 * t) + 1).toNatClampNeg) (xs (nI (6 * t) + 2).toNatClampNeg)).1 = 0 then (f_X2_told ka (xs (nI (6 * t) + 1).toNatClampNeg) (xs (nI (6 * t) + 2).toNatClampNeg)).2 else o) = (f_X3_told mu (xs (nI (6 * t) + 1).toNatClampNeg) (xs (nI (6 * t) + 2).toNatClampNeg)).1 := by rw [if_pos hz0]; exact hpi.2.1 hz0
    rw [ho] at hP
    refine lv_aload_n G.1 G.2.1 dL_law_629 rfl (lv_at hl 3 rfl) ?_
    refine lv_iconst (v := 0) G.1 G.2.1 dL_law_630 (by decide) ?_
    refine k_lald G hP dL_law_631 ?_
    refine lv_iload G.1 G.2.1 dL_law_632 (lv_at hl 0 rfl) ?_
    refine lv_i2l G.1 G.2.1 dL_law_634 rfl ?_
    refine W.lcmp G.1 G.2.1 dL_law_635 ?_
    refine lv_if_eq (tgt := 641) G.1 G.2.1 dL_law_636 (by decide) (fun _ => ?_) (fun c => absurd (lg_self _) c)
    refine lv_goto (tgt := 806) G.1 G.2.1 dL_law_641 (by decide) ?_
    exact tail _ _ _ _ _ _ _ _ (by show 1000 + 10 * t + 1 + 0 + 0 ≤ _; omega) (by show 10000 + 100 * t + 6 + 0 + 0 ≤ _; omega) (RV_mono hpi.2.2 (by omega)) hP hS (lv_sub hl [2, 3, 4, 5, 6] rfl)
set_option maxHeartbeats 4000000 in
set_option maxRecDepth 100000 in
theorem lc_has {p : Program} {l : Launch} {e : Env} {s : State} {m : MethodId} {below : List Frame} {meth : Method} {c : Code} {H : Heap} {locs : List Loc} {ls : Array Slot} {Q : State → Prop} {b L t : Nat} {xs : Nat → Int32} {D : va_G} {A : Nat → Nat} {C : Nat → ClassId} {ka mu : kM} {o : Int32} (hl0 : l.stackTraces = false) (G : kCtx D A C p s m #[Value.ref b] c code 7 RL) (hX : va_X b L xs s s.heap) (hbl : b < s.heap.size) (hbA : ¬ kA A s.heap.size b) (ht : 6 * t + 6 ≤ L) (hL : L ≤ 3072) (hR : RV (5000 * (t : Int)) ka mu) (hP : kP D A C ka mu o H) (hS : kS A s H locs) (hl : lv_has ls 7 [(4, .int (nI (6 * t))), (3, .ref (A 57)), (2, .ref (A 34)), (1, .ref (A 0)), (0, .ref b)]) (tail : kTail p l e s m below meth c D A C b t Q) : W p l e room_1 s m #[Value.ref b] below meth c H locs (1000 + 10 * t) (10000 + 100 * t) Q (F0 m 644 ls []) := by
  have hIk : kInv ka := Rq_kInv hR.1.1
  have hIm : mInv mu := Rq_mInv hR.1.1
  have hpi := has_ok (p0 := (xs (nI (6 * t) + 1).toNatClampNeg)) (p1 := (xs (nI (6 * t) + 2).toNatClampNeg)) hR
  refine lv_aload_n G.1 G.2.1 dL_law_644 rfl (lv_at hl 3 rfl) ?_
  refine lv_aload_n G.1 G.2.1 dL_law_645 rfl (lv_at hl 4 rfl) ?_
  refine lv_iload G.1 G.2.1 dL_law_646 (lv_at hl 0 rfl) ?_
  refine lv_iconst (v := 1) G.1 G.2.1 dL_law_648 (by decide) ?_
  refine lv_iadd G.1 G.2.1 dL_law_649 ?_
  refine va_sld G.1 G.2.1 hX hbl hbA hS (k_in ht hL (by decide) (a := 1)) dL_law_650 ?_
  refine lv_aload_n G.1 G.2.1 dL_law_651 rfl (lv_at hl 4 rfl) ?_
  refine lv_iload G.1 G.2.1 dL_law_652 (lv_at hl 0 rfl) ?_
  refine lv_iconst (v := 2) G.1 G.2.1 dL_law_654 (by decide) ?_
  refine lv_iadd G.1 G.2.1 dL_law_655 ?_
  refine va_sld G.1 G.2.1 hX hbl hbA hS (k_in ht hL (by decide) (a := 2)) dL_law_656 ?_
  refine lv_aload_n G.1 G.2.1 dL_law_657 rfl (lv_at hl 1 rfl) ?_
  refine k_Hi (As := [.ref (A 0), .int (xs (nI (6 * t) + 1).toNatClampNeg), .int (xs (nI (6 * t) + 2).toNatClampNeg), .ref (A 57)]) (rest := []) G hP hS hl.1 kl_L_90 yk_L_has (c_L_has l D A C _ _ _ _ G.2.2.2.2.2.2 (xs (nI (6 * t) + 1).toNatClampNeg) (xs (nI (6 * t) + 2).toNatClampNeg) hl0 ) (by unfold room_1; decide) ⟨by show 1000 + 10 * t + 1 ≤ 601024; omega, by show 10000 + 100 * t + 6 ≤ 7293034; omega⟩ rfl (Nat.le_of_ble_eq_true rfl) dL_law_658 (fun H locs hP hS => ?_)
  refine lv_istore (lv' := [(5, .int (cd1 (f_X2_has ka (xs (nI (6 * t) + 1).toNatClampNeg) (xs (nI (6 * t) + 2).toNatClampNeg)).1)), (4, .int (nI (6 * t))), (3, .ref (A 57)), (2, .ref (A 34)), (1, .ref (A 0)), (0, .ref b)]) G.1 G.2.1 dL_law_661 hl (by decide) rfl (fun ls hl => ?_)
  refine lv_aload_n G.1 G.2.1 dL_law_663 rfl (lv_at hl 3 rfl) ?_
  refine lv_aload_n G.1 G.2.1 dL_law_664 rfl (lv_at hl 5 rfl) ?_
  refine lv_iload G.1 G.2.1 dL_law_665 (lv_at hl 1 rfl) ?_
  refine lv_iconst (v := 1) G.1 G.2.1 dL_law_667 (by decide) ?_
  refine lv_iadd G.1 G.2.1 dL_law_668 ?_
  refine va_sld G.1 G.2.1 hX hbl hbA hS (k_in ht hL (by decide) (a := 1)) dL_law_669 ?_
  refine lv_aload_n G.1 G.2.1 dL_law_670 rfl (lv_at hl 5 rfl) ?_
  refine lv_iload G.1 G.2.1 dL_law_671 (lv_at hl 1 rfl) ?_
  refine lv_iconst (v := 2) G.1 G.2.1 dL_law_673 (by decide) ?_
  refine lv_iadd G.1 G.2.1 dL_law_674 ?_
  refine va_sld G.1 G.2.1 hX hbl hbA hS (k_in ht hL (by decide) (a := 2)) dL_law_675 ?_
  refine k_Vi (As := [.int (xs (nI (6 * t) + 1).toNatClampNeg), .int (xs (nI (6 * t) + 2).toNatClampNeg)]) (rest := []) G hP hS hl.1 kl_L_92 yk_X3_has (c_X3_has l D A C _ _ _ _ G.2.2.2.2.2.2 (xs (nI (6 * t) + 1).toNatClampNeg) (xs (nI (6 * t) + 2).toNatClampNeg) ) (kr3 G hP) (by unfold room_1; decide) ⟨by show 1000 + 10 * t + 1 + 0 ≤ 601024; omega, by show 10000 + 100 * t + 6 + 0 ≤ 7293034; omega⟩ rfl (Nat.le_of_ble_eq_true rfl) dL_law_676 (fun H locs hP hS => ?_)
  refine lv_istore (lv' := [(6, .int (f_X3_has mu (xs (nI (6 * t) + 1).toNatClampNeg) (xs (nI (6 * t) + 2).toNatClampNeg)).1), (5, .int (cd1 (f_X2_has ka (xs (nI (6 * t) + 1).toNatClampNeg) (xs (nI (6 * t) + 2).toNatClampNeg)).1)), (4, .int (nI (6 * t))), (3, .ref (A 57)), (2, .ref (A 34)), (1, .ref (A 0)), (0, .ref b)]) G.1 G.2.1 dL_law_679 hl (by decide) rfl (fun ls hl => ?_)
  refine lv_aload_n G.1 G.2.1 dL_law_681 rfl (lv_at hl 4 rfl) ?_
  refine k_Vi (As := []) (rest := []) G hP hS hl.1 kl_L_61 yk_X3_thrown (c_X3_thrown l D A C _ _ _ _ G.2.2.2.2.2.2) (kr3 G hP) (by unfold room_1; decide) ⟨by show 1000 + 10 * t + 1 + 0 + 0 ≤ 601024; omega, by show 10000 + 100 * t + 6 + 0 + 0 ≤ 7293034; omega⟩ rfl (Nat.le_of_ble_eq_true rfl) dL_law_682 (fun H locs hP hS => ?_)
  refine lv_iload G.1 G.2.1 dL_law_685 (lv_at hl 1 rfl) ?_
  refine lv_icmp_eq (tgt := 692) G.1 G.2.1 dL_law_687 (by decide) (fun _ => ?_) (fun c => absurd hpi.1 c)
  refine lv_iload G.1 G.2.1 dL_law_692 (lv_at hl 1 rfl) ?_
  refine lv_if_ne (tgt := 709) G.1 G.2.1 dL_law_694 (by decide) (fun hz => ?_) (fun hz => ?_)
  · refine lv_goto (tgt := 806) G.1 G.2.1 dL_law_709 (by decide) ?_
    exact tail _ _ _ _ _ _ _ _ (by show 1000 + 10 * t + 1 + 0 + 0 ≤ _; omega) (by show 10000 + 100 * t + 6 + 0 + 0 ≤ _; omega) (RV_mono hpi.2.2 (by omega)) hP hS (lv_sub hl [2, 3, 4, 5, 6] rfl)
  · have hz0 : (f_X2_has ka (xs (nI (6 * t) + 1).toNatClampNeg) (xs (nI (6 * t) + 2).toNatClampNeg)).1 = 0 := cd1_z ((kd_has (ka := ka) (p0 := (xs (nI (6 * t) + 1).toNatClampNeg)) (p1 := (xs (nI (6 * t) + 2).toNatClampNeg))).elim Or.inl (fun q => Or.inr (by omega))) hz
    have ho : (if (f_X2_has ka (xs (nI (6 * t) + 1).toNatClampNeg) (xs (nI (6 * t) + 2).toNatClampNeg)).1 = 0 then (f_X2_has ka (xs (nI (6 * t) + 1).toNatClampNeg) (xs (nI (6 * t) + 2).toNatClampNeg)).2 else o) = (f_X3_has mu (xs (nI (6 * t) + 1).toNatClampNeg) (xs (nI (6 * t) + 2).toNatClampNeg)).1 := by rw [if_pos hz0]; exact hpi.2.1 hz0
    rw [ho] at hP
    refine lv_aload_n G.1 G.2.1 dL_law_697 rfl (lv_at hl 3 rfl) ?_
    refine lv_iconst (v := 0) G.1 G.2.1 dL_law_698 (by decide) ?_
    refine k_lald G hP dL_law_699 ?_
    refine lv_iload G.1 G.2.1 dL_law_700 (lv_at hl 0 rfl) ?_
    refine lv_i2l G.1 G.2.1 dL_law_702 rfl ?_
    refine W.lcmp G.1 G.2.1 dL_law_703 ?_
    refine lv_if_eq (tgt := 709) G.1 G.2.1 dL_law_704 (by decide) (fun _ => ?_) (fun c => absurd (lg_self _) c)
    refine lv_goto (tgt := 806) G.1 G.2.1 dL_law_709 (by decide) ?_
    exact tail _ _ _ _ _ _ _ _ (by show 1000 + 10 * t + 1 + 0 + 0 ≤ _; omega) (by show 10000 + 100 * t + 6 + 0 + 0 ≤ _; omega) (RV_mono hpi.2.2 (by omega)) hP hS (lv_sub hl [2, 3, 4, 5, 6] rfl)
set_option maxHeartbeats 4000000 in
set_option maxRecDepth 100000 in
theorem lc_queued {p : Program} {l : Launch} {e : Env} {s : State} {m : MethodId} {below : List Frame} {meth : Method} {c : Code} {H : Heap} {locs : List Loc} {ls : Array Slot} {Q : State → Prop} {b L t : Nat} {xs : Nat → Int32} {D : va_G} {A : Nat → Nat} {C : Nat → ClassId} {ka mu : kM} {o : Int32} (hl0 : l.stackTraces = false) (G : kCtx D A C p s m #[Value.ref b] c code 7 RL) (hX : va_X b L xs s s.heap) (hbl : b < s.heap.size) (hbA : ¬ kA A s.heap.size b) (ht : 6 * t + 6 ≤ L) (hL : L ≤ 3072) (hR : RV (5000 * (t : Int)) ka mu) (hP : kP D A C ka mu o H) (hS : kS A s H locs) (hl : lv_has ls 7 [(4, .int (nI (6 * t))), (3, .ref (A 57)), (2, .ref (A 34)), (1, .ref (A 0)), (0, .ref b)]) (tail : kTail p l e s m below meth c D A C b t Q) : W p l e room_1 s m #[Value.ref b] below meth c H locs (1000 + 10 * t) (10000 + 100 * t) Q (F0 m 712 ls []) := by
  have hIk : kInv ka := Rq_kInv hR.1.1
  have hIm : mInv mu := Rq_mInv hR.1.1
  have hpi := queued_ok (p0 := (xs (nI (6 * t) + 1).toNatClampNeg)) (p1 := (xs (nI (6 * t) + 2).toNatClampNeg)) hR
  refine lv_aload_n G.1 G.2.1 dL_law_712 rfl (lv_at hl 3 rfl) ?_
  refine lv_aload_n G.1 G.2.1 dL_law_713 rfl (lv_at hl 4 rfl) ?_
  refine lv_iload G.1 G.2.1 dL_law_714 (lv_at hl 0 rfl) ?_
  refine lv_iconst (v := 1) G.1 G.2.1 dL_law_716 (by decide) ?_
  refine lv_iadd G.1 G.2.1 dL_law_717 ?_
  refine va_sld G.1 G.2.1 hX hbl hbA hS (k_in ht hL (by decide) (a := 1)) dL_law_718 ?_
  refine lv_aload_n G.1 G.2.1 dL_law_719 rfl (lv_at hl 4 rfl) ?_
  refine lv_iload G.1 G.2.1 dL_law_720 (lv_at hl 0 rfl) ?_
  refine lv_iconst (v := 2) G.1 G.2.1 dL_law_722 (by decide) ?_
  refine lv_iadd G.1 G.2.1 dL_law_723 ?_
  refine va_sld G.1 G.2.1 hX hbl hbA hS (k_in ht hL (by decide) (a := 2)) dL_law_724 ?_
  refine lv_aload_n G.1 G.2.1 dL_law_725 rfl (lv_at hl 1 rfl) ?_
  refine k_Hi (As := [.ref (A 0), .int (xs (nI (6 * t) + 1).toNatClampNeg), .int (xs (nI (6 * t) + 2).toNatClampNeg), .ref (A 57)]) (rest := []) G hP hS hl.1 kl_L_93 yk_L_queued (c_L_queued l D A C _ _ _ _ G.2.2.2.2.2.2 (xs (nI (6 * t) + 1).toNatClampNeg) (xs (nI (6 * t) + 2).toNatClampNeg) hl0 ) (by unfold room_1; decide) ⟨by show 1000 + 10 * t + 1 ≤ 601024; omega, by show 10000 + 100 * t + 6 ≤ 7293034; omega⟩ rfl (Nat.le_of_ble_eq_true rfl) dL_law_726 (fun H locs hP hS => ?_)
  refine lv_istore (lv' := [(5, .int (cd1 (f_X2_queued ka (xs (nI (6 * t) + 1).toNatClampNeg) (xs (nI (6 * t) + 2).toNatClampNeg)).1)), (4, .int (nI (6 * t))), (3, .ref (A 57)), (2, .ref (A 34)), (1, .ref (A 0)), (0, .ref b)]) G.1 G.2.1 dL_law_729 hl (by decide) rfl (fun ls hl => ?_)
  refine lv_aload_n G.1 G.2.1 dL_law_731 rfl (lv_at hl 3 rfl) ?_
  refine lv_aload_n G.1 G.2.1 dL_law_732 rfl (lv_at hl 5 rfl) ?_
  refine lv_iload G.1 G.2.1 dL_law_733 (lv_at hl 1 rfl) ?_
  refine lv_iconst (v := 1) G.1 G.2.1 dL_law_735 (by decide) ?_
  refine lv_iadd G.1 G.2.1 dL_law_736 ?_
  refine va_sld G.1 G.2.1 hX hbl hbA hS (k_in ht hL (by decide) (a := 1)) dL_law_737 ?_
  refine lv_aload_n G.1 G.2.1 dL_law_738 rfl (lv_at hl 5 rfl) ?_
  refine lv_iload G.1 G.2.1 dL_law_739 (lv_at hl 1 rfl) ?_
  refine lv_iconst (v := 2) G.1 G.2.1 dL_law_741 (by decide) ?_
  refine lv_iadd G.1 G.2.1 dL_law_742 ?_
  refine va_sld G.1 G.2.1 hX hbl hbA hS (k_in ht hL (by decide) (a := 2)) dL_law_743 ?_
  refine k_Vi (As := [.int (xs (nI (6 * t) + 1).toNatClampNeg), .int (xs (nI (6 * t) + 2).toNatClampNeg)]) (rest := []) G hP hS hl.1 kl_L_95 yk_X3_queued (c_X3_queued l D A C _ _ _ _ G.2.2.2.2.2.2 (xs (nI (6 * t) + 1).toNatClampNeg) (xs (nI (6 * t) + 2).toNatClampNeg) hIm) (kr3 G hP) (by unfold room_1; decide) ⟨by show 1000 + 10 * t + 1 + 0 ≤ 601024; omega, by show 10000 + 100 * t + 6 + 0 ≤ 7293034; omega⟩ rfl (Nat.le_of_ble_eq_true rfl) dL_law_744 (fun H locs hP hS => ?_)
  refine lv_istore (lv' := [(6, .int (f_X3_queued mu (xs (nI (6 * t) + 1).toNatClampNeg) (xs (nI (6 * t) + 2).toNatClampNeg)).1), (5, .int (cd1 (f_X2_queued ka (xs (nI (6 * t) + 1).toNatClampNeg) (xs (nI (6 * t) + 2).toNatClampNeg)).1)), (4, .int (nI (6 * t))), (3, .ref (A 57)), (2, .ref (A 34)), (1, .ref (A 0)), (0, .ref b)]) G.1 G.2.1 dL_law_747 hl (by decide) rfl (fun ls hl => ?_)
  refine lv_aload_n G.1 G.2.1 dL_law_749 rfl (lv_at hl 4 rfl) ?_
  refine k_Vi (As := []) (rest := []) G hP hS hl.1 kl_L_61 yk_X3_thrown (c_X3_thrown l D A C _ _ _ _ G.2.2.2.2.2.2) (kr3 G hP) (by unfold room_1; decide) ⟨by show 1000 + 10 * t + 1 + 0 + 0 ≤ 601024; omega, by show 10000 + 100 * t + 6 + 0 + 0 ≤ 7293034; omega⟩ rfl (Nat.le_of_ble_eq_true rfl) dL_law_750 (fun H locs hP hS => ?_)
  refine lv_iload G.1 G.2.1 dL_law_753 (lv_at hl 1 rfl) ?_
  refine lv_icmp_eq (tgt := 760) G.1 G.2.1 dL_law_755 (by decide) (fun _ => ?_) (fun c => absurd hpi.1 c)
  refine lv_iload G.1 G.2.1 dL_law_760 (lv_at hl 1 rfl) ?_
  refine lv_if_ne (tgt := 777) G.1 G.2.1 dL_law_762 (by decide) (fun hz => ?_) (fun hz => ?_)
  · refine lv_goto (tgt := 806) G.1 G.2.1 dL_law_777 (by decide) ?_
    exact tail _ _ _ _ _ _ _ _ (by show 1000 + 10 * t + 1 + 0 + 0 ≤ _; omega) (by show 10000 + 100 * t + 6 + 0 + 0 ≤ _; omega) (RV_mono hpi.2.2 (by omega)) hP hS (lv_sub hl [2, 3, 4, 5, 6] rfl)
  · have hz0 : (f_X2_queued ka (xs (nI (6 * t) + 1).toNatClampNeg) (xs (nI (6 * t) + 2).toNatClampNeg)).1 = 0 := cd1_z ((kd_queued (ka := ka) (p0 := (xs (nI (6 * t) + 1).toNatClampNeg)) (p1 := (xs (nI (6 * t) + 2).toNatClampNeg))).elim Or.inl (fun q => Or.inr (by omega))) hz
    have ho : (if (f_X2_queued ka (xs (nI (6 * t) + 1).toNatClampNeg) (xs (nI (6 * t) + 2).toNatClampNeg)).1 = 0 then (f_X2_queued ka (xs (nI (6 * t) + 1).toNatClampNeg) (xs (nI (6 * t) + 2).toNatClampNeg)).2 else o) = (f_X3_queued mu (xs (nI (6 * t) + 1).toNatClampNeg) (xs (nI (6 * t) + 2).toNatClampNeg)).1 := by rw [if_pos hz0]; exact hpi.2.1 hz0
    rw [ho] at hP
    refine lv_aload_n G.1 G.2.1 dL_law_765 rfl (lv_at hl 3 rfl) ?_
    refine lv_iconst (v := 0) G.1 G.2.1 dL_law_766 (by decide) ?_
    refine k_lald G hP dL_law_767 ?_
    refine lv_iload G.1 G.2.1 dL_law_768 (lv_at hl 0 rfl) ?_
    refine lv_i2l G.1 G.2.1 dL_law_770 rfl ?_
    refine W.lcmp G.1 G.2.1 dL_law_771 ?_
    refine lv_if_eq (tgt := 777) G.1 G.2.1 dL_law_772 (by decide) (fun _ => ?_) (fun c => absurd (lg_self _) c)
    refine lv_goto (tgt := 806) G.1 G.2.1 dL_law_777 (by decide) ?_
    exact tail _ _ _ _ _ _ _ _ (by show 1000 + 10 * t + 1 + 0 + 0 ≤ _; omega) (by show 10000 + 100 * t + 6 + 0 + 0 ≤ _; omega) (RV_mono hpi.2.2 (by omega)) hP hS (lv_sub hl [2, 3, 4, 5, 6] rfl)
set_option maxHeartbeats 4000000 in
set_option maxRecDepth 100000 in
theorem lc_current {p : Program} {l : Launch} {e : Env} {s : State} {m : MethodId} {below : List Frame} {meth : Method} {c : Code} {H : Heap} {locs : List Loc} {ls : Array Slot} {Q : State → Prop} {b L t : Nat} {xs : Nat → Int32} {D : va_G} {A : Nat → Nat} {C : Nat → ClassId} {ka mu : kM} {o : Int32} (hl0 : l.stackTraces = false) (G : kCtx D A C p s m #[Value.ref b] c code 7 RL) (hX : va_X b L xs s s.heap) (hbl : b < s.heap.size) (hbA : ¬ kA A s.heap.size b) (ht : 6 * t + 6 ≤ L) (hL : L ≤ 3072) (hR : RV (5000 * (t : Int)) ka mu) (hP : kP D A C ka mu o H) (hS : kS A s H locs) (hl : lv_has ls 7 [(4, .int (nI (6 * t))), (3, .ref (A 57)), (2, .ref (A 34)), (1, .ref (A 0)), (0, .ref b)]) (tail : kTail p l e s m below meth c D A C b t Q) : W p l e room_1 s m #[Value.ref b] below meth c H locs (1000 + 10 * t) (10000 + 100 * t) Q (F0 m 780 ls []) := by
  have hIk : kInv ka := Rq_kInv hR.1.1
  have hIm : mInv mu := Rq_mInv hR.1.1
  have hpi := current_ok hR
  refine lv_aload_n G.1 G.2.1 dL_law_780 rfl (lv_at hl 3 rfl) ?_
  refine k_Vi (As := []) (rest := []) G hP hS hl.1 kl_L_96 yk_X2_current (c_X2_current l D A C _ _ _ _ G.2.2.2.2.2.2 hIk.1) (kr2 G hP) (by unfold room_1; decide) ⟨by show 1000 + 10 * t + 0 ≤ 601024; omega, by show 10000 + 100 * t + 0 ≤ 7293034; omega⟩ rfl (Nat.le_of_ble_eq_true rfl) dL_law_781 (fun H locs hP hS => ?_)
  refine lv_aload_n G.1 G.2.1 dL_law_784 rfl (lv_at hl 2 rfl) ?_
  refine k_Vi (As := []) (rest := [.int (f_X2_current ka)]) G hP hS hl.1 kl_L_99 yk_X3_current (c_X3_current l D A C _ _ _ _ G.2.2.2.2.2.2 hIm) (kr3 G hP) (by unfold room_1; decide) ⟨by show 1000 + 10 * t + 0 + 0 ≤ 601024; omega, by show 10000 + 100 * t + 0 + 0 ≤ 7293034; omega⟩ rfl (Nat.le_of_ble_eq_true rfl) dL_law_785 (fun H locs hP hS => ?_)
  refine lv_icmp_eq (tgt := 806) G.1 G.2.1 dL_law_788 (by decide) (fun _ => ?_) (fun c => absurd hpi.1 c)
  exact tail _ _ _ _ _ _ _ _ (by show 1000 + 10 * t + 0 + 0 ≤ _; omega) (by show 10000 + 100 * t + 0 + 0 ≤ _; omega) (RV_mono hpi.2 (by omega)) hP hS hl
set_option maxHeartbeats 4000000 in
set_option maxRecDepth 100000 in
theorem lc_ticks {p : Program} {l : Launch} {e : Env} {s : State} {m : MethodId} {below : List Frame} {meth : Method} {c : Code} {H : Heap} {locs : List Loc} {ls : Array Slot} {Q : State → Prop} {b L t : Nat} {xs : Nat → Int32} {D : va_G} {A : Nat → Nat} {C : Nat → ClassId} {ka mu : kM} {o : Int32} (hl0 : l.stackTraces = false) (G : kCtx D A C p s m #[Value.ref b] c code 7 RL) (hX : va_X b L xs s s.heap) (hbl : b < s.heap.size) (hbA : ¬ kA A s.heap.size b) (ht : 6 * t + 6 ≤ L) (hL : L ≤ 3072) (hR : RV (5000 * (t : Int)) ka mu) (hP : kP D A C ka mu o H) (hS : kS A s H locs) (hl : lv_has ls 7 [(4, .int (nI (6 * t))), (3, .ref (A 57)), (2, .ref (A 34)), (1, .ref (A 0)), (0, .ref b)]) (tail : kTail p l e s m below meth c D A C b t Q) : W p l e room_1 s m #[Value.ref b] below meth c H locs (1000 + 10 * t) (10000 + 100 * t) Q (F0 m 793 ls []) := by
  have hIk : kInv ka := Rq_kInv hR.1.1
  have hIm : mInv mu := Rq_mInv hR.1.1
  have hpi := ticks_ok hR
  refine lv_aload_n G.1 G.2.1 dL_law_793 rfl (lv_at hl 3 rfl) ?_
  refine k_Vi (As := []) (rest := []) G hP hS hl.1 kl_L_100 yk_X2_ticks (c_X2_ticks l D A C _ _ _ _ G.2.2.2.2.2.2 ) (kr2 G hP) (by unfold room_1; decide) ⟨by show 1000 + 10 * t + 0 ≤ 601024; omega, by show 10000 + 100 * t + 0 ≤ 7293034; omega⟩ rfl (Nat.le_of_ble_eq_true rfl) dL_law_794 (fun H locs hP hS => ?_)
  refine lv_aload_n G.1 G.2.1 dL_law_797 rfl (lv_at hl 2 rfl) ?_
  refine k_Vi (As := []) (rest := [.int (f_X2_ticks ka)]) G hP hS hl.1 kl_L_103 yk_X3_ticks (c_X3_ticks l D A C _ _ _ _ G.2.2.2.2.2.2 ) (kr3 G hP) (by unfold room_1; decide) ⟨by show 1000 + 10 * t + 0 + 0 ≤ 601024; omega, by show 10000 + 100 * t + 0 + 0 ≤ 7293034; omega⟩ rfl (Nat.le_of_ble_eq_true rfl) dL_law_798 (fun H locs hP hS => ?_)
  refine lv_icmp_eq (tgt := 806) G.1 G.2.1 dL_law_801 (by decide) (fun _ => ?_) (fun c => absurd hpi.1 c)
  exact tail _ _ _ _ _ _ _ _ (by show 1000 + 10 * t + 0 + 0 ≤ _; omega) (by show 10000 + 100 * t + 0 + 0 ≤ _; omega) (RV_mono hpi.2 (by omega)) hP hS hl
