/-! X2_isChannel -/
def f_X2_isChannel (ka : kM) (p0 : Int32) : Int32 :=
  if p0 < 0 then 0 else if (8 : Int32) ≤ p0 then 0 else if (ka (p0.toNatClampNeg + 18) 1) = 0 then 0 else 1
set_option maxHeartbeats 4000000 in
set_option maxRecDepth 100000 in
theorem c_X2_isChannel (l : Launch) (D : va_G) (A : Nat → Nat) (C : Nat → ClassId) (ka mu : kM) (o : Int32) (sz : Nat) (hA : kinj A) (p0 : Int32) : kMi l yX2_isChannel (.code yX2_isChannel cX2_isChannel 2 (some .boolean)) ({ frames := 0, cells := 0, slots := 0, locals := 0 }) D A C ka mu o sz [.ref (A 0), .int p0] (f_X2_isChannel ka p0) ka mu o := by
  refine kMi_of hA (by decide) (Nat.le_of_ble_eq_true rfl) (fun p e s m args below meth c G hr hlocks hP hS ls hl => ?_)
  have hl : lv_has ls 2 [(0, .ref (A 0)), (1, .int p0)] := hl
  refine lv_iload_n G.1 G.2.1 dX2_isChannel_0 rfl (lv_at hl 1 rfl) ?_
  refine lv_if_lt (tgt := 26) G.1 G.2.1 dX2_isChannel_1 (by decide) (fun c_1 => ?_) (fun c_1 => ?_)
  · refine lv_iconst (v := 0) G.1 G.2.1 dX2_isChannel_26 (by decide) ?_
    exact k_zret G hr hlocks hP hS (by decide) (by rw [f_X2_isChannel, if_pos c_1]) rfl rfl rfl dX2_isChannel_27
  · refine lv_iload_n G.1 G.2.1 dX2_isChannel_4 rfl (lv_at hl 1 rfl) ?_
    refine lv_bipush (v := 8) G.1 G.2.1 dX2_isChannel_5 (by decide) ?_
    refine lv_icmp_ge (tgt := 26) G.1 G.2.1 dX2_isChannel_7 (by decide) (fun c_7 => ?_) (fun c_7 => ?_)
    · refine lv_iconst (v := 0) G.1 G.2.1 dX2_isChannel_26 (by decide) ?_
      exact k_zret G hr hlocks hP hS (by decide) (by rw [f_X2_isChannel, if_neg c_1, if_pos c_7]) rfl rfl rfl dX2_isChannel_27
    · refine lv_aload_n G.1 G.2.1 dX2_isChannel_10 rfl (lv_at hl 0 rfl) ?_
      refine k2_getr G hP 2 (by decide) kq_146 rfl dX2_isChannel_11 ?_
      refine lv_iload_n G.1 G.2.1 dX2_isChannel_14 rfl (lv_at hl 1 rfl) ?_
      have hin_15 : vp_in p0 8 := (kin_of (n := 8) (by decide) c_1 c_7)
      refine kC_ald G hP hin_15 dX2_isChannel_15 ?_
      have hj_15 : p0.toNatClampNeg < 8 := kx_lt hin_15
      refine k0N_geti G hP hj_15 1 (by decide) (by decide) kq_111 rfl dX2_isChannel_16 ?_
      refine lv_if_eq (tgt := 26) G.1 G.2.1 dX2_isChannel_19 (by decide) (fun c_19 => ?_) (fun c_19 => ?_)
      · refine lv_iconst (v := 0) G.1 G.2.1 dX2_isChannel_26 (by decide) ?_
        exact k_zret G hr hlocks hP hS (by decide) (by rw [f_X2_isChannel, if_neg c_1, if_neg c_7, if_pos c_19]) rfl rfl rfl dX2_isChannel_27
      · refine lv_iconst (v := 1) G.1 G.2.1 dX2_isChannel_22 (by decide) ?_
        refine lv_goto (tgt := 27) G.1 G.2.1 dX2_isChannel_23 (by decide) ?_
        exact k_zret G hr hlocks hP hS (by decide) (by rw [f_X2_isChannel, if_neg c_1, if_neg c_7, if_neg c_19]) rfl rfl rfl dX2_isChannel_27
/-! X2_isInMemory -/
def f_X2_isInMemory (ka : kM) (p0 : Int32) (p1 : Int32) : Int32 :=
  if p0 < 0 then 0 else if (512 : Int32) ≤ p0 then 0 else if p1 < 1 then 0 else if ((512 : Int32) - p0) < p1 then 0 else 1
set_option maxHeartbeats 4000000 in
set_option maxRecDepth 100000 in
theorem c_X2_isInMemory (l : Launch) (D : va_G) (A : Nat → Nat) (C : Nat → ClassId) (ka mu : kM) (o : Int32) (sz : Nat) (hA : kinj A) (p0 : Int32) (p1 : Int32) : kMi l yX2_isInMemory (.code yX2_isInMemory cX2_isInMemory 2 (some .boolean)) ({ frames := 0, cells := 0, slots := 0, locals := 0 }) D A C ka mu o sz [.int p0, .int p1] (f_X2_isInMemory ka p0 p1) ka mu o := by
  refine kMi_of hA (by decide) (Nat.le_of_ble_eq_true rfl) (fun p e s m args below meth c G hr hlocks hP hS ls hl => ?_)
  have hl : lv_has ls 2 [(0, .int p0), (1, .int p1)] := hl
  refine lv_iload_n G.1 G.2.1 dX2_isInMemory_0 rfl (lv_at hl 0 rfl) ?_
  refine lv_if_lt (tgt := 29) G.1 G.2.1 dX2_isInMemory_1 (by decide) (fun c_1 => ?_) (fun c_1 => ?_)
  · refine lv_iconst (v := 0) G.1 G.2.1 dX2_isInMemory_29 (by decide) ?_
    exact k_zret G hr hlocks hP hS (by decide) (by rw [f_X2_isInMemory, if_pos c_1]) rfl rfl rfl dX2_isInMemory_30
  · refine lv_iload_n G.1 G.2.1 dX2_isInMemory_4 rfl (lv_at hl 0 rfl) ?_
    refine lv_sipush (v := 512) G.1 G.2.1 dX2_isInMemory_5 (by decide) ?_
    refine lv_icmp_ge (tgt := 29) G.1 G.2.1 dX2_isInMemory_8 (by decide) (fun c_8 => ?_) (fun c_8 => ?_)
    · refine lv_iconst (v := 0) G.1 G.2.1 dX2_isInMemory_29 (by decide) ?_
      exact k_zret G hr hlocks hP hS (by decide) (by rw [f_X2_isInMemory, if_neg c_1, if_pos c_8]) rfl rfl rfl dX2_isInMemory_30
    · refine lv_iload_n G.1 G.2.1 dX2_isInMemory_11 rfl (lv_at hl 1 rfl) ?_
      refine lv_iconst (v := 1) G.1 G.2.1 dX2_isInMemory_12 (by decide) ?_
      refine lv_icmp_lt (tgt := 29) G.1 G.2.1 dX2_isInMemory_13 (by decide) (fun c_13 => ?_) (fun c_13 => ?_)
      · refine lv_iconst (v := 0) G.1 G.2.1 dX2_isInMemory_29 (by decide) ?_
        exact k_zret G hr hlocks hP hS (by decide) (by rw [f_X2_isInMemory, if_neg c_1, if_neg c_8, if_pos c_13]) rfl rfl rfl dX2_isInMemory_30
      · refine lv_iload_n G.1 G.2.1 dX2_isInMemory_16 rfl (lv_at hl 1 rfl) ?_
        refine lv_sipush (v := 512) G.1 G.2.1 dX2_isInMemory_17 (by decide) ?_
        refine lv_iload_n G.1 G.2.1 dX2_isInMemory_20 rfl (lv_at hl 0 rfl) ?_
        refine lv_isub G.1 G.2.1 dX2_isInMemory_21 ?_
        refine lv_icmp_gt (tgt := 29) G.1 G.2.1 dX2_isInMemory_22 (by decide) (fun c_22 => ?_) (fun c_22 => ?_)
        · refine lv_iconst (v := 0) G.1 G.2.1 dX2_isInMemory_29 (by decide) ?_
          exact k_zret G hr hlocks hP hS (by decide) (by rw [f_X2_isInMemory, if_neg c_1, if_neg c_8, if_neg c_13, if_pos c_22]) rfl rfl rfl dX2_isInMemory_30
        · refine lv_iconst (v := 1) G.1 G.2.1 dX2_isInMemory_25 (by decide) ?_
          refine lv_goto (tgt := 30) G.1 G.2.1 dX2_isInMemory_26 (by decide) ?_
          exact k_zret G hr hlocks hP hS (by decide) (by rw [f_X2_isInMemory, if_neg c_1, if_neg c_8, if_neg c_13, if_neg c_22]) rfl rfl rfl dX2_isInMemory_30
/-! X2_computed -/
def f_X2_computed (ka : kM) (p0 : Int32) (p1 : Int32) (p2 : Int32) (p3 : Int32) : Int32 :=
  if p0 = 1 then p3 else if p0 = 2 then (p1 + p2) else if p0 = 3 then (p1 - p2) else if p0 = 4 then (p1 * p2) else (p1 ^^^ p2)
set_option maxHeartbeats 4000000 in
set_option maxRecDepth 100000 in
theorem c_X2_computed (l : Launch) (D : va_G) (A : Nat → Nat) (C : Nat → ClassId) (ka mu : kM) (o : Int32) (sz : Nat) (hA : kinj A) (p0 : Int32) (p1 : Int32) (p2 : Int32) (p3 : Int32) : kMi l yX2_computed (.code yX2_computed cX2_computed 4 (some .int)) ({ frames := 0, cells := 0, slots := 0, locals := 0 }) D A C ka mu o sz [.int p0, .int p1, .int p2, .int p3] (f_X2_computed ka p0 p1 p2 p3) ka mu o := by
  refine kMi_of hA (by decide) (Nat.le_of_ble_eq_true rfl) (fun p e s m args below meth c G hr hlocks hP hS ls hl => ?_)
  have hl : lv_has ls 4 [(0, .int p0), (1, .int p1), (2, .int p2), (3, .int p3)] := hl
  refine lv_iload_n G.1 G.2.1 dX2_computed_0 rfl (lv_at hl 0 rfl) ?_
  by_cases c_1_1 : p0 = 1
  · refine lv_tableIn (tgt := 32) G.1 G.2.1 dX2_computed_1 (by rw [c_1_1]; decide) (by rw [c_1_1]; decide) (by rw [c_1_1]; rfl) (by decide) ?_
    refine lv_iload_n G.1 G.2.1 dX2_computed_32 rfl (lv_at hl 3 rfl) ?_
    exact k_iret G hr hlocks hP hS (by rw [f_X2_computed, if_pos c_1_1]) rfl rfl rfl dX2_computed_33
  · by_cases c_1_2 : p0 = 2
    · refine lv_tableIn (tgt := 34) G.1 G.2.1 dX2_computed_1 (by rw [c_1_2]; decide) (by rw [c_1_2]; decide) (by rw [c_1_2]; rfl) (by decide) ?_
      refine lv_iload_n G.1 G.2.1 dX2_computed_34 rfl (lv_at hl 1 rfl) ?_
      refine lv_iload_n G.1 G.2.1 dX2_computed_35 rfl (lv_at hl 2 rfl) ?_
      refine lv_iadd G.1 G.2.1 dX2_computed_36 ?_
      exact k_iret G hr hlocks hP hS (by rw [f_X2_computed, if_neg c_1_1, if_pos c_1_2]) rfl rfl rfl dX2_computed_37
    · by_cases c_1_3 : p0 = 3
      · refine lv_tableIn (tgt := 38) G.1 G.2.1 dX2_computed_1 (by rw [c_1_3]; decide) (by rw [c_1_3]; decide) (by rw [c_1_3]; rfl) (by decide) ?_
        refine lv_iload_n G.1 G.2.1 dX2_computed_38 rfl (lv_at hl 1 rfl) ?_
        refine lv_iload_n G.1 G.2.1 dX2_computed_39 rfl (lv_at hl 2 rfl) ?_
        refine lv_isub G.1 G.2.1 dX2_computed_40 ?_
        exact k_iret G hr hlocks hP hS (by rw [f_X2_computed, if_neg c_1_1, if_neg c_1_2, if_pos c_1_3]) rfl rfl rfl dX2_computed_41
      · by_cases c_1_4 : p0 = 4
        · refine lv_tableIn (tgt := 42) G.1 G.2.1 dX2_computed_1 (by rw [c_1_4]; decide) (by rw [c_1_4]; decide) (by rw [c_1_4]; rfl) (by decide) ?_
          refine lv_iload_n G.1 G.2.1 dX2_computed_42 rfl (lv_at hl 1 rfl) ?_
          refine lv_iload_n G.1 G.2.1 dX2_computed_43 rfl (lv_at hl 2 rfl) ?_
          refine lv_imul G.1 G.2.1 dX2_computed_44 ?_
          exact k_iret G hr hlocks hP hS (by rw [f_X2_computed, if_neg c_1_1, if_neg c_1_2, if_neg c_1_3, if_pos c_1_4]) rfl rfl rfl dX2_computed_45
        · refine lv_tableOut (tgt := 46) G.1 G.2.1 dX2_computed_1 (by have q0 := lv_neT c_1_1 (a := 1) (by decide); have q1 := lv_neT c_1_2 (a := 2) (by decide); have q2 := lv_neT c_1_3 (a := 3) (by decide); have q3 := lv_neT c_1_4 (a := 4) (by decide); omega) (by decide) ?_
          refine lv_iload_n G.1 G.2.1 dX2_computed_46 rfl (lv_at hl 1 rfl) ?_
          refine lv_iload_n G.1 G.2.1 dX2_computed_47 rfl (lv_at hl 2 rfl) ?_
          refine lv_ixor G.1 G.2.1 dX2_computed_48 ?_
          exact k_iret G hr hlocks hP hS (by rw [f_X2_computed, if_neg c_1_1, if_neg c_1_2, if_neg c_1_3, if_neg c_1_4]) rfl rfl rfl dX2_computed_49
/-! X2_load -/
def f_X2_load (ka : kM) (p0 : Nat) (p1 : Int32) (p2 : Int32) : Int32 × kM :=
  if (f_X1_holds ka p0 p2) = 0 then (2, ka) else (0, kup ka (p0 + 12) p1.toNatClampNeg (ka 1 ((ka (p0 + 6) 2) + p2).toNatClampNeg))
set_option maxHeartbeats 4000000 in
set_option maxRecDepth 100000 in
theorem c_X2_load (l : Launch) (D : va_G) (A : Nat → Nat) (C : Nat → ClassId) (ka mu : kM) (o : Int32) (sz : Nat) (hA : kinj A) (p0 : Nat) (hp0 : p0 < 6) (p1 : Int32) (p2 : Int32) (ha : vp_in p1 4) (hB : kB ka p0) : kMi l yX2_load (.code yX2_load cX2_load 4 (some .int)) ({ frames := 1, cells := 0, slots := 0, locals := 21 }) D A C ka mu o sz [.ref (A 0), .ref (A (p0 + 6)), .int p1, .int p2] ((f_X2_load ka p0 p1 p2).1) ((f_X2_load ka p0 p1 p2).2) mu o := by
  refine kMi_of hA (by decide) (Nat.le_of_ble_eq_true rfl) (fun p e s m args below meth c G hr hlocks hP hS ls hl => ?_)
  have hl : lv_has ls 4 [(0, .ref (A 0)), (1, .ref (A (p0 + 6))), (2, .int p1), (3, .int p2)] := hl
  refine lv_aload_n G.1 G.2.1 dX2_load_0 rfl (lv_at hl 1 rfl) ?_
  refine lv_iload_n G.1 G.2.1 dX2_load_1 rfl (lv_at hl 3 rfl) ?_
  refine k_Ni (As := [.int p2]) (rest := []) G hP hS hl.1 kl_X2_138 yk_X1_holds (c_X1_holds l D A C _ _ _ _ G.2.2.2.2.2.2 p0 hp0 p2 ) (kr1 G hP hp0) (by decide) (by decide) rfl (Nat.le_of_ble_eq_true rfl) dX2_load_2 (fun H locs hP hS => ?_)
  refine lv_if_ne (tgt := 10) G.1 G.2.1 dX2_load_5 (by decide) (fun c_5 => ?_) (fun c_5 => ?_)
  · refine lv_aload_n G.1 G.2.1 dX2_load_10 rfl (lv_at hl 1 rfl) ?_
    refine k1N_getr G hP hp0 kq_66 dX2_load_11 ?_
    refine lv_iload_n G.1 G.2.1 dX2_load_14 rfl (lv_at hl 2 rfl) ?_
    refine lv_aload_n G.1 G.2.1 dX2_load_15 rfl (lv_at hl 0 rfl) ?_
    refine k2_getr G hP 0 (by decide) kq_144 rfl dX2_load_16 ?_
    refine lv_aload_n G.1 G.2.1 dX2_load_19 rfl (lv_at hl 1 rfl) ?_
    refine k1N_geti G hP hp0 2 (by decide) (by decide) kq_70 rfl dX2_load_20 ?_
    refine lv_iload_n G.1 G.2.1 dX2_load_23 rfl (lv_at hl 3 rfl) ?_
    refine lv_iadd G.1 G.2.1 dX2_load_24 ?_
    refine kK_ald (r := 1) G hP kI_1 (by omega) (kin_mem hB c_5) dX2_load_25 ?_
    refine kK_ast (r := p0 + 12) G hP hS (kI_R hp0) (by omega) ha dX2_load_26 (fun H locs hP hS => ?_)
    refine lv_iconst (v := 0) G.1 G.2.1 dX2_load_27 (by decide) ?_
    exact k_iret G hr hlocks hP hS (by rw [f_X2_load, if_neg c_5]) (by rw [f_X2_load, if_neg c_5]) rfl rfl dX2_load_28
  · refine lv_iconst (v := 2) G.1 G.2.1 dX2_load_8 (by decide) ?_
    exact k_iret G hr hlocks hP hS (by rw [f_X2_load, if_pos c_5]) (by rw [f_X2_load, if_pos c_5]) rfl rfl dX2_load_9
/-! X2_store -/
def f_X2_store (ka : kM) (p0 : Nat) (p1 : Int32) (p2 : Int32) : Int32 × kM :=
  if (f_X1_holds ka p0 p2) = 0 then (2, ka) else (0, kup ka 1 ((ka (p0 + 6) 2) + p2).toNatClampNeg (ka (p0 + 12) p1.toNatClampNeg))
set_option maxHeartbeats 4000000 in
set_option maxRecDepth 100000 in
theorem c_X2_store (l : Launch) (D : va_G) (A : Nat → Nat) (C : Nat → ClassId) (ka mu : kM) (o : Int32) (sz : Nat) (hA : kinj A) (p0 : Nat) (hp0 : p0 < 6) (p1 : Int32) (p2 : Int32) (ha : vp_in p1 4) (hB : kB ka p0) : kMi l yX2_store (.code yX2_store cX2_store 4 (some .int)) ({ frames := 1, cells := 0, slots := 0, locals := 21 }) D A C ka mu o sz [.ref (A 0), .ref (A (p0 + 6)), .int p1, .int p2] ((f_X2_store ka p0 p1 p2).1) ((f_X2_store ka p0 p1 p2).2) mu o := by
  refine kMi_of hA (by decide) (Nat.le_of_ble_eq_true rfl) (fun p e s m args below meth c G hr hlocks hP hS ls hl => ?_)
  have hl : lv_has ls 4 [(0, .ref (A 0)), (1, .ref (A (p0 + 6))), (2, .int p1), (3, .int p2)] := hl
  refine lv_aload_n G.1 G.2.1 dX2_store_0 rfl (lv_at hl 1 rfl) ?_
  refine lv_iload_n G.1 G.2.1 dX2_store_1 rfl (lv_at hl 3 rfl) ?_
  refine k_Ni (As := [.int p2]) (rest := []) G hP hS hl.1 kl_X2_138 yk_X1_holds (c_X1_holds l D A C _ _ _ _ G.2.2.2.2.2.2 p0 hp0 p2 ) (kr1 G hP hp0) (by decide) (by decide) rfl (Nat.le_of_ble_eq_true rfl) dX2_store_2 (fun H locs hP hS => ?_)
  refine lv_if_ne (tgt := 10) G.1 G.2.1 dX2_store_5 (by decide) (fun c_5 => ?_) (fun c_5 => ?_)
  · refine lv_aload_n G.1 G.2.1 dX2_store_10 rfl (lv_at hl 0 rfl) ?_
    refine k2_getr G hP 0 (by decide) kq_144 rfl dX2_store_11 ?_
    refine lv_aload_n G.1 G.2.1 dX2_store_14 rfl (lv_at hl 1 rfl) ?_
    refine k1N_geti G hP hp0 2 (by decide) (by decide) kq_70 rfl dX2_store_15 ?_
    refine lv_iload_n G.1 G.2.1 dX2_store_18 rfl (lv_at hl 3 rfl) ?_
    refine lv_iadd G.1 G.2.1 dX2_store_19 ?_
    refine lv_aload_n G.1 G.2.1 dX2_store_20 rfl (lv_at hl 1 rfl) ?_
    refine k1N_getr G hP hp0 kq_66 dX2_store_21 ?_
    refine lv_iload_n G.1 G.2.1 dX2_store_24 rfl (lv_at hl 2 rfl) ?_
    refine kK_ald (r := p0 + 12) G hP (kI_R hp0) (by omega) ha dX2_store_25 ?_
    refine kK_ast (r := 1) G hP hS kI_1 (by omega) (kin_mem hB c_5) dX2_store_26 (fun H locs hP hS => ?_)
    refine lv_iconst (v := 0) G.1 G.2.1 dX2_store_27 (by decide) ?_
    exact k_iret G hr hlocks hP hS (by rw [f_X2_store, if_neg c_5]) (by rw [f_X2_store, if_neg c_5]) rfl rfl dX2_store_28
  · refine lv_iconst (v := 2) G.1 G.2.1 dX2_store_8 (by decide) ?_
    exact k_iret G hr hlocks hP hS (by rw [f_X2_store, if_pos c_5]) (by rw [f_X2_store, if_pos c_5]) rfl rfl dX2_store_9
/-! X2_moveWindowOn -/
def f_X2_moveWindowOn (ka : kM) : kM :=
  if ((kup ka 0 9 ((ka 0 9) + 1)) 5 ((kup ka 0 9 ((ka 0 9) + 1)) 0 8).toNatClampNeg) ≤ ((kup ka 0 9 ((ka 0 9) + 1)) 0 9) then (if ((kup (kup (kup (kup ka 0 9 ((ka 0 9) + 1)) 0 9 0) 0 10 0) 0 8 (((kup (kup (kup ka 0 9 ((ka 0 9) + 1)) 0 9 0) 0 10 0) 0 8) + 1)) 0 8) < ((kup (kup (kup (kup ka 0 9 ((ka 0 9) + 1)) 0 9 0) 0 10 0) 0 8 (((kup (kup (kup ka 0 9 ((ka 0 9) + 1)) 0 9 0) 0 10 0) 0 8) + 1)) 0 5) then (kup (kup (kup (kup ka 0 9 ((ka 0 9) + 1)) 0 9 0) 0 10 0) 0 8 (((kup (kup (kup ka 0 9 ((ka 0 9) + 1)) 0 9 0) 0 10 0) 0 8) + 1)) else (kup (kup (kup (kup (kup ka 0 9 ((ka 0 9) + 1)) 0 9 0) 0 10 0) 0 8 (((kup (kup (kup ka 0 9 ((ka 0 9) + 1)) 0 9 0) 0 10 0) 0 8) + 1)) 0 8 0)) else (kup ka 0 9 ((ka 0 9) + 1))
set_option maxHeartbeats 4000000 in
set_option maxRecDepth 100000 in
theorem c_X2_moveWindowOn (l : Launch) (D : va_G) (A : Nat → Nat) (C : Nat → ClassId) (ka mu : kM) (o : Int32) (sz : Nat) (hA : kinj A)  (hw : vp_in (ka 0 8) 12) : kMv l yX2_moveWindowOn (.code yX2_moveWindowOn cX2_moveWindowOn 1 none) ({ frames := 0, cells := 0, slots := 0, locals := 0 }) D A C ka mu o sz [.ref (A 0)]  (f_X2_moveWindowOn ka) mu o := by
  refine kMv_of hA (by decide) (Nat.le_of_ble_eq_true rfl) (fun p e s m args below meth c G hr hlocks hP hS ls hl => ?_)
  have hl : lv_has ls 1 [(0, .ref (A 0))] := hl
  refine lv_aload_n G.1 G.2.1 dX2_moveWindowOn_0 rfl (lv_at hl 0 rfl) ?_
  refine lv_dup G.1 G.2.1 dX2_moveWindowOn_1 rfl ?_
  refine k2_geti G hP 9 (by decide) (by decide) kq_153 rfl dX2_moveWindowOn_2 ?_
  refine lv_iconst (v := 1) G.1 G.2.1 dX2_moveWindowOn_5 (by decide) ?_
  refine lv_iadd G.1 G.2.1 dX2_moveWindowOn_6 ?_
  refine k2_puti G hP hS 9 (by decide) (by decide) kq_153 rfl rfl rfl rfl dX2_moveWindowOn_7 (fun H locs hP hS => ?_)
  refine lv_aload_n G.1 G.2.1 dX2_moveWindowOn_10 rfl (lv_at hl 0 rfl) ?_
  refine k2_geti G hP 9 (by decide) (by decide) kq_153 rfl dX2_moveWindowOn_11 ?_
  refine lv_aload_n G.1 G.2.1 dX2_moveWindowOn_14 rfl (lv_at hl 0 rfl) ?_
  refine k2_getr G hP 4 (by decide) kq_148 rfl dX2_moveWindowOn_15 ?_
  refine lv_aload_n G.1 G.2.1 dX2_moveWindowOn_18 rfl (lv_at hl 0 rfl) ?_
  refine k2_geti G hP 8 (by decide) (by decide) kq_152 rfl dX2_moveWindowOn_19 ?_
  refine kK_ald (r := 5) G hP kI_5 (by omega) (by rw [kup_j (by decide)]; exact hw) dX2_moveWindowOn_22 ?_
  refine lv_icmp_ge (tgt := 27) G.1 G.2.1 dX2_moveWindowOn_23 (by decide) (fun c_23 => ?_) (fun c_23 => ?_)
  · refine lv_aload_n G.1 G.2.1 dX2_moveWindowOn_27 rfl (lv_at hl 0 rfl) ?_
    refine lv_iconst (v := 0) G.1 G.2.1 dX2_moveWindowOn_28 (by decide) ?_
    refine k2_puti G hP hS 9 (by decide) (by decide) kq_153 rfl rfl rfl rfl dX2_moveWindowOn_29 (fun H locs hP hS => ?_)
    refine lv_aload_n G.1 G.2.1 dX2_moveWindowOn_32 rfl (lv_at hl 0 rfl) ?_
    refine lv_iconst (v := 0) G.1 G.2.1 dX2_moveWindowOn_33 (by decide) ?_
    refine k2_puti G hP hS 10 (by decide) (by decide) kq_154 rfl rfl (by decide) (by decide) dX2_moveWindowOn_34 (fun H locs hP hS => ?_)
    refine lv_aload_n G.1 G.2.1 dX2_moveWindowOn_37 rfl (lv_at hl 0 rfl) ?_
    refine lv_dup G.1 G.2.1 dX2_moveWindowOn_38 rfl ?_
    refine k2_geti G hP 8 (by decide) (by decide) kq_152 rfl dX2_moveWindowOn_39 ?_
    refine lv_iconst (v := 1) G.1 G.2.1 dX2_moveWindowOn_42 (by decide) ?_
    refine lv_iadd G.1 G.2.1 dX2_moveWindowOn_43 ?_
    refine k2_puti G hP hS 8 (by decide) (by decide) kq_152 rfl rfl rfl rfl dX2_moveWindowOn_44 (fun H locs hP hS => ?_)
    refine lv_aload_n G.1 G.2.1 dX2_moveWindowOn_47 rfl (lv_at hl 0 rfl) ?_
    refine k2_geti G hP 8 (by decide) (by decide) kq_152 rfl dX2_moveWindowOn_48 ?_
    refine lv_aload_n G.1 G.2.1 dX2_moveWindowOn_51 rfl (lv_at hl 0 rfl) ?_
    refine k2_geti G hP 5 (by decide) (by decide) kq_149 rfl dX2_moveWindowOn_52 ?_
    refine lv_icmp_lt (tgt := 63) G.1 G.2.1 dX2_moveWindowOn_55 (by decide) (fun c_55 => ?_) (fun c_55 => ?_)
    · exact k_vret G hr hlocks hP hS (by rw [f_X2_moveWindowOn, if_pos c_23, if_pos c_55]) rfl rfl dX2_moveWindowOn_63
    · refine lv_aload_n G.1 G.2.1 dX2_moveWindowOn_58 rfl (lv_at hl 0 rfl) ?_
      refine lv_iconst (v := 0) G.1 G.2.1 dX2_moveWindowOn_59 (by decide) ?_
      refine k2_puti G hP hS 8 (by decide) (by decide) kq_152 rfl rfl rfl rfl dX2_moveWindowOn_60 (fun H locs hP hS => ?_)
      exact k_vret G hr hlocks hP hS (by rw [f_X2_moveWindowOn, if_pos c_23, if_neg c_55]) rfl rfl dX2_moveWindowOn_63
  · exact k_vret G hr hlocks hP hS (by rw [f_X2_moveWindowOn, if_neg c_23]) rfl rfl dX2_moveWindowOn_26
/-! X2_current -/
def f_X2_current (ka : kM) : Int32 :=
  if (ka 0 7) = 0 then (-1) else (ka 4 (ka 0 8).toNatClampNeg)
set_option maxHeartbeats 4000000 in
set_option maxRecDepth 100000 in
theorem c_X2_current (l : Launch) (D : va_G) (A : Nat → Nat) (C : Nat → ClassId) (ka mu : kM) (o : Int32) (sz : Nat) (hA : kinj A)  (hw : vp_in (ka 0 8) 12) : kMi l yX2_current (.code yX2_current cX2_current 1 (some .int)) ({ frames := 0, cells := 0, slots := 0, locals := 0 }) D A C ka mu o sz [.ref (A 0)] (f_X2_current ka) ka mu o := by
  refine kMi_of hA (by decide) (Nat.le_of_ble_eq_true rfl) (fun p e s m args below meth c G hr hlocks hP hS ls hl => ?_)
  have hl : lv_has ls 1 [(0, .ref (A 0))] := hl
  refine lv_aload_n G.1 G.2.1 dX2_current_0 rfl (lv_at hl 0 rfl) ?_
  refine k2_geti G hP 7 (by decide) (by decide) kq_151 rfl dX2_current_1 ?_
  refine lv_if_eq (tgt := 19) G.1 G.2.1 dX2_current_4 (by decide) (fun c_4 => ?_) (fun c_4 => ?_)
  · refine lv_iconst (v := (-1)) G.1 G.2.1 dX2_current_19 (by decide) ?_
    exact k_iret G hr hlocks hP hS (by rw [f_X2_current, if_pos c_4]) rfl rfl rfl dX2_current_20
  · refine lv_aload_n G.1 G.2.1 dX2_current_7 rfl (lv_at hl 0 rfl) ?_
    refine k2_getr G hP 3 (by decide) kq_147 rfl dX2_current_8 ?_
    refine lv_aload_n G.1 G.2.1 dX2_current_11 rfl (lv_at hl 0 rfl) ?_
    refine k2_geti G hP 8 (by decide) (by decide) kq_152 rfl dX2_current_12 ?_
    refine kK_ald (r := 4) G hP kI_4 (by omega) hw dX2_current_15 ?_
    refine lv_goto (tgt := 20) G.1 G.2.1 dX2_current_16 (by decide) ?_
    exact k_iret G hr hlocks hP hS (by rw [f_X2_current, if_neg c_4]) rfl rfl rfl dX2_current_20
/-! X2_ticks -/
def f_X2_ticks (ka : kM) : Int32 :=
  (ka 0 11)
set_option maxHeartbeats 4000000 in
set_option maxRecDepth 100000 in
theorem c_X2_ticks (l : Launch) (D : va_G) (A : Nat → Nat) (C : Nat → ClassId) (ka mu : kM) (o : Int32) (sz : Nat) (hA : kinj A)  : kMi l yX2_ticks (.code yX2_ticks cX2_ticks 1 (some .int)) ({ frames := 0, cells := 0, slots := 0, locals := 0 }) D A C ka mu o sz [.ref (A 0)] (f_X2_ticks ka) ka mu o := by
  refine kMi_of hA (by decide) (Nat.le_of_ble_eq_true rfl) (fun p e s m args below meth c G hr hlocks hP hS ls hl => ?_)
  have hl : lv_has ls 1 [(0, .ref (A 0))] := hl
  refine lv_aload_n G.1 G.2.1 dX2_ticks_0 rfl (lv_at hl 0 rfl) ?_
  refine k2_geti G hP 11 (by decide) (by decide) kq_155 rfl dX2_ticks_1 ?_
  exact k_iret G hr hlocks hP hS (by rw [f_X2_ticks]) rfl rfl rfl dX2_ticks_4
