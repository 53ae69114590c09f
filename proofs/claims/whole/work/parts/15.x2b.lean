/-! X2_send -/
def f_X2_send (ka : kM) (p0 : Int32) (p1 : Int32) (p2 : Int32) (p3 : Int32) : Int32 × kM :=
  if (f_X2_isChannel ka p3) = 0 then (3, ka) else if (ka (p3.toNatClampNeg + 18) 2) = p0 then (if ((f_X0_put ka p3.toNatClampNeg (ka (p0.toNatClampNeg + 12) p1.toNatClampNeg) (ka 0 11)).1) = 0 then (0, kup ((f_X0_put ka p3.toNatClampNeg (ka (p0.toNatClampNeg + 12) p1.toNatClampNeg) (ka 0 11)).2) (p0.toNatClampNeg + 12) p2.toNatClampNeg 0) else (0, kup ((f_X0_put ka p3.toNatClampNeg (ka (p0.toNatClampNeg + 12) p1.toNatClampNeg) (ka 0 11)).2) (p0.toNatClampNeg + 12) p2.toNatClampNeg 1)) else (3, ka)
set_option maxHeartbeats 4000000 in
set_option maxRecDepth 100000 in
theorem c_X2_send (l : Launch) (D : va_G) (A : Nat → Nat) (C : Nat → ClassId) (ka mu : kM) (o : Int32) (sz : Nat) (hA : kinj A) (p0 : Int32) (p1 : Int32) (p2 : Int32) (p3 : Int32) (hp : vp_in p0 6) (ha : vp_in p1 4) (hb : vp_in p2 4) : kMi l yX2_send (.code yX2_send cX2_send 6 (some .int)) ({ frames := 2, cells := 0, slots := 0, locals := 43 }) D A C ka mu o sz [.ref (A 0), .int p0, .int p1, .int p2, .int p3] ((f_X2_send ka p0 p1 p2 p3).1) ((f_X2_send ka p0 p1 p2 p3).2) mu o := by
  refine kMi_of hA (by decide) (Nat.le_of_ble_eq_true rfl) (fun p e s m args below meth c G hr hlocks hP hS ls hl => ?_)
  have hl : lv_has ls 6 [(0, .ref (A 0)), (1, .int p0), (2, .int p1), (3, .int p2), (4, .int p3)] := hl
  refine lv_aload_n G.1 G.2.1 dX2_send_0 rfl (lv_at hl 0 rfl) ?_
  refine lv_iload G.1 G.2.1 dX2_send_1 (lv_at hl 4 rfl) ?_
  refine k_Vi (As := [.int p3]) (rest := []) G hP hS hl.1 kl_X2_110 yk_X2_isChannel (c_X2_isChannel l D A C _ _ _ _ G.2.2.2.2.2.2 p3 ) (kr2 G hP) (by decide) (by decide) rfl (Nat.le_of_ble_eq_true rfl) dX2_send_3 (fun H locs hP hS => ?_)
  refine lv_if_eq (tgt := 23) G.1 G.2.1 dX2_send_6 (by decide) (fun c_6 => ?_) (fun c_6 => ?_)
  · refine lv_iconst (v := 3) G.1 G.2.1 dX2_send_23 (by decide) ?_
    exact k_iret G hr hlocks hP hS (by rw [f_X2_send, if_pos c_6]) (by rw [f_X2_send, if_pos c_6]) rfl rfl dX2_send_24
  · refine lv_aload_n G.1 G.2.1 dX2_send_9 rfl (lv_at hl 0 rfl) ?_
    refine k2_getr G hP 2 (by decide) kq_146 rfl dX2_send_10 ?_
    refine lv_iload G.1 G.2.1 dX2_send_13 (lv_at hl 4 rfl) ?_
    have hin_15 : vp_in p3 8 := (kin_chan c_6)
    refine kC_ald G hP hin_15 dX2_send_15 ?_
    have hj_15 : p3.toNatClampNeg < 8 := kx_lt hin_15
    refine k0N_geti G hP hj_15 2 (by decide) (by decide) kq_113 rfl dX2_send_16 ?_
    refine lv_iload_n G.1 G.2.1 dX2_send_19 rfl (lv_at hl 1 rfl) ?_
    refine lv_icmp_eq (tgt := 25) G.1 G.2.1 dX2_send_20 (by decide) (fun c_20 => ?_) (fun c_20 => ?_)
    · refine lv_aload_n G.1 G.2.1 dX2_send_25 rfl (lv_at hl 0 rfl) ?_
      refine k2_getr G hP 1 (by decide) kq_145 rfl dX2_send_26 ?_
      refine lv_iload_n G.1 G.2.1 dX2_send_29 rfl (lv_at hl 1 rfl) ?_
      have hin_30 : vp_in p0 6 := hp
      refine kP_ald G hP hin_30 dX2_send_30 ?_
      have hj_30 : p0.toNatClampNeg < 6 := kx_lt hin_30
      refine k1N_getr G hP hj_30 kq_66 dX2_send_31 ?_
      refine lv_astore (lv' := [(5, .ref (A (p0.toNatClampNeg + 12))), (0, .ref (A 0)), (1, .int p0), (2, .int p1), (3, .int p2), (4, .int p3)]) G.1 G.2.1 dX2_send_34 hl (by decide) rfl (fun ls hl => ?_)
      refine lv_aload G.1 G.2.1 dX2_send_36 (lv_at hl 0 rfl) ?_
      refine lv_iload_n G.1 G.2.1 dX2_send_38 rfl (lv_at hl 4 rfl) ?_
      refine lv_aload_n G.1 G.2.1 dX2_send_39 rfl (lv_at hl 1 rfl) ?_
      refine k2_getr G hP 2 (by decide) kq_146 rfl dX2_send_40 ?_
      refine lv_iload G.1 G.2.1 dX2_send_43 (lv_at hl 5 rfl) ?_
      have hin_45 : vp_in p3 8 := (kin_chan c_6)
      refine kC_ald G hP hin_45 dX2_send_45 ?_
      have hj_45 : p3.toNatClampNeg < 8 := kx_lt hin_45
      refine lv_aload G.1 G.2.1 dX2_send_46 (lv_at hl 0 rfl) ?_
      refine lv_iload_n G.1 G.2.1 dX2_send_48 rfl (lv_at hl 3 rfl) ?_
      refine kK_ald (r := p0.toNatClampNeg + 12) G hP (kI_R hj_30) (by omega) ha dX2_send_49 ?_
      refine lv_aload_n G.1 G.2.1 dX2_send_50 rfl (lv_at hl 1 rfl) ?_
      refine k2_geti G hP 11 (by decide) (by decide) kq_155 rfl dX2_send_51 ?_
      refine k_Ni (As := [.int (ka (p0.toNatClampNeg + 12) p1.toNatClampNeg), .int (ka 0 11)]) (rest := [.int p2, .ref (A (p0.toNatClampNeg + 12))]) G hP hS hl.1 kl_X2_203 yk_X0_put (c_X0_put l D A C _ _ _ _ G.2.2.2.2.2.2 p3.toNatClampNeg hj_45 (ka (p0.toNatClampNeg + 12) p1.toNatClampNeg) (ka 0 11) ) (kr0 G hP hj_45) (by decide) (by decide) rfl (Nat.le_of_ble_eq_true rfl) dX2_send_54 (fun H locs hP hS => ?_)
      refine lv_if_eq (tgt := 64) G.1 G.2.1 dX2_send_57 (by decide) (fun c_57 => ?_) (fun c_57 => ?_)
      · refine lv_iconst (v := 0) G.1 G.2.1 dX2_send_64 (by decide) ?_
        refine kK_ast (r := p0.toNatClampNeg + 12) G hP hS (kI_R hj_30) (by omega) hb dX2_send_65 (fun H locs hP hS => ?_)
        refine lv_iconst (v := 0) G.1 G.2.1 dX2_send_66 (by decide) ?_
        exact k_iret G hr hlocks hP hS (by rw [f_X2_send, if_neg c_6, if_pos c_20, if_pos c_57]) (by rw [f_X2_send, if_neg c_6, if_pos c_20, if_pos c_57]) rfl rfl dX2_send_67
      · refine lv_iconst (v := 1) G.1 G.2.1 dX2_send_60 (by decide) ?_
        refine lv_goto (tgt := 65) G.1 G.2.1 dX2_send_61 (by decide) ?_
        refine kK_ast (r := p0.toNatClampNeg + 12) G hP hS (kI_R hj_30) (by omega) hb dX2_send_65 (fun H locs hP hS => ?_)
        refine lv_iconst (v := 0) G.1 G.2.1 dX2_send_66 (by decide) ?_
        exact k_iret G hr hlocks hP hS (by rw [f_X2_send, if_neg c_6, if_pos c_20, if_neg c_57]) (by rw [f_X2_send, if_neg c_6, if_pos c_20, if_neg c_57]) rfl rfl dX2_send_67
    · refine lv_iconst (v := 3) G.1 G.2.1 dX2_send_23 (by decide) ?_
      exact k_iret G hr hlocks hP hS (by rw [f_X2_send, if_neg c_6, if_neg c_20]) (by rw [f_X2_send, if_neg c_6, if_neg c_20]) rfl rfl dX2_send_24
/-! X2_take -/
def f_X2_take (ka : kM) (p0 : Int32) (p1 : Int32) (p2 : Int32) (p3 : Int32) : Int32 × kM :=
  if (f_X2_isChannel ka p3) = 0 then (3, ka) else if (ka (p3.toNatClampNeg + 18) 3) = p0 then (if (ka (p3.toNatClampNeg + 18) 6) = 0 then (0, kup ka (p0.toNatClampNeg + 12) p2.toNatClampNeg 0) else if (f_X0_isSlot (kup ka (p0.toNatClampNeg + 12) p1.toNatClampNeg (f_X0_wordAt ka p3.toNatClampNeg 0)) p3.toNatClampNeg) = 0 then (0, f_X0_dropTaken (kup (kup ka (p0.toNatClampNeg + 12) p1.toNatClampNeg (f_X0_wordAt ka p3.toNatClampNeg 0)) (p0.toNatClampNeg + 12) p2.toNatClampNeg 1) p3.toNatClampNeg) else (0, f_X0_dropTaken (kup (kup ka (p0.toNatClampNeg + 12) p1.toNatClampNeg (f_X0_wordAt ka p3.toNatClampNeg 0)) (p0.toNatClampNeg + 12) p2.toNatClampNeg ((f_X0_age (kup ka (p0.toNatClampNeg + 12) p1.toNatClampNeg (f_X0_wordAt ka p3.toNatClampNeg 0)) p3.toNatClampNeg ((kup ka (p0.toNatClampNeg + 12) p1.toNatClampNeg (f_X0_wordAt ka p3.toNatClampNeg 0)) 0 11)) + 1)) p3.toNatClampNeg)) else (3, ka)
set_option maxHeartbeats 4000000 in
set_option maxRecDepth 100000 in
theorem c_X2_take (l : Launch) (D : va_G) (A : Nat → Nat) (C : Nat → ClassId) (ka mu : kM) (o : Int32) (sz : Nat) (hA : kinj A) (p0 : Int32) (p1 : Int32) (p2 : Int32) (p3 : Int32) (hp : vp_in p0 6) (ha : vp_in p1 4) (hb : vp_in p2 4) : kMi l yX2_take (.code yX2_take cX2_take 7 (some .int)) ({ frames := 3, cells := 0, slots := 0, locals := 62 }) D A C ka mu o sz [.ref (A 0), .int p0, .int p1, .int p2, .int p3] ((f_X2_take ka p0 p1 p2 p3).1) ((f_X2_take ka p0 p1 p2 p3).2) mu o := by
  refine kMi_of hA (by decide) (Nat.le_of_ble_eq_true rfl) (fun p e s m args below meth c G hr hlocks hP hS ls hl => ?_)
  have hl : lv_has ls 7 [(0, .ref (A 0)), (1, .int p0), (2, .int p1), (3, .int p2), (4, .int p3)] := hl
  refine lv_aload_n G.1 G.2.1 dX2_take_0 rfl (lv_at hl 0 rfl) ?_
  refine lv_iload G.1 G.2.1 dX2_take_1 (lv_at hl 4 rfl) ?_
  refine k_Vi (As := [.int p3]) (rest := []) G hP hS hl.1 kl_X2_110 yk_X2_isChannel (c_X2_isChannel l D A C _ _ _ _ G.2.2.2.2.2.2 p3 ) (kr2 G hP) (by decide) (by decide) rfl (Nat.le_of_ble_eq_true rfl) dX2_take_3 (fun H locs hP hS => ?_)
  refine lv_if_eq (tgt := 23) G.1 G.2.1 dX2_take_6 (by decide) (fun c_6 => ?_) (fun c_6 => ?_)
  · refine lv_iconst (v := 3) G.1 G.2.1 dX2_take_23 (by decide) ?_
    exact k_iret G hr hlocks hP hS (by rw [f_X2_take, if_pos c_6]) (by rw [f_X2_take, if_pos c_6]) rfl rfl dX2_take_24
  · refine lv_aload_n G.1 G.2.1 dX2_take_9 rfl (lv_at hl 0 rfl) ?_
    refine k2_getr G hP 2 (by decide) kq_146 rfl dX2_take_10 ?_
    refine lv_iload G.1 G.2.1 dX2_take_13 (lv_at hl 4 rfl) ?_
    have hin_15 : vp_in p3 8 := (kin_chan c_6)
    refine kC_ald G hP hin_15 dX2_take_15 ?_
    have hj_15 : p3.toNatClampNeg < 8 := kx_lt hin_15
    refine k0N_geti G hP hj_15 3 (by decide) (by decide) kq_115 rfl dX2_take_16 ?_
    refine lv_iload_n G.1 G.2.1 dX2_take_19 rfl (lv_at hl 1 rfl) ?_
    refine lv_icmp_eq (tgt := 25) G.1 G.2.1 dX2_take_20 (by decide) (fun c_20 => ?_) (fun c_20 => ?_)
    · refine lv_aload_n G.1 G.2.1 dX2_take_25 rfl (lv_at hl 0 rfl) ?_
      refine k2_getr G hP 2 (by decide) kq_146 rfl dX2_take_26 ?_
      refine lv_iload G.1 G.2.1 dX2_take_29 (lv_at hl 4 rfl) ?_
      have hin_31 : vp_in p3 8 := (kin_chan c_6)
      refine kC_ald G hP hin_31 dX2_take_31 ?_
      have hj_31 : p3.toNatClampNeg < 8 := kx_lt hin_31
      refine lv_astore (lv' := [(5, .ref (A (p3.toNatClampNeg + 18))), (0, .ref (A 0)), (1, .int p0), (2, .int p1), (3, .int p2), (4, .int p3)]) G.1 G.2.1 dX2_take_32 hl (by decide) rfl (fun ls hl => ?_)
      refine lv_aload_n G.1 G.2.1 dX2_take_34 rfl (lv_at hl 1 rfl) ?_
      refine k2_getr G hP 1 (by decide) kq_145 rfl dX2_take_35 ?_
      refine lv_iload_n G.1 G.2.1 dX2_take_38 rfl (lv_at hl 2 rfl) ?_
      have hin_39 : vp_in p0 6 := hp
      refine kP_ald G hP hin_39 dX2_take_39 ?_
      have hj_39 : p0.toNatClampNeg < 6 := kx_lt hin_39
      refine k1N_getr G hP hj_39 kq_66 dX2_take_40 ?_
      refine lv_astore (lv' := [(6, .ref (A (p0.toNatClampNeg + 12))), (5, .ref (A (p3.toNatClampNeg + 18))), (0, .ref (A 0)), (1, .int p0), (2, .int p1), (3, .int p2), (4, .int p3)]) G.1 G.2.1 dX2_take_43 hl (by decide) rfl (fun ls hl => ?_)
      refine lv_aload G.1 G.2.1 dX2_take_45 (lv_at hl 1 rfl) ?_
      refine k0N_geti G hP hj_31 6 (by decide) (by decide) kq_119 rfl dX2_take_47 ?_
      refine lv_if_ne (tgt := 60) G.1 G.2.1 dX2_take_50 (by decide) (fun c_50 => ?_) (fun c_50 => ?_)
      · refine lv_aload G.1 G.2.1 dX2_take_60 (lv_at hl 0 rfl) ?_
        refine lv_iload_n G.1 G.2.1 dX2_take_62 rfl (lv_at hl 4 rfl) ?_
        refine lv_aload G.1 G.2.1 dX2_take_63 (lv_at hl 1 rfl) ?_
        refine lv_iconst (v := 0) G.1 G.2.1 dX2_take_65 (by decide) ?_
        refine k_Ni (As := [.int 0]) (rest := [.int p1, .ref (A (p0.toNatClampNeg + 12))]) G hP hS hl.1 kl_X2_126 yk_X0_wordAt (c_X0_wordAt l D A C _ _ _ _ G.2.2.2.2.2.2 p3.toNatClampNeg hj_31 0 ) (kr0 G hP hj_31) (by decide) (by decide) rfl (Nat.le_of_ble_eq_true rfl) dX2_take_66 (fun H locs hP hS => ?_)
        refine kK_ast (r := p0.toNatClampNeg + 12) G hP hS (kI_R hj_39) (by omega) ha dX2_take_69 (fun H locs hP hS => ?_)
        refine lv_aload G.1 G.2.1 dX2_take_70 (lv_at hl 0 rfl) ?_
        refine lv_iload_n G.1 G.2.1 dX2_take_72 rfl (lv_at hl 5 rfl) ?_
        refine lv_aload G.1 G.2.1 dX2_take_73 (lv_at hl 1 rfl) ?_
        refine k_Ni (As := []) (rest := [.int p2, .ref (A (p0.toNatClampNeg + 12))]) G hP hS hl.1 kl_X2_123 yk_X0_isSlot (c_X0_isSlot l D A C _ _ _ _ G.2.2.2.2.2.2 p3.toNatClampNeg hj_31 ) (kr0 G hP hj_31) (by decide) (by decide) rfl (Nat.le_of_ble_eq_true rfl) dX2_take_75 (fun H locs hP hS => ?_)
        refine lv_if_eq (tgt := 95) G.1 G.2.1 dX2_take_78 (by decide) (fun c_78 => ?_) (fun c_78 => ?_)
        · refine lv_iconst (v := 1) G.1 G.2.1 dX2_take_95 (by decide) ?_
          refine kK_ast (r := p0.toNatClampNeg + 12) G hP hS (kI_R hj_39) (by omega) hb dX2_take_96 (fun H locs hP hS => ?_)
          refine lv_aload G.1 G.2.1 dX2_take_97 (lv_at hl 1 rfl) ?_
          refine k_Nv (As := []) (rest := []) G hP hS hl.1 kl_X2_215 yk_X0_dropTaken (c_X0_dropTaken l D A C _ _ _ _ G.2.2.2.2.2.2 p3.toNatClampNeg hj_31 ) (kr0 G hP hj_31) (by decide) (by decide) rfl (Nat.le_of_ble_eq_true rfl) dX2_take_99 (fun H locs hP hS => ?_)
          refine lv_iconst (v := 0) G.1 G.2.1 dX2_take_102 (by decide) ?_
          exact k_iret G hr hlocks hP hS (by rw [f_X2_take, if_neg c_6, if_pos c_20, if_neg c_50, if_pos c_78]) (by rw [f_X2_take, if_neg c_6, if_pos c_20, if_neg c_50, if_pos c_78]) rfl rfl dX2_take_103
        · refine lv_aload G.1 G.2.1 dX2_take_81 (lv_at hl 1 rfl) ?_
          refine lv_aload_n G.1 G.2.1 dX2_take_83 rfl (lv_at hl 2 rfl) ?_
          refine k2_geti G hP 11 (by decide) (by decide) kq_155 rfl dX2_take_84 ?_
          refine k_Ni (As := [.int ((kup ka (p0.toNatClampNeg + 12) p1.toNatClampNeg (f_X0_wordAt ka p3.toNatClampNeg 0)) 0 11)]) (rest := [.int p2, .ref (A (p0.toNatClampNeg + 12))]) G hP hS hl.1 kl_X2_212 yk_X0_age (c_X0_age l D A C _ _ _ _ G.2.2.2.2.2.2 p3.toNatClampNeg hj_31 ((kup ka (p0.toNatClampNeg + 12) p1.toNatClampNeg (f_X0_wordAt ka p3.toNatClampNeg 0)) 0 11) ) (kr0 G hP hj_31) (by decide) (by decide) rfl (Nat.le_of_ble_eq_true rfl) dX2_take_87 (fun H locs hP hS => ?_)
          refine lv_iconst (v := 1) G.1 G.2.1 dX2_take_90 (by decide) ?_
          refine lv_iadd G.1 G.2.1 dX2_take_91 ?_
          refine lv_goto (tgt := 96) G.1 G.2.1 dX2_take_92 (by decide) ?_
          refine kK_ast (r := p0.toNatClampNeg + 12) G hP hS (kI_R hj_39) (by omega) hb dX2_take_96 (fun H locs hP hS => ?_)
          refine lv_aload G.1 G.2.1 dX2_take_97 (lv_at hl 1 rfl) ?_
          refine k_Nv (As := []) (rest := []) G hP hS hl.1 kl_X2_215 yk_X0_dropTaken (c_X0_dropTaken l D A C _ _ _ _ G.2.2.2.2.2.2 p3.toNatClampNeg hj_31 ) (kr0 G hP hj_31) (by decide) (by decide) rfl (Nat.le_of_ble_eq_true rfl) dX2_take_99 (fun H locs hP hS => ?_)
          refine lv_iconst (v := 0) G.1 G.2.1 dX2_take_102 (by decide) ?_
          exact k_iret G hr hlocks hP hS (by rw [f_X2_take, if_neg c_6, if_pos c_20, if_neg c_50, if_neg c_78]) (by rw [f_X2_take, if_neg c_6, if_pos c_20, if_neg c_50, if_neg c_78]) rfl rfl dX2_take_103
      · refine lv_aload G.1 G.2.1 dX2_take_53 (lv_at hl 0 rfl) ?_
        refine lv_iload_n G.1 G.2.1 dX2_take_55 rfl (lv_at hl 5 rfl) ?_
        refine lv_iconst (v := 0) G.1 G.2.1 dX2_take_56 (by decide) ?_
        refine kK_ast (r := p0.toNatClampNeg + 12) G hP hS (kI_R hj_39) (by omega) hb dX2_take_57 (fun H locs hP hS => ?_)
        refine lv_iconst (v := 0) G.1 G.2.1 dX2_take_58 (by decide) ?_
        exact k_iret G hr hlocks hP hS (by rw [f_X2_take, if_neg c_6, if_pos c_20, if_pos c_50]) (by rw [f_X2_take, if_neg c_6, if_pos c_20, if_pos c_50]) rfl rfl dX2_take_59
    · refine lv_iconst (v := 3) G.1 G.2.1 dX2_take_23 (by decide) ?_
      exact k_iret G hr hlocks hP hS (by rw [f_X2_take, if_neg c_6, if_neg c_20]) (by rw [f_X2_take, if_neg c_6, if_neg c_20]) rfl rfl dX2_take_24
/-! X2_perform -/
def f_X2_perform (ka : kM) (p0 : Int32) (p1 : Int32) : Int32 × kM :=
  if p1 &&& 15 = 0 then (0, kup ka (p0.toNatClampNeg + 6) 1 2) else if p1 &&& 15 = 1 then (0, kup ka (p0.toNatClampNeg + 12) ((p1 >>> ((4 : Int32) &&& 31)) &&& 3).toNatClampNeg (f_X2_computed ka (p1 &&& 15) (ka (p0.toNatClampNeg + 12) ((p1 >>> ((4 : Int32) &&& 31)) &&& 3).toNatClampNeg) (ka (p0.toNatClampNeg + 12) ((p1 >>> ((6 : Int32) &&& 31)) &&& 3).toNatClampNeg) (p1 >>> ((8 : Int32) &&& 31)))) else if p1 &&& 15 = 2 then (0, kup ka (p0.toNatClampNeg + 12) ((p1 >>> ((4 : Int32) &&& 31)) &&& 3).toNatClampNeg (f_X2_computed ka (p1 &&& 15) (ka (p0.toNatClampNeg + 12) ((p1 >>> ((4 : Int32) &&& 31)) &&& 3).toNatClampNeg) (ka (p0.toNatClampNeg + 12) ((p1 >>> ((6 : Int32) &&& 31)) &&& 3).toNatClampNeg) (p1 >>> ((8 : Int32) &&& 31)))) else if p1 &&& 15 = 3 then (0, kup ka (p0.toNatClampNeg + 12) ((p1 >>> ((4 : Int32) &&& 31)) &&& 3).toNatClampNeg (f_X2_computed ka (p1 &&& 15) (ka (p0.toNatClampNeg + 12) ((p1 >>> ((4 : Int32) &&& 31)) &&& 3).toNatClampNeg) (ka (p0.toNatClampNeg + 12) ((p1 >>> ((6 : Int32) &&& 31)) &&& 3).toNatClampNeg) (p1 >>> ((8 : Int32) &&& 31)))) else if p1 &&& 15 = 4 then (0, kup ka (p0.toNatClampNeg + 12) ((p1 >>> ((4 : Int32) &&& 31)) &&& 3).toNatClampNeg (f_X2_computed ka (p1 &&& 15) (ka (p0.toNatClampNeg + 12) ((p1 >>> ((4 : Int32) &&& 31)) &&& 3).toNatClampNeg) (ka (p0.toNatClampNeg + 12) ((p1 >>> ((6 : Int32) &&& 31)) &&& 3).toNatClampNeg) (p1 >>> ((8 : Int32) &&& 31)))) else if p1 &&& 15 = 5 then (0, kup ka (p0.toNatClampNeg + 12) ((p1 >>> ((4 : Int32) &&& 31)) &&& 3).toNatClampNeg (f_X2_computed ka (p1 &&& 15) (ka (p0.toNatClampNeg + 12) ((p1 >>> ((4 : Int32) &&& 31)) &&& 3).toNatClampNeg) (ka (p0.toNatClampNeg + 12) ((p1 >>> ((6 : Int32) &&& 31)) &&& 3).toNatClampNeg) (p1 >>> ((8 : Int32) &&& 31)))) else if p1 &&& 15 = 6 then ((f_X2_load ka p0.toNatClampNeg ((p1 >>> ((4 : Int32) &&& 31)) &&& 3) ((ka (p0.toNatClampNeg + 12) ((p1 >>> ((6 : Int32) &&& 31)) &&& 3).toNatClampNeg) + (p1 >>> ((8 : Int32) &&& 31)))).1, (f_X2_load ka p0.toNatClampNeg ((p1 >>> ((4 : Int32) &&& 31)) &&& 3) ((ka (p0.toNatClampNeg + 12) ((p1 >>> ((6 : Int32) &&& 31)) &&& 3).toNatClampNeg) + (p1 >>> ((8 : Int32) &&& 31)))).2) else if p1 &&& 15 = 7 then ((f_X2_store ka p0.toNatClampNeg ((p1 >>> ((4 : Int32) &&& 31)) &&& 3) ((ka (p0.toNatClampNeg + 12) ((p1 >>> ((6 : Int32) &&& 31)) &&& 3).toNatClampNeg) + (p1 >>> ((8 : Int32) &&& 31)))).1, (f_X2_store ka p0.toNatClampNeg ((p1 >>> ((4 : Int32) &&& 31)) &&& 3) ((ka (p0.toNatClampNeg + 12) ((p1 >>> ((6 : Int32) &&& 31)) &&& 3).toNatClampNeg) + (p1 >>> ((8 : Int32) &&& 31)))).2) else if p1 &&& 15 = 8 then (if (ka (p0.toNatClampNeg + 12) ((p1 >>> ((4 : Int32) &&& 31)) &&& 3).toNatClampNeg) = 0 then (0, f_X1_jumpIf ka p0.toNatClampNeg 1 (p1 >>> ((8 : Int32) &&& 31))) else (0, f_X1_jumpIf ka p0.toNatClampNeg 0 (p1 >>> ((8 : Int32) &&& 31)))) else if p1 &&& 15 = 9 then (if (0 : Int32) ≤ (ka (p0.toNatClampNeg + 12) ((p1 >>> ((4 : Int32) &&& 31)) &&& 3).toNatClampNeg) then (0, f_X1_jumpIf ka p0.toNatClampNeg 0 (p1 >>> ((8 : Int32) &&& 31))) else (0, f_X1_jumpIf ka p0.toNatClampNeg 1 (p1 >>> ((8 : Int32) &&& 31)))) else if p1 &&& 15 = 10 then (0, kup ka (p0.toNatClampNeg + 6) 5 (ka (p0.toNatClampNeg + 12) ((p1 >>> ((4 : Int32) &&& 31)) &&& 3).toNatClampNeg)) else if p1 &&& 15 = 11 then ((f_X2_send ka p0 ((p1 >>> ((4 : Int32) &&& 31)) &&& 3) ((p1 >>> ((6 : Int32) &&& 31)) &&& 3) (p1 >>> ((8 : Int32) &&& 31))).1, (f_X2_send ka p0 ((p1 >>> ((4 : Int32) &&& 31)) &&& 3) ((p1 >>> ((6 : Int32) &&& 31)) &&& 3) (p1 >>> ((8 : Int32) &&& 31))).2) else if p1 &&& 15 = 12 then ((f_X2_take ka p0 ((p1 >>> ((4 : Int32) &&& 31)) &&& 3) ((p1 >>> ((6 : Int32) &&& 31)) &&& 3) (p1 >>> ((8 : Int32) &&& 31))).1, (f_X2_take ka p0 ((p1 >>> ((4 : Int32) &&& 31)) &&& 3) ((p1 >>> ((6 : Int32) &&& 31)) &&& 3) (p1 >>> ((8 : Int32) &&& 31))).2) else if p1 &&& 15 = 13 then (0, kup ka 0 10 1) else if p1 &&& 15 = 14 then (0, kup ka (p0.toNatClampNeg + 12) ((p1 >>> ((4 : Int32) &&& 31)) &&& 3).toNatClampNeg (ka (p0.toNatClampNeg + 6) 6)) else if p1 &&& 15 = 15 then (4, ka) else (0, kup ka (p0.toNatClampNeg + 12) ((p1 >>> ((4 : Int32) &&& 31)) &&& 3).toNatClampNeg (f_X2_computed ka (p1 &&& 15) (ka (p0.toNatClampNeg + 12) ((p1 >>> ((4 : Int32) &&& 31)) &&& 3).toNatClampNeg) (ka (p0.toNatClampNeg + 12) ((p1 >>> ((6 : Int32) &&& 31)) &&& 3).toNatClampNeg) (p1 >>> ((8 : Int32) &&& 31))))
set_option maxHeartbeats 4000000 in
set_option maxRecDepth 100000 in
theorem c_X2_perform (l : Launch) (D : va_G) (A : Nat → Nat) (C : Nat → ClassId) (ka mu : kM) (o : Int32) (sz : Nat) (hA : kinj A) (p0 : Int32) (p1 : Int32) (hp : vp_in p0 6) (hB : kB ka p0.toNatClampNeg) : kMi l yX2_perform (.code yX2_perform cX2_perform 8 (some .int)) ({ frames := 4, cells := 0, slots := 0, locals := 88 }) D A C ka mu o sz [.ref (A 0), .int p0, .int p1] ((f_X2_perform ka p0 p1).1) ((f_X2_perform ka p0 p1).2) mu o := by
  refine kMi_of hA (by decide) (Nat.le_of_ble_eq_true rfl) (fun p e s m args below meth c G hr hlocks hP hS ls hl => ?_)
  have hl : lv_has ls 8 [(0, .ref (A 0)), (1, .int p0), (2, .int p1)] := hl
  refine lv_aload_n G.1 G.2.1 dX2_perform_0 rfl (lv_at hl 0 rfl) ?_
  refine k2_getr G hP 1 (by decide) kq_145 rfl dX2_perform_1 ?_
  refine lv_iload_n G.1 G.2.1 dX2_perform_4 rfl (lv_at hl 1 rfl) ?_
  have hin_5 : vp_in p0 6 := hp
  refine kP_ald G hP hin_5 dX2_perform_5 ?_
  have hj_5 : p0.toNatClampNeg < 6 := kx_lt hin_5
  refine lv_astore_n (lv' := [(3, .ref (A (p0.toNatClampNeg + 6))), (0, .ref (A 0)), (1, .int p0), (2, .int p1)]) G.1 G.2.1 dX2_perform_6 rfl hl (by decide) rfl (fun ls hl => ?_)
  refine lv_aload_n G.1 G.2.1 dX2_perform_7 rfl (lv_at hl 0 rfl) ?_
  refine k1N_getr G hP hj_5 kq_66 dX2_perform_8 ?_
  refine lv_astore (lv' := [(4, .ref (A (p0.toNatClampNeg + 12))), (3, .ref (A (p0.toNatClampNeg + 6))), (0, .ref (A 0)), (1, .int p0), (2, .int p1)]) G.1 G.2.1 dX2_perform_11 hl (by decide) rfl (fun ls hl => ?_)
  refine lv_iload_n G.1 G.2.1 dX2_perform_13 rfl (lv_at hl 4 rfl) ?_
  refine lv_iconst (v := 4) G.1 G.2.1 dX2_perform_14 (by decide) ?_
  refine lv_ishr G.1 G.2.1 dX2_perform_15 ?_
  refine lv_iconst (v := 3) G.1 G.2.1 dX2_perform_16 (by decide) ?_
  refine lv_iand G.1 G.2.1 dX2_perform_17 ?_
  refine lv_istore (lv' := [(5, .int ((p1 >>> ((4 : Int32) &&& 31)) &&& 3)), (4, .ref (A (p0.toNatClampNeg + 12))), (3, .ref (A (p0.toNatClampNeg + 6))), (0, .ref (A 0)), (1, .int p0), (2, .int p1)]) G.1 G.2.1 dX2_perform_18 hl (by decide) rfl (fun ls hl => ?_)
  refine lv_iload_n G.1 G.2.1 dX2_perform_20 rfl (lv_at hl 5 rfl) ?_
  refine lv_bipush (v := 6) G.1 G.2.1 dX2_perform_21 (by decide) ?_
  refine lv_ishr G.1 G.2.1 dX2_perform_23 ?_
  refine lv_iconst (v := 3) G.1 G.2.1 dX2_perform_24 (by decide) ?_
  refine lv_iand G.1 G.2.1 dX2_perform_25 ?_
  refine lv_istore (lv' := [(6, .int ((p1 >>> ((6 : Int32) &&& 31)) &&& 3)), (5, .int ((p1 >>> ((4 : Int32) &&& 31)) &&& 3)), (4, .ref (A (p0.toNatClampNeg + 12))), (3, .ref (A (p0.toNatClampNeg + 6))), (0, .ref (A 0)), (1, .int p0), (2, .int p1)]) G.1 G.2.1 dX2_perform_26 hl (by decide) rfl (fun ls hl => ?_)
  refine lv_iload_n G.1 G.2.1 dX2_perform_28 rfl (lv_at hl 6 rfl) ?_
  refine lv_bipush (v := 8) G.1 G.2.1 dX2_perform_29 (by decide) ?_
  refine lv_ishr G.1 G.2.1 dX2_perform_31 ?_
  refine lv_istore (lv' := [(7, .int (p1 >>> ((8 : Int32) &&& 31))), (6, .int ((p1 >>> ((6 : Int32) &&& 31)) &&& 3)), (5, .int ((p1 >>> ((4 : Int32) &&& 31)) &&& 3)), (4, .ref (A (p0.toNatClampNeg + 12))), (3, .ref (A (p0.toNatClampNeg + 6))), (0, .ref (A 0)), (1, .int p0), (2, .int p1)]) G.1 G.2.1 dX2_perform_32 hl (by decide) rfl (fun ls hl => ?_)
  refine lv_iload_n G.1 G.2.1 dX2_perform_34 rfl (lv_at hl 7 rfl) ?_
  refine lv_bipush (v := 15) G.1 G.2.1 dX2_perform_35 (by decide) ?_
  refine lv_iand G.1 G.2.1 dX2_perform_37 ?_
  by_cases c_38_0 : p1 &&& 15 = 0
  · refine lv_tableIn (tgt := 116) G.1 G.2.1 dX2_perform_38 (by rw [c_38_0]; decide) (by rw [c_38_0]; decide) (by rw [c_38_0]; rfl) (by decide) ?_
    refine lv_aload_n G.1 G.2.1 dX2_perform_116 rfl (lv_at hl 4 rfl) ?_
    refine lv_iconst (v := 2) G.1 G.2.1 dX2_perform_117 (by decide) ?_
    refine k1N_puti G hP hS hj_5 1 (by decide) (by decide) kq_68 rfl rfl rfl rfl dX2_perform_118 (fun H locs hP hS => ?_)
    refine lv_iconst (v := 0) G.1 G.2.1 dX2_perform_121 (by decide) ?_
    exact k_iret G hr hlocks hP hS (by rw [f_X2_perform, if_pos c_38_0]) (by rw [f_X2_perform, if_pos c_38_0]) rfl rfl dX2_perform_122
  · by_cases c_38_1 : p1 &&& 15 = 1
    · refine lv_tableIn (tgt := 252) G.1 G.2.1 dX2_perform_38 (by rw [c_38_1]; decide) (by rw [c_38_1]; decide) (by rw [c_38_1]; rfl) (by decide) ?_
      refine lv_aload G.1 G.2.1 dX2_perform_252 (lv_at hl 3 rfl) ?_
      refine lv_iload G.1 G.2.1 dX2_perform_254 (lv_at hl 2 rfl) ?_
      refine lv_iload_n G.1 G.2.1 dX2_perform_256 rfl (lv_at hl 7 rfl) ?_
      refine lv_bipush (v := 15) G.1 G.2.1 dX2_perform_257 (by decide) ?_
      refine lv_iand G.1 G.2.1 dX2_perform_259 ?_
      refine lv_aload G.1 G.2.1 dX2_perform_260 (lv_at hl 3 rfl) ?_
      refine lv_iload G.1 G.2.1 dX2_perform_262 (lv_at hl 2 rfl) ?_
      refine kK_ald (r := p0.toNatClampNeg + 12) G hP (kI_R hj_5) (by omega) (kin_and3 _) dX2_perform_264 ?_
      refine lv_aload G.1 G.2.1 dX2_perform_265 (lv_at hl 3 rfl) ?_
      refine lv_iload G.1 G.2.1 dX2_perform_267 (lv_at hl 1 rfl) ?_
      refine kK_ald (r := p0.toNatClampNeg + 12) G hP (kI_R hj_5) (by omega) (kin_and3 _) dX2_perform_269 ?_
      refine lv_iload G.1 G.2.1 dX2_perform_270 (lv_at hl 0 rfl) ?_
      refine k_Si (As := [.int (p1 &&& 15), .int (ka (p0.toNatClampNeg + 12) ((p1 >>> ((4 : Int32) &&& 31)) &&& 3).toNatClampNeg), .int (ka (p0.toNatClampNeg + 12) ((p1 >>> ((6 : Int32) &&& 31)) &&& 3).toNatClampNeg), .int (p1 >>> ((8 : Int32) &&& 31))]) (rest := [.int ((p1 >>> ((4 : Int32) &&& 31)) &&& 3), .ref (A (p0.toNatClampNeg + 12))]) G hP hS hl.1 kl_X2_197 yk_X2_computed (c_X2_computed l D A C _ _ _ _ G.2.2.2.2.2.2 (p1 &&& 15) (ka (p0.toNatClampNeg + 12) ((p1 >>> ((4 : Int32) &&& 31)) &&& 3).toNatClampNeg) (ka (p0.toNatClampNeg + 12) ((p1 >>> ((6 : Int32) &&& 31)) &&& 3).toNatClampNeg) (p1 >>> ((8 : Int32) &&& 31)) )  (by decide) (by decide) rfl (Nat.le_of_ble_eq_true rfl) dX2_perform_272 (fun H locs hP hS => ?_)
      refine kK_ast (r := p0.toNatClampNeg + 12) G hP hS (kI_R hj_5) (by omega) (kin_and3 _) dX2_perform_275 (fun H locs hP hS => ?_)
      refine lv_iconst (v := 0) G.1 G.2.1 dX2_perform_276 (by decide) ?_
      exact k_iret G hr hlocks hP hS (by rw [f_X2_perform, if_neg c_38_0, if_pos c_38_1]) (by rw [f_X2_perform, if_neg c_38_0, if_pos c_38_1]) rfl rfl dX2_perform_277
    · by_cases c_38_2 : p1 &&& 15 = 2
      · refine lv_tableIn (tgt := 252) G.1 G.2.1 dX2_perform_38 (by rw [c_38_2]; decide) (by rw [c_38_2]; decide) (by rw [c_38_2]; rfl) (by decide) ?_
        refine lv_aload G.1 G.2.1 dX2_perform_252 (lv_at hl 3 rfl) ?_
        refine lv_iload G.1 G.2.1 dX2_perform_254 (lv_at hl 2 rfl) ?_
        refine lv_iload_n G.1 G.2.1 dX2_perform_256 rfl (lv_at hl 7 rfl) ?_
        refine lv_bipush (v := 15) G.1 G.2.1 dX2_perform_257 (by decide) ?_
        refine lv_iand G.1 G.2.1 dX2_perform_259 ?_
        refine lv_aload G.1 G.2.1 dX2_perform_260 (lv_at hl 3 rfl) ?_
        refine lv_iload G.1 G.2.1 dX2_perform_262 (lv_at hl 2 rfl) ?_
        refine kK_ald (r := p0.toNatClampNeg + 12) G hP (kI_R hj_5) (by omega) (kin_and3 _) dX2_perform_264 ?_
        refine lv_aload G.1 G.2.1 dX2_perform_265 (lv_at hl 3 rfl) ?_
        refine lv_iload G.1 G.2.1 dX2_perform_267 (lv_at hl 1 rfl) ?_
        refine kK_ald (r := p0.toNatClampNeg + 12) G hP (kI_R hj_5) (by omega) (kin_and3 _) dX2_perform_269 ?_
        refine lv_iload G.1 G.2.1 dX2_perform_270 (lv_at hl 0 rfl) ?_
        refine k_Si (As := [.int (p1 &&& 15), .int (ka (p0.toNatClampNeg + 12) ((p1 >>> ((4 : Int32) &&& 31)) &&& 3).toNatClampNeg), .int (ka (p0.toNatClampNeg + 12) ((p1 >>> ((6 : Int32) &&& 31)) &&& 3).toNatClampNeg), .int (p1 >>> ((8 : Int32) &&& 31))]) (rest := [.int ((p1 >>> ((4 : Int32) &&& 31)) &&& 3), .ref (A (p0.toNatClampNeg + 12))]) G hP hS hl.1 kl_X2_197 yk_X2_computed (c_X2_computed l D A C _ _ _ _ G.2.2.2.2.2.2 (p1 &&& 15) (ka (p0.toNatClampNeg + 12) ((p1 >>> ((4 : Int32) &&& 31)) &&& 3).toNatClampNeg) (ka (p0.toNatClampNeg + 12) ((p1 >>> ((6 : Int32) &&& 31)) &&& 3).toNatClampNeg) (p1 >>> ((8 : Int32) &&& 31)) )  (by decide) (by decide) rfl (Nat.le_of_ble_eq_true rfl) dX2_perform_272 (fun H locs hP hS => ?_)
        refine kK_ast (r := p0.toNatClampNeg + 12) G hP hS (kI_R hj_5) (by omega) (kin_and3 _) dX2_perform_275 (fun H locs hP hS => ?_)
        refine lv_iconst (v := 0) G.1 G.2.1 dX2_perform_276 (by decide) ?_
        exact k_iret G hr hlocks hP hS (by rw [f_X2_perform, if_neg c_38_0, if_neg c_38_1, if_pos c_38_2]) (by rw [f_X2_perform, if_neg c_38_0, if_neg c_38_1, if_pos c_38_2]) rfl rfl dX2_perform_277
      · by_cases c_38_3 : p1 &&& 15 = 3
        · refine lv_tableIn (tgt := 252) G.1 G.2.1 dX2_perform_38 (by rw [c_38_3]; decide) (by rw [c_38_3]; decide) (by rw [c_38_3]; rfl) (by decide) ?_
          refine lv_aload G.1 G.2.1 dX2_perform_252 (lv_at hl 3 rfl) ?_
          refine lv_iload G.1 G.2.1 dX2_perform_254 (lv_at hl 2 rfl) ?_
          refine lv_iload_n G.1 G.2.1 dX2_perform_256 rfl (lv_at hl 7 rfl) ?_
          refine lv_bipush (v := 15) G.1 G.2.1 dX2_perform_257 (by decide) ?_
          refine lv_iand G.1 G.2.1 dX2_perform_259 ?_
          refine lv_aload G.1 G.2.1 dX2_perform_260 (lv_at hl 3 rfl) ?_
          refine lv_iload G.1 G.2.1 dX2_perform_262 (lv_at hl 2 rfl) ?_
          refine kK_ald (r := p0.toNatClampNeg + 12) G hP (kI_R hj_5) (by omega) (kin_and3 _) dX2_perform_264 ?_
          refine lv_aload G.1 G.2.1 dX2_perform_265 (lv_at hl 3 rfl) ?_
          refine lv_iload G.1 G.2.1 dX2_perform_267 (lv_at hl 1 rfl) ?_
          refine kK_ald (r := p0.toNatClampNeg + 12) G hP (kI_R hj_5) (by omega) (kin_and3 _) dX2_perform_269 ?_
          refine lv_iload G.1 G.2.1 dX2_perform_270 (lv_at hl 0 rfl) ?_
          refine k_Si (As := [.int (p1 &&& 15), .int (ka (p0.toNatClampNeg + 12) ((p1 >>> ((4 : Int32) &&& 31)) &&& 3).toNatClampNeg), .int (ka (p0.toNatClampNeg + 12) ((p1 >>> ((6 : Int32) &&& 31)) &&& 3).toNatClampNeg), .int (p1 >>> ((8 : Int32) &&& 31))]) (rest := [.int ((p1 >>> ((4 : Int32) &&& 31)) &&& 3), .ref (A (p0.toNatClampNeg + 12))]) G hP hS hl.1 kl_X2_197 yk_X2_computed (c_X2_computed l D A C _ _ _ _ G.2.2.2.2.2.2 (p1 &&& 15) (ka (p0.toNatClampNeg + 12) ((p1 >>> ((4 : Int32) &&& 31)) &&& 3).toNatClampNeg) (ka (p0.toNatClampNeg + 12) ((p1 >>> ((6 : Int32) &&& 31)) &&& 3).toNatClampNeg) (p1 >>> ((8 : Int32) &&& 31)) )  (by decide) (by decide) rfl (Nat.le_of_ble_eq_true rfl) dX2_perform_272 (fun H locs hP hS => ?_)
          refine kK_ast (r := p0.toNatClampNeg + 12) G hP hS (kI_R hj_5) (by omega) (kin_and3 _) dX2_perform_275 (fun H locs hP hS => ?_)
          refine lv_iconst (v := 0) G.1 G.2.1 dX2_perform_276 (by decide) ?_
          exact k_iret G hr hlocks hP hS (by rw [f_X2_perform, if_neg c_38_0, if_neg c_38_1, if_neg c_38_2, if_pos c_38_3]) (by rw [f_X2_perform, if_neg c_38_0, if_neg c_38_1, if_neg c_38_2, if_pos c_38_3]) rfl rfl dX2_perform_277
        · by_cases c_38_4 : p1 &&& 15 = 4
          · refine lv_tableIn (tgt := 252) G.1 G.2.1 dX2_perform_38 (by rw [c_38_4]; decide) (by rw [c_38_4]; decide) (by rw [c_38_4]; rfl) (by decide) ?_
            refine lv_aload G.1 G.2.1 dX2_perform_252 (lv_at hl 3 rfl) ?_
            refine lv_iload G.1 G.2.1 dX2_perform_254 (lv_at hl 2 rfl) ?_
            refine lv_iload_n G.1 G.2.1 dX2_perform_256 rfl (lv_at hl 7 rfl) ?_
            refine lv_bipush (v := 15) G.1 G.2.1 dX2_perform_257 (by decide) ?_
            refine lv_iand G.1 G.2.1 dX2_perform_259 ?_
            refine lv_aload G.1 G.2.1 dX2_perform_260 (lv_at hl 3 rfl) ?_
            refine lv_iload G.1 G.2.1 dX2_perform_262 (lv_at hl 2 rfl) ?_
            refine kK_ald (r := p0.toNatClampNeg + 12) G hP (kI_R hj_5) (by omega) (kin_and3 _) dX2_perform_264 ?_
            refine lv_aload G.1 G.2.1 dX2_perform_265 (lv_at hl 3 rfl) ?_
            refine lv_iload G.1 G.2.1 dX2_perform_267 (lv_at hl 1 rfl) ?_
            refine kK_ald (r := p0.toNatClampNeg + 12) G hP (kI_R hj_5) (by omega) (kin_and3 _) dX2_perform_269 ?_
            refine lv_iload G.1 G.2.1 dX2_perform_270 (lv_at hl 0 rfl) ?_
            refine k_Si (As := [.int (p1 &&& 15), .int (ka (p0.toNatClampNeg + 12) ((p1 >>> ((4 : Int32) &&& 31)) &&& 3).toNatClampNeg), .int (ka (p0.toNatClampNeg + 12) ((p1 >>> ((6 : Int32) &&& 31)) &&& 3).toNatClampNeg), .int (p1 >>> ((8 : Int32) &&& 31))]) (rest := [.int ((p1 >>> ((4 : Int32) &&& 31)) &&& 3), .ref (A (p0.toNatClampNeg + 12))]) G hP hS hl.1 kl_X2_197 yk_X2_computed (c_X2_computed l D A C _ _ _ _ G.2.2.2.2.2.2 (p1 &&& 15) (ka (p0.toNatClampNeg + 12) ((p1 >>> ((4 : Int32) &&& 31)) &&& 3).toNatClampNeg) (ka (p0.toNatClampNeg + 12) ((p1 >>> ((6 : Int32) &&& 31)) &&& 3).toNatClampNeg) (p1 >>> ((8 : Int32) &&& 31)) )  (by decide) (by decide) rfl (Nat.le_of_ble_eq_true rfl) dX2_perform_272 (fun H locs hP hS => ?_)
            refine kK_ast (r := p0.toNatClampNeg + 12) G hP hS (kI_R hj_5) (by omega) (kin_and3 _) dX2_perform_275 (fun H locs hP hS => ?_)
            refine lv_iconst (v := 0) G.1 G.2.1 dX2_perform_276 (by decide) ?_
            exact k_iret G hr hlocks hP hS (by rw [f_X2_perform, if_neg c_38_0, if_neg c_38_1, if_neg c_38_2, if_neg c_38_3, if_pos c_38_4]) (by rw [f_X2_perform, if_neg c_38_0, if_neg c_38_1, if_neg c_38_2, if_neg c_38_3, if_pos c_38_4]) rfl rfl dX2_perform_277
          · by_cases c_38_5 : p1 &&& 15 = 5
            · refine lv_tableIn (tgt := 252) G.1 G.2.1 dX2_perform_38 (by rw [c_38_5]; decide) (by rw [c_38_5]; decide) (by rw [c_38_5]; rfl) (by decide) ?_
              refine lv_aload G.1 G.2.1 dX2_perform_252 (lv_at hl 3 rfl) ?_
              refine lv_iload G.1 G.2.1 dX2_perform_254 (lv_at hl 2 rfl) ?_
              refine lv_iload_n G.1 G.2.1 dX2_perform_256 rfl (lv_at hl 7 rfl) ?_
              refine lv_bipush (v := 15) G.1 G.2.1 dX2_perform_257 (by decide) ?_
              refine lv_iand G.1 G.2.1 dX2_perform_259 ?_
              refine lv_aload G.1 G.2.1 dX2_perform_260 (lv_at hl 3 rfl) ?_
              refine lv_iload G.1 G.2.1 dX2_perform_262 (lv_at hl 2 rfl) ?_
              refine kK_ald (r := p0.toNatClampNeg + 12) G hP (kI_R hj_5) (by omega) (kin_and3 _) dX2_perform_264 ?_
              refine lv_aload G.1 G.2.1 dX2_perform_265 (lv_at hl 3 rfl) ?_
              refine lv_iload G.1 G.2.1 dX2_perform_267 (lv_at hl 1 rfl) ?_
              refine kK_ald (r := p0.toNatClampNeg + 12) G hP (kI_R hj_5) (by omega) (kin_and3 _) dX2_perform_269 ?_
              refine lv_iload G.1 G.2.1 dX2_perform_270 (lv_at hl 0 rfl) ?_
              refine k_Si (As := [.int (p1 &&& 15), .int (ka (p0.toNatClampNeg + 12) ((p1 >>> ((4 : Int32) &&& 31)) &&& 3).toNatClampNeg), .int (ka (p0.toNatClampNeg + 12) ((p1 >>> ((6 : Int32) &&& 31)) &&& 3).toNatClampNeg), .int (p1 >>> ((8 : Int32) &&& 31))]) (rest := [.int ((p1 >>> ((4 : Int32) &&& 31)) &&& 3), .ref (A (p0.toNatClampNeg + 12))]) G hP hS hl.1 kl_X2_197 yk_X2_computed (c_X2_computed l D A C _ _ _ _ G.2.2.2.2.2.2 (p1 &&& 15) (ka (p0.toNatClampNeg + 12) ((p1 >>> ((4 : Int32) &&& 31)) &&& 3).toNatClampNeg) (ka (p0.toNatClampNeg + 12) ((p1 >>> ((6 : Int32) &&& 31)) &&& 3).toNatClampNeg) (p1 >>> ((8 : Int32) &&& 31)) )  (by decide) (by decide) rfl (Nat.le_of_ble_eq_true rfl) dX2_perform_272 (fun H locs hP hS => ?_)
              refine kK_ast (r := p0.toNatClampNeg + 12) G hP hS (kI_R hj_5) (by omega) (kin_and3 _) dX2_perform_275 (fun H locs hP hS => ?_)
              refine lv_iconst (v := 0) G.1 G.2.1 dX2_perform_276 (by decide) ?_
              exact k_iret G hr hlocks hP hS (by rw [f_X2_perform, if_neg c_38_0, if_neg c_38_1, if_neg c_38_2, if_neg c_38_3, if_neg c_38_4, if_pos c_38_5]) (by rw [f_X2_perform, if_neg c_38_0, if_neg c_38_1, if_neg c_38_2, if_neg c_38_3, if_neg c_38_4, if_pos c_38_5]) rfl rfl dX2_perform_277
            · by_cases c_38_6 : p1 &&& 15 = 6
              · refine lv_tableIn (tgt := 123) G.1 G.2.1 dX2_perform_38 (by rw [c_38_6]; decide) (by rw [c_38_6]; decide) (by rw [c_38_6]; rfl) (by decide) ?_
                refine lv_aload_n G.1 G.2.1 dX2_perform_123 rfl (lv_at hl 5 rfl) ?_
                refine lv_aload_n G.1 G.2.1 dX2_perform_124 rfl (lv_at hl 4 rfl) ?_
                refine lv_iload G.1 G.2.1 dX2_perform_125 (lv_at hl 2 rfl) ?_
                refine lv_aload G.1 G.2.1 dX2_perform_127 (lv_at hl 3 rfl) ?_
                refine lv_iload G.1 G.2.1 dX2_perform_129 (lv_at hl 1 rfl) ?_
                refine kK_ald (r := p0.toNatClampNeg + 12) G hP (kI_R hj_5) (by omega) (kin_and3 _) dX2_perform_131 ?_
                refine lv_iload G.1 G.2.1 dX2_perform_132 (lv_at hl 0 rfl) ?_
                refine lv_iadd G.1 G.2.1 dX2_perform_134 ?_
                refine k_Vi (As := [.ref (A (p0.toNatClampNeg + 6)), .int ((p1 >>> ((4 : Int32) &&& 31)) &&& 3), .int ((ka (p0.toNatClampNeg + 12) ((p1 >>> ((6 : Int32) &&& 31)) &&& 3).toNatClampNeg) + (p1 >>> ((8 : Int32) &&& 31)))]) (rest := []) G hP hS hl.1 kl_X2_179 yk_X2_load (c_X2_load l D A C _ _ _ _ G.2.2.2.2.2.2 p0.toNatClampNeg hj_5 ((p1 >>> ((4 : Int32) &&& 31)) &&& 3) ((ka (p0.toNatClampNeg + 12) ((p1 >>> ((6 : Int32) &&& 31)) &&& 3).toNatClampNeg) + (p1 >>> ((8 : Int32) &&& 31))) (kin_and3 _) hB) (kr2 G hP) (by decide) (by decide) rfl (Nat.le_of_ble_eq_true rfl) dX2_perform_135 (fun H locs hP hS => ?_)
                exact k_iret G hr hlocks hP hS (by rw [f_X2_perform, if_neg c_38_0, if_neg c_38_1, if_neg c_38_2, if_neg c_38_3, if_neg c_38_4, if_neg c_38_5, if_pos c_38_6]) (by rw [f_X2_perform, if_neg c_38_0, if_neg c_38_1, if_neg c_38_2, if_neg c_38_3, if_neg c_38_4, if_neg c_38_5, if_pos c_38_6]) rfl rfl dX2_perform_138
              · by_cases c_38_7 : p1 &&& 15 = 7
                · refine lv_tableIn (tgt := 139) G.1 G.2.1 dX2_perform_38 (by rw [c_38_7]; decide) (by rw [c_38_7]; decide) (by rw [c_38_7]; rfl) (by decide) ?_
                  refine lv_aload_n G.1 G.2.1 dX2_perform_139 rfl (lv_at hl 5 rfl) ?_
                  refine lv_aload_n G.1 G.2.1 dX2_perform_140 rfl (lv_at hl 4 rfl) ?_
                  refine lv_iload G.1 G.2.1 dX2_perform_141 (lv_at hl 2 rfl) ?_
                  refine lv_aload G.1 G.2.1 dX2_perform_143 (lv_at hl 3 rfl) ?_
                  refine lv_iload G.1 G.2.1 dX2_perform_145 (lv_at hl 1 rfl) ?_
                  refine kK_ald (r := p0.toNatClampNeg + 12) G hP (kI_R hj_5) (by omega) (kin_and3 _) dX2_perform_147 ?_
                  refine lv_iload G.1 G.2.1 dX2_perform_148 (lv_at hl 0 rfl) ?_
                  refine lv_iadd G.1 G.2.1 dX2_perform_150 ?_
                  refine k_Vi (As := [.ref (A (p0.toNatClampNeg + 6)), .int ((p1 >>> ((4 : Int32) &&& 31)) &&& 3), .int ((ka (p0.toNatClampNeg + 12) ((p1 >>> ((6 : Int32) &&& 31)) &&& 3).toNatClampNeg) + (p1 >>> ((8 : Int32) &&& 31)))]) (rest := []) G hP hS hl.1 kl_X2_183 yk_X2_store (c_X2_store l D A C _ _ _ _ G.2.2.2.2.2.2 p0.toNatClampNeg hj_5 ((p1 >>> ((4 : Int32) &&& 31)) &&& 3) ((ka (p0.toNatClampNeg + 12) ((p1 >>> ((6 : Int32) &&& 31)) &&& 3).toNatClampNeg) + (p1 >>> ((8 : Int32) &&& 31))) (kin_and3 _) hB) (kr2 G hP) (by decide) (by decide) rfl (Nat.le_of_ble_eq_true rfl) dX2_perform_151 (fun H locs hP hS => ?_)
                  exact k_iret G hr hlocks hP hS (by rw [f_X2_perform, if_neg c_38_0, if_neg c_38_1, if_neg c_38_2, if_neg c_38_3, if_neg c_38_4, if_neg c_38_5, if_neg c_38_6, if_pos c_38_7]) (by rw [f_X2_perform, if_neg c_38_0, if_neg c_38_1, if_neg c_38_2, if_neg c_38_3, if_neg c_38_4, if_neg c_38_5, if_neg c_38_6, if_pos c_38_7]) rfl rfl dX2_perform_154
                · by_cases c_38_8 : p1 &&& 15 = 8
                  · refine lv_tableIn (tgt := 155) G.1 G.2.1 dX2_perform_38 (by rw [c_38_8]; decide) (by rw [c_38_8]; decide) (by rw [c_38_8]; rfl) (by decide) ?_
                    refine lv_aload_n G.1 G.2.1 dX2_perform_155 rfl (lv_at hl 4 rfl) ?_
                    refine lv_aload G.1 G.2.1 dX2_perform_156 (lv_at hl 3 rfl) ?_
                    refine lv_iload G.1 G.2.1 dX2_perform_158 (lv_at hl 2 rfl) ?_
                    refine kK_ald (r := p0.toNatClampNeg + 12) G hP (kI_R hj_5) (by omega) (kin_and3 _) dX2_perform_160 ?_
                    refine lv_if_ne (tgt := 168) G.1 G.2.1 dX2_perform_161 (by decide) (fun c_161 => ?_) (fun c_161 => ?_)
                    · refine lv_iconst (v := 0) G.1 G.2.1 dX2_perform_168 (by decide) ?_
                      refine lv_iload G.1 G.2.1 dX2_perform_169 (lv_at hl 0 rfl) ?_
                      refine k_Nv (As := [.int 0, .int (p1 >>> ((8 : Int32) &&& 31))]) (rest := []) G hP hS hl.1 kl_X2_186 yk_X1_jumpIf (c_X1_jumpIf l D A C _ _ _ _ G.2.2.2.2.2.2 p0.toNatClampNeg hj_5 0 (p1 >>> ((8 : Int32) &&& 31)) ) (kr1 G hP hj_5) (by decide) (by decide) rfl (Nat.le_of_ble_eq_true rfl) dX2_perform_171 (fun H locs hP hS => ?_)
                      refine lv_iconst (v := 0) G.1 G.2.1 dX2_perform_174 (by decide) ?_
                      exact k_iret G hr hlocks hP hS (by rw [f_X2_perform, if_neg c_38_0, if_neg c_38_1, if_neg c_38_2, if_neg c_38_3, if_neg c_38_4, if_neg c_38_5, if_neg c_38_6, if_neg c_38_7, if_pos c_38_8, if_neg c_161]) (by rw [f_X2_perform, if_neg c_38_0, if_neg c_38_1, if_neg c_38_2, if_neg c_38_3, if_neg c_38_4, if_neg c_38_5, if_neg c_38_6, if_neg c_38_7, if_pos c_38_8, if_neg c_161]) rfl rfl dX2_perform_175
                    · refine lv_iconst (v := 1) G.1 G.2.1 dX2_perform_164 (by decide) ?_
                      refine lv_goto (tgt := 169) G.1 G.2.1 dX2_perform_165 (by decide) ?_
                      refine lv_iload G.1 G.2.1 dX2_perform_169 (lv_at hl 0 rfl) ?_
                      refine k_Nv (As := [.int 1, .int (p1 >>> ((8 : Int32) &&& 31))]) (rest := []) G hP hS hl.1 kl_X2_186 yk_X1_jumpIf (c_X1_jumpIf l D A C _ _ _ _ G.2.2.2.2.2.2 p0.toNatClampNeg hj_5 1 (p1 >>> ((8 : Int32) &&& 31)) ) (kr1 G hP hj_5) (by decide) (by decide) rfl (Nat.le_of_ble_eq_true rfl) dX2_perform_171 (fun H locs hP hS => ?_)
                      refine lv_iconst (v := 0) G.1 G.2.1 dX2_perform_174 (by decide) ?_
                      exact k_iret G hr hlocks hP hS (by rw [f_X2_perform, if_neg c_38_0, if_neg c_38_1, if_neg c_38_2, if_neg c_38_3, if_neg c_38_4, if_neg c_38_5, if_neg c_38_6, if_neg c_38_7, if_pos c_38_8, if_pos c_161]) (by rw [f_X2_perform, if_neg c_38_0, if_neg c_38_1, if_neg c_38_2, if_neg c_38_3, if_neg c_38_4, if_neg c_38_5, if_neg c_38_6, if_neg c_38_7, if_pos c_38_8, if_pos c_161]) rfl rfl dX2_perform_175
                  · by_cases c_38_9 : p1 &&& 15 = 9
                    · refine lv_tableIn (tgt := 176) G.1 G.2.1 dX2_perform_38 (by rw [c_38_9]; decide) (by rw [c_38_9]; decide) (by rw [c_38_9]; rfl) (by decide) ?_
                      refine lv_aload_n G.1 G.2.1 dX2_perform_176 rfl (lv_at hl 4 rfl) ?_
                      refine lv_aload G.1 G.2.1 dX2_perform_177 (lv_at hl 3 rfl) ?_
                      refine lv_iload G.1 G.2.1 dX2_perform_179 (lv_at hl 2 rfl) ?_
                      refine kK_ald (r := p0.toNatClampNeg + 12) G hP (kI_R hj_5) (by omega) (kin_and3 _) dX2_perform_181 ?_
                      refine lv_if_ge (tgt := 189) G.1 G.2.1 dX2_perform_182 (by decide) (fun c_182 => ?_) (fun c_182 => ?_)
                      · refine lv_iconst (v := 0) G.1 G.2.1 dX2_perform_189 (by decide) ?_
                        refine lv_iload G.1 G.2.1 dX2_perform_190 (lv_at hl 0 rfl) ?_
                        refine k_Nv (As := [.int 0, .int (p1 >>> ((8 : Int32) &&& 31))]) (rest := []) G hP hS hl.1 kl_X2_186 yk_X1_jumpIf (c_X1_jumpIf l D A C _ _ _ _ G.2.2.2.2.2.2 p0.toNatClampNeg hj_5 0 (p1 >>> ((8 : Int32) &&& 31)) ) (kr1 G hP hj_5) (by decide) (by decide) rfl (Nat.le_of_ble_eq_true rfl) dX2_perform_192 (fun H locs hP hS => ?_)
                        refine lv_iconst (v := 0) G.1 G.2.1 dX2_perform_195 (by decide) ?_
                        exact k_iret G hr hlocks hP hS (by rw [f_X2_perform, if_neg c_38_0, if_neg c_38_1, if_neg c_38_2, if_neg c_38_3, if_neg c_38_4, if_neg c_38_5, if_neg c_38_6, if_neg c_38_7, if_neg c_38_8, if_pos c_38_9, if_pos c_182]) (by rw [f_X2_perform, if_neg c_38_0, if_neg c_38_1, if_neg c_38_2, if_neg c_38_3, if_neg c_38_4, if_neg c_38_5, if_neg c_38_6, if_neg c_38_7, if_neg c_38_8, if_pos c_38_9, if_pos c_182]) rfl rfl dX2_perform_196
                      · refine lv_iconst (v := 1) G.1 G.2.1 dX2_perform_185 (by decide) ?_
                        refine lv_goto (tgt := 190) G.1 G.2.1 dX2_perform_186 (by decide) ?_
                        refine lv_iload G.1 G.2.1 dX2_perform_190 (lv_at hl 0 rfl) ?_
                        refine k_Nv (As := [.int 1, .int (p1 >>> ((8 : Int32) &&& 31))]) (rest := []) G hP hS hl.1 kl_X2_186 yk_X1_jumpIf (c_X1_jumpIf l D A C _ _ _ _ G.2.2.2.2.2.2 p0.toNatClampNeg hj_5 1 (p1 >>> ((8 : Int32) &&& 31)) ) (kr1 G hP hj_5) (by decide) (by decide) rfl (Nat.le_of_ble_eq_true rfl) dX2_perform_192 (fun H locs hP hS => ?_)
                        refine lv_iconst (v := 0) G.1 G.2.1 dX2_perform_195 (by decide) ?_
                        exact k_iret G hr hlocks hP hS (by rw [f_X2_perform, if_neg c_38_0, if_neg c_38_1, if_neg c_38_2, if_neg c_38_3, if_neg c_38_4, if_neg c_38_5, if_neg c_38_6, if_neg c_38_7, if_neg c_38_8, if_pos c_38_9, if_neg c_182]) (by rw [f_X2_perform, if_neg c_38_0, if_neg c_38_1, if_neg c_38_2, if_neg c_38_3, if_neg c_38_4, if_neg c_38_5, if_neg c_38_6, if_neg c_38_7, if_neg c_38_8, if_pos c_38_9, if_neg c_182]) rfl rfl dX2_perform_196
                    · by_cases c_38_10 : p1 &&& 15 = 10
                      · refine lv_tableIn (tgt := 197) G.1 G.2.1 dX2_perform_38 (by rw [c_38_10]; decide) (by rw [c_38_10]; decide) (by rw [c_38_10]; rfl) (by decide) ?_
                        refine lv_aload_n G.1 G.2.1 dX2_perform_197 rfl (lv_at hl 4 rfl) ?_
                        refine lv_aload G.1 G.2.1 dX2_perform_198 (lv_at hl 3 rfl) ?_
                        refine lv_iload G.1 G.2.1 dX2_perform_200 (lv_at hl 2 rfl) ?_
                        refine kK_ald (r := p0.toNatClampNeg + 12) G hP (kI_R hj_5) (by omega) (kin_and3 _) dX2_perform_202 ?_
                        refine k1N_puti G hP hS hj_5 5 (by decide) (by decide) kq_74 rfl rfl rfl rfl dX2_perform_203 (fun H locs hP hS => ?_)
                        refine lv_iconst (v := 0) G.1 G.2.1 dX2_perform_206 (by decide) ?_
                        exact k_iret G hr hlocks hP hS (by rw [f_X2_perform, if_neg c_38_0, if_neg c_38_1, if_neg c_38_2, if_neg c_38_3, if_neg c_38_4, if_neg c_38_5, if_neg c_38_6, if_neg c_38_7, if_neg c_38_8, if_neg c_38_9, if_pos c_38_10]) (by rw [f_X2_perform, if_neg c_38_0, if_neg c_38_1, if_neg c_38_2, if_neg c_38_3, if_neg c_38_4, if_neg c_38_5, if_neg c_38_6, if_neg c_38_7, if_neg c_38_8, if_neg c_38_9, if_pos c_38_10]) rfl rfl dX2_perform_207
                      · by_cases c_38_11 : p1 &&& 15 = 11
                        · refine lv_tableIn (tgt := 208) G.1 G.2.1 dX2_perform_38 (by rw [c_38_11]; decide) (by rw [c_38_11]; decide) (by rw [c_38_11]; rfl) (by decide) ?_
                          refine lv_aload_n G.1 G.2.1 dX2_perform_208 rfl (lv_at hl 5 rfl) ?_
                          refine lv_iload_n G.1 G.2.1 dX2_perform_209 rfl (lv_at hl 6 rfl) ?_
                          refine lv_iload G.1 G.2.1 dX2_perform_210 (lv_at hl 2 rfl) ?_
                          refine lv_iload G.1 G.2.1 dX2_perform_212 (lv_at hl 1 rfl) ?_
                          refine lv_iload G.1 G.2.1 dX2_perform_214 (lv_at hl 0 rfl) ?_
                          refine k_Vi (As := [.int p0, .int ((p1 >>> ((4 : Int32) &&& 31)) &&& 3), .int ((p1 >>> ((6 : Int32) &&& 31)) &&& 3), .int (p1 >>> ((8 : Int32) &&& 31))]) (rest := []) G hP hS hl.1 kl_X2_190 yk_X2_send (c_X2_send l D A C _ _ _ _ G.2.2.2.2.2.2 p0 ((p1 >>> ((4 : Int32) &&& 31)) &&& 3) ((p1 >>> ((6 : Int32) &&& 31)) &&& 3) (p1 >>> ((8 : Int32) &&& 31)) hp (kin_and3 _) (kin_and3 _)) (kr2 G hP) (by decide) (by decide) rfl (Nat.le_of_ble_eq_true rfl) dX2_perform_216 (fun H locs hP hS => ?_)
                          exact k_iret G hr hlocks hP hS (by rw [f_X2_perform, if_neg c_38_0, if_neg c_38_1, if_neg c_38_2, if_neg c_38_3, if_neg c_38_4, if_neg c_38_5, if_neg c_38_6, if_neg c_38_7, if_neg c_38_8, if_neg c_38_9, if_neg c_38_10, if_pos c_38_11]) (by rw [f_X2_perform, if_neg c_38_0, if_neg c_38_1, if_neg c_38_2, if_neg c_38_3, if_neg c_38_4, if_neg c_38_5, if_neg c_38_6, if_neg c_38_7, if_neg c_38_8, if_neg c_38_9, if_neg c_38_10, if_pos c_38_11]) rfl rfl dX2_perform_219
                        · by_cases c_38_12 : p1 &&& 15 = 12
                          · refine lv_tableIn (tgt := 220) G.1 G.2.1 dX2_perform_38 (by rw [c_38_12]; decide) (by rw [c_38_12]; decide) (by rw [c_38_12]; rfl) (by decide) ?_
                            refine lv_aload_n G.1 G.2.1 dX2_perform_220 rfl (lv_at hl 5 rfl) ?_
                            refine lv_iload_n G.1 G.2.1 dX2_perform_221 rfl (lv_at hl 6 rfl) ?_
                            refine lv_iload G.1 G.2.1 dX2_perform_222 (lv_at hl 2 rfl) ?_
                            refine lv_iload G.1 G.2.1 dX2_perform_224 (lv_at hl 1 rfl) ?_
                            refine lv_iload G.1 G.2.1 dX2_perform_226 (lv_at hl 0 rfl) ?_
                            refine k_Vi (As := [.int p0, .int ((p1 >>> ((4 : Int32) &&& 31)) &&& 3), .int ((p1 >>> ((6 : Int32) &&& 31)) &&& 3), .int (p1 >>> ((8 : Int32) &&& 31))]) (rest := []) G hP hS hl.1 kl_X2_194 yk_X2_take (c_X2_take l D A C _ _ _ _ G.2.2.2.2.2.2 p0 ((p1 >>> ((4 : Int32) &&& 31)) &&& 3) ((p1 >>> ((6 : Int32) &&& 31)) &&& 3) (p1 >>> ((8 : Int32) &&& 31)) hp (kin_and3 _) (kin_and3 _)) (kr2 G hP) (by decide) (by decide) rfl (Nat.le_of_ble_eq_true rfl) dX2_perform_228 (fun H locs hP hS => ?_)
                            exact k_iret G hr hlocks hP hS (by rw [f_X2_perform, if_neg c_38_0, if_neg c_38_1, if_neg c_38_2, if_neg c_38_3, if_neg c_38_4, if_neg c_38_5, if_neg c_38_6, if_neg c_38_7, if_neg c_38_8, if_neg c_38_9, if_neg c_38_10, if_neg c_38_11, if_pos c_38_12]) (by rw [f_X2_perform, if_neg c_38_0, if_neg c_38_1, if_neg c_38_2, if_neg c_38_3, if_neg c_38_4, if_neg c_38_5, if_neg c_38_6, if_neg c_38_7, if_neg c_38_8, if_neg c_38_9, if_neg c_38_10, if_neg c_38_11, if_pos c_38_12]) rfl rfl dX2_perform_231
                          · by_cases c_38_13 : p1 &&& 15 = 13
                            · refine lv_tableIn (tgt := 232) G.1 G.2.1 dX2_perform_38 (by rw [c_38_13]; decide) (by rw [c_38_13]; decide) (by rw [c_38_13]; rfl) (by decide) ?_
                              refine lv_aload_n G.1 G.2.1 dX2_perform_232 rfl (lv_at hl 5 rfl) ?_
                              refine lv_iconst (v := 1) G.1 G.2.1 dX2_perform_233 (by decide) ?_
                              refine k2_puti G hP hS 10 (by decide) (by decide) kq_154 rfl rfl (by decide) (by decide) dX2_perform_234 (fun H locs hP hS => ?_)
                              refine lv_iconst (v := 0) G.1 G.2.1 dX2_perform_237 (by decide) ?_
                              exact k_iret G hr hlocks hP hS (by rw [f_X2_perform, if_neg c_38_0, if_neg c_38_1, if_neg c_38_2, if_neg c_38_3, if_neg c_38_4, if_neg c_38_5, if_neg c_38_6, if_neg c_38_7, if_neg c_38_8, if_neg c_38_9, if_neg c_38_10, if_neg c_38_11, if_neg c_38_12, if_pos c_38_13]) (by rw [f_X2_perform, if_neg c_38_0, if_neg c_38_1, if_neg c_38_2, if_neg c_38_3, if_neg c_38_4, if_neg c_38_5, if_neg c_38_6, if_neg c_38_7, if_neg c_38_8, if_neg c_38_9, if_neg c_38_10, if_neg c_38_11, if_neg c_38_12, if_pos c_38_13]) rfl rfl dX2_perform_238
                            · by_cases c_38_14 : p1 &&& 15 = 14
                              · refine lv_tableIn (tgt := 239) G.1 G.2.1 dX2_perform_38 (by rw [c_38_14]; decide) (by rw [c_38_14]; decide) (by rw [c_38_14]; rfl) (by decide) ?_
                                refine lv_aload G.1 G.2.1 dX2_perform_239 (lv_at hl 3 rfl) ?_
                                refine lv_iload G.1 G.2.1 dX2_perform_241 (lv_at hl 2 rfl) ?_
                                refine lv_aload_n G.1 G.2.1 dX2_perform_243 rfl (lv_at hl 4 rfl) ?_
                                refine k1N_geti G hP hj_5 6 (by decide) (by decide) kq_76 rfl dX2_perform_244 ?_
                                refine kK_ast (r := p0.toNatClampNeg + 12) G hP hS (kI_R hj_5) (by omega) (kin_and3 _) dX2_perform_247 (fun H locs hP hS => ?_)
                                refine lv_iconst (v := 0) G.1 G.2.1 dX2_perform_248 (by decide) ?_
                                exact k_iret G hr hlocks hP hS (by rw [f_X2_perform, if_neg c_38_0, if_neg c_38_1, if_neg c_38_2, if_neg c_38_3, if_neg c_38_4, if_neg c_38_5, if_neg c_38_6, if_neg c_38_7, if_neg c_38_8, if_neg c_38_9, if_neg c_38_10, if_neg c_38_11, if_neg c_38_12, if_neg c_38_13, if_pos c_38_14]) (by rw [f_X2_perform, if_neg c_38_0, if_neg c_38_1, if_neg c_38_2, if_neg c_38_3, if_neg c_38_4, if_neg c_38_5, if_neg c_38_6, if_neg c_38_7, if_neg c_38_8, if_neg c_38_9, if_neg c_38_10, if_neg c_38_11, if_neg c_38_12, if_neg c_38_13, if_pos c_38_14]) rfl rfl dX2_perform_249
                              · by_cases c_38_15 : p1 &&& 15 = 15
                                · refine lv_tableIn (tgt := 250) G.1 G.2.1 dX2_perform_38 (by rw [c_38_15]; decide) (by rw [c_38_15]; decide) (by rw [c_38_15]; rfl) (by decide) ?_
                                  refine lv_iconst (v := 4) G.1 G.2.1 dX2_perform_250 (by decide) ?_
                                  exact k_iret G hr hlocks hP hS (by rw [f_X2_perform, if_neg c_38_0, if_neg c_38_1, if_neg c_38_2, if_neg c_38_3, if_neg c_38_4, if_neg c_38_5, if_neg c_38_6, if_neg c_38_7, if_neg c_38_8, if_neg c_38_9, if_neg c_38_10, if_neg c_38_11, if_neg c_38_12, if_neg c_38_13, if_neg c_38_14, if_pos c_38_15]) (by rw [f_X2_perform, if_neg c_38_0, if_neg c_38_1, if_neg c_38_2, if_neg c_38_3, if_neg c_38_4, if_neg c_38_5, if_neg c_38_6, if_neg c_38_7, if_neg c_38_8, if_neg c_38_9, if_neg c_38_10, if_neg c_38_11, if_neg c_38_12, if_neg c_38_13, if_neg c_38_14, if_pos c_38_15]) rfl rfl dX2_perform_251
                                · refine lv_tableOut (tgt := 252) G.1 G.2.1 dX2_perform_38 (by have q0 := lv_neT c_38_0 (a := 0) (by decide); have q1 := lv_neT c_38_1 (a := 1) (by decide); have q2 := lv_neT c_38_2 (a := 2) (by decide); have q3 := lv_neT c_38_3 (a := 3) (by decide); have q4 := lv_neT c_38_4 (a := 4) (by decide); have q5 := lv_neT c_38_5 (a := 5) (by decide); have q6 := lv_neT c_38_6 (a := 6) (by decide); have q7 := lv_neT c_38_7 (a := 7) (by decide); have q8 := lv_neT c_38_8 (a := 8) (by decide); have q9 := lv_neT c_38_9 (a := 9) (by decide); have q10 := lv_neT c_38_10 (a := 10) (by decide); have q11 := lv_neT c_38_11 (a := 11) (by decide); have q12 := lv_neT c_38_12 (a := 12) (by decide); have q13 := lv_neT c_38_13 (a := 13) (by decide); have q14 := lv_neT c_38_14 (a := 14) (by decide); have q15 := lv_neT c_38_15 (a := 15) (by decide); omega) (by decide) ?_
                                  refine lv_aload G.1 G.2.1 dX2_perform_252 (lv_at hl 3 rfl) ?_
                                  refine lv_iload G.1 G.2.1 dX2_perform_254 (lv_at hl 2 rfl) ?_
                                  refine lv_iload_n G.1 G.2.1 dX2_perform_256 rfl (lv_at hl 7 rfl) ?_
                                  refine lv_bipush (v := 15) G.1 G.2.1 dX2_perform_257 (by decide) ?_
                                  refine lv_iand G.1 G.2.1 dX2_perform_259 ?_
                                  refine lv_aload G.1 G.2.1 dX2_perform_260 (lv_at hl 3 rfl) ?_
                                  refine lv_iload G.1 G.2.1 dX2_perform_262 (lv_at hl 2 rfl) ?_
                                  refine kK_ald (r := p0.toNatClampNeg + 12) G hP (kI_R hj_5) (by omega) (kin_and3 _) dX2_perform_264 ?_
                                  refine lv_aload G.1 G.2.1 dX2_perform_265 (lv_at hl 3 rfl) ?_
                                  refine lv_iload G.1 G.2.1 dX2_perform_267 (lv_at hl 1 rfl) ?_
                                  refine kK_ald (r := p0.toNatClampNeg + 12) G hP (kI_R hj_5) (by omega) (kin_and3 _) dX2_perform_269 ?_
                                  refine lv_iload G.1 G.2.1 dX2_perform_270 (lv_at hl 0 rfl) ?_
                                  refine k_Si (As := [.int (p1 &&& 15), .int (ka (p0.toNatClampNeg + 12) ((p1 >>> ((4 : Int32) &&& 31)) &&& 3).toNatClampNeg), .int (ka (p0.toNatClampNeg + 12) ((p1 >>> ((6 : Int32) &&& 31)) &&& 3).toNatClampNeg), .int (p1 >>> ((8 : Int32) &&& 31))]) (rest := [.int ((p1 >>> ((4 : Int32) &&& 31)) &&& 3), .ref (A (p0.toNatClampNeg + 12))]) G hP hS hl.1 kl_X2_197 yk_X2_computed (c_X2_computed l D A C _ _ _ _ G.2.2.2.2.2.2 (p1 &&& 15) (ka (p0.toNatClampNeg + 12) ((p1 >>> ((4 : Int32) &&& 31)) &&& 3).toNatClampNeg) (ka (p0.toNatClampNeg + 12) ((p1 >>> ((6 : Int32) &&& 31)) &&& 3).toNatClampNeg) (p1 >>> ((8 : Int32) &&& 31)) )  (by decide) (by decide) rfl (Nat.le_of_ble_eq_true rfl) dX2_perform_272 (fun H locs hP hS => ?_)
                                  refine kK_ast (r := p0.toNatClampNeg + 12) G hP hS (kI_R hj_5) (by omega) (kin_and3 _) dX2_perform_275 (fun H locs hP hS => ?_)
                                  refine lv_iconst (v := 0) G.1 G.2.1 dX2_perform_276 (by decide) ?_
                                  exact k_iret G hr hlocks hP hS (by rw [f_X2_perform, if_neg c_38_0, if_neg c_38_1, if_neg c_38_2, if_neg c_38_3, if_neg c_38_4, if_neg c_38_5, if_neg c_38_6, if_neg c_38_7, if_neg c_38_8, if_neg c_38_9, if_neg c_38_10, if_neg c_38_11, if_neg c_38_12, if_neg c_38_13, if_neg c_38_14, if_neg c_38_15]) (by rw [f_X2_perform, if_neg c_38_0, if_neg c_38_1, if_neg c_38_2, if_neg c_38_3, if_neg c_38_4, if_neg c_38_5, if_neg c_38_6, if_neg c_38_7, if_neg c_38_8, if_neg c_38_9, if_neg c_38_10, if_neg c_38_11, if_neg c_38_12, if_neg c_38_13, if_neg c_38_14, if_neg c_38_15]) rfl rfl dX2_perform_277
/-! X2_runInstruction -/
def f_X2_runInstruction (ka : kM) (p0 : Int32) : kM :=
  if (f_X1_holds ka p0.toNatClampNeg (ka (p0.toNatClampNeg + 6) 5)) = 0 then (if ((f_X1_restartAfter (kup ka (p0.toNatClampNeg + 6) 5 (ka (p0.toNatClampNeg + 6) 5)) p0.toNatClampNeg 1).1) = 0 then ((f_X1_restartAfter (kup ka (p0.toNatClampNeg + 6) 5 (ka (p0.toNatClampNeg + 6) 5)) p0.toNatClampNeg 1).2) else (kup ((f_X1_restartAfter (kup ka (p0.toNatClampNeg + 6) 5 (ka (p0.toNatClampNeg + 6) 5)) p0.toNatClampNeg 1).2) 0 10 1)) else if ((f_X2_perform (kup ka (p0.toNatClampNeg + 6) 5 ((ka (p0.toNatClampNeg + 6) 5) + 1)) p0 ((kup ka (p0.toNatClampNeg + 6) 5 ((ka (p0.toNatClampNeg + 6) 5) + 1)) 1 (((kup ka (p0.toNatClampNeg + 6) 5 ((ka (p0.toNatClampNeg + 6) 5) + 1)) (p0.toNatClampNeg + 6) 2) + (ka (p0.toNatClampNeg + 6) 5)).toNatClampNeg)).1) = 0 then (kup ((f_X2_perform (kup ka (p0.toNatClampNeg + 6) 5 ((ka (p0.toNatClampNeg + 6) 5) + 1)) p0 ((kup ka (p0.toNatClampNeg + 6) 5 ((ka (p0.toNatClampNeg + 6) 5) + 1)) 1 (((kup ka (p0.toNatClampNeg + 6) 5 ((ka (p0.toNatClampNeg + 6) 5) + 1)) (p0.toNatClampNeg + 6) 2) + (ka (p0.toNatClampNeg + 6) 5)).toNatClampNeg)).2) (p0.toNatClampNeg + 6) 6 ((((f_X2_perform (kup ka (p0.toNatClampNeg + 6) 5 ((ka (p0.toNatClampNeg + 6) 5) + 1)) p0 ((kup ka (p0.toNatClampNeg + 6) 5 ((ka (p0.toNatClampNeg + 6) 5) + 1)) 1 (((kup ka (p0.toNatClampNeg + 6) 5 ((ka (p0.toNatClampNeg + 6) 5) + 1)) (p0.toNatClampNeg + 6) 2) + (ka (p0.toNatClampNeg + 6) 5)).toNatClampNeg)).2) (p0.toNatClampNeg + 6) 6) + 1)) else if ((f_X1_restartAfter (kup ((f_X2_perform (kup ka (p0.toNatClampNeg + 6) 5 ((ka (p0.toNatClampNeg + 6) 5) + 1)) p0 ((kup ka (p0.toNatClampNeg + 6) 5 ((ka (p0.toNatClampNeg + 6) 5) + 1)) 1 (((kup ka (p0.toNatClampNeg + 6) 5 ((ka (p0.toNatClampNeg + 6) 5) + 1)) (p0.toNatClampNeg + 6) 2) + (ka (p0.toNatClampNeg + 6) 5)).toNatClampNeg)).2) (p0.toNatClampNeg + 6) 5 (ka (p0.toNatClampNeg + 6) 5)) p0.toNatClampNeg ((f_X2_perform (kup ka (p0.toNatClampNeg + 6) 5 ((ka (p0.toNatClampNeg + 6) 5) + 1)) p0 ((kup ka (p0.toNatClampNeg + 6) 5 ((ka (p0.toNatClampNeg + 6) 5) + 1)) 1 (((kup ka (p0.toNatClampNeg + 6) 5 ((ka (p0.toNatClampNeg + 6) 5) + 1)) (p0.toNatClampNeg + 6) 2) + (ka (p0.toNatClampNeg + 6) 5)).toNatClampNeg)).1)).1) = 0 then ((f_X1_restartAfter (kup ((f_X2_perform (kup ka (p0.toNatClampNeg + 6) 5 ((ka (p0.toNatClampNeg + 6) 5) + 1)) p0 ((kup ka (p0.toNatClampNeg + 6) 5 ((ka (p0.toNatClampNeg + 6) 5) + 1)) 1 (((kup ka (p0.toNatClampNeg + 6) 5 ((ka (p0.toNatClampNeg + 6) 5) + 1)) (p0.toNatClampNeg + 6) 2) + (ka (p0.toNatClampNeg + 6) 5)).toNatClampNeg)).2) (p0.toNatClampNeg + 6) 5 (ka (p0.toNatClampNeg + 6) 5)) p0.toNatClampNeg ((f_X2_perform (kup ka (p0.toNatClampNeg + 6) 5 ((ka (p0.toNatClampNeg + 6) 5) + 1)) p0 ((kup ka (p0.toNatClampNeg + 6) 5 ((ka (p0.toNatClampNeg + 6) 5) + 1)) 1 (((kup ka (p0.toNatClampNeg + 6) 5 ((ka (p0.toNatClampNeg + 6) 5) + 1)) (p0.toNatClampNeg + 6) 2) + (ka (p0.toNatClampNeg + 6) 5)).toNatClampNeg)).1)).2) else (kup ((f_X1_restartAfter (kup ((f_X2_perform (kup ka (p0.toNatClampNeg + 6) 5 ((ka (p0.toNatClampNeg + 6) 5) + 1)) p0 ((kup ka (p0.toNatClampNeg + 6) 5 ((ka (p0.toNatClampNeg + 6) 5) + 1)) 1 (((kup ka (p0.toNatClampNeg + 6) 5 ((ka (p0.toNatClampNeg + 6) 5) + 1)) (p0.toNatClampNeg + 6) 2) + (ka (p0.toNatClampNeg + 6) 5)).toNatClampNeg)).2) (p0.toNatClampNeg + 6) 5 (ka (p0.toNatClampNeg + 6) 5)) p0.toNatClampNeg ((f_X2_perform (kup ka (p0.toNatClampNeg + 6) 5 ((ka (p0.toNatClampNeg + 6) 5) + 1)) p0 ((kup ka (p0.toNatClampNeg + 6) 5 ((ka (p0.toNatClampNeg + 6) 5) + 1)) 1 (((kup ka (p0.toNatClampNeg + 6) 5 ((ka (p0.toNatClampNeg + 6) 5) + 1)) (p0.toNatClampNeg + 6) 2) + (ka (p0.toNatClampNeg + 6) 5)).toNatClampNeg)).1)).2) 0 10 1)
set_option maxHeartbeats 4000000 in
set_option maxRecDepth 100000 in
theorem c_X2_runInstruction (l : Launch) (D : va_G) (A : Nat → Nat) (C : Nat → ClassId) (ka mu : kM) (o : Int32) (sz : Nat) (hA : kinj A) (p0 : Int32) (hp : vp_in p0 6) (hB : kB ka p0.toNatClampNeg) : kMv l yX2_runInstruction (.code yX2_runInstruction cX2_runInstruction 5 none) ({ frames := 5, cells := 0, slots := 0, locals := 115 }) D A C ka mu o sz [.ref (A 0), .int p0]  (f_X2_runInstruction ka p0) mu o := by
  refine kMv_of hA (by decide) (Nat.le_of_ble_eq_true rfl) (fun p e s m args below meth c G hr hlocks hP hS ls hl => ?_)
  have hl : lv_has ls 5 [(0, .ref (A 0)), (1, .int p0)] := hl
  refine lv_aload_n G.1 G.2.1 dX2_runInstruction_0 rfl (lv_at hl 0 rfl) ?_
  refine k2_getr G hP 1 (by decide) kq_145 rfl dX2_runInstruction_1 ?_
  refine lv_iload_n G.1 G.2.1 dX2_runInstruction_4 rfl (lv_at hl 1 rfl) ?_
  have hin_5 : vp_in p0 6 := hp
  refine kP_ald G hP hin_5 dX2_runInstruction_5 ?_
  have hj_5 : p0.toNatClampNeg < 6 := kx_lt hin_5
  refine lv_astore_n (lv' := [(2, .ref (A (p0.toNatClampNeg + 6))), (0, .ref (A 0)), (1, .int p0)]) G.1 G.2.1 dX2_runInstruction_6 rfl hl (by decide) rfl (fun ls hl => ?_)
  refine lv_aload_n G.1 G.2.1 dX2_runInstruction_7 rfl (lv_at hl 0 rfl) ?_
  refine k1N_geti G hP hj_5 5 (by decide) (by decide) kq_74 rfl dX2_runInstruction_8 ?_
  refine lv_istore_n (lv' := [(3, .int (ka (p0.toNatClampNeg + 6) 5)), (2, .ref (A (p0.toNatClampNeg + 6))), (0, .ref (A 0)), (1, .int p0)]) G.1 G.2.1 dX2_runInstruction_11 rfl hl (by decide) rfl (fun ls hl => ?_)
  refine lv_iconst (v := 1) G.1 G.2.1 dX2_runInstruction_12 (by decide) ?_
  refine lv_istore (lv' := [(4, .int 1), (3, .int (ka (p0.toNatClampNeg + 6) 5)), (2, .ref (A (p0.toNatClampNeg + 6))), (0, .ref (A 0)), (1, .int p0)]) G.1 G.2.1 dX2_runInstruction_13 hl (by decide) rfl (fun ls hl => ?_)
  refine lv_aload_n G.1 G.2.1 dX2_runInstruction_15 rfl (lv_at hl 2 rfl) ?_
  refine lv_iload_n G.1 G.2.1 dX2_runInstruction_16 rfl (lv_at hl 1 rfl) ?_
  refine k_Ni (As := [.int (ka (p0.toNatClampNeg + 6) 5)]) (rest := []) G hP hS hl.1 kl_X2_138 yk_X1_holds (c_X1_holds l D A C _ _ _ _ G.2.2.2.2.2.2 p0.toNatClampNeg hj_5 (ka (p0.toNatClampNeg + 6) 5) ) (kr1 G hP hj_5) (by decide) (by decide) rfl (Nat.le_of_ble_eq_true rfl) dX2_runInstruction_17 (fun H locs hP hS => ?_)
  refine lv_if_eq (tgt := 48) G.1 G.2.1 dX2_runInstruction_20 (by decide) (fun c_20 => ?_) (fun c_20 => ?_)
  · refine lv_iload G.1 G.2.1 dX2_runInstruction_48 (lv_at hl 0 rfl) ?_
    refine lv_if_ne (tgt := 64) G.1 G.2.1 dX2_runInstruction_50 (by decide) (fun _ => ?_) (fun c => absurd c (by decide))
    refine lv_aload_n G.1 G.2.1 dX2_runInstruction_64 rfl (lv_at hl 2 rfl) ?_
    refine lv_iload_n G.1 G.2.1 dX2_runInstruction_65 rfl (lv_at hl 1 rfl) ?_
    refine k1N_puti G hP hS hj_5 5 (by decide) (by decide) kq_74 rfl rfl rfl rfl dX2_runInstruction_66 (fun H locs hP hS => ?_)
    refine lv_aload_n G.1 G.2.1 dX2_runInstruction_69 rfl (lv_at hl 2 rfl) ?_
    refine lv_iload G.1 G.2.1 dX2_runInstruction_70 (lv_at hl 0 rfl) ?_
    refine k_Ni (As := [.int 1]) (rest := []) G hP hS hl.1 kl_X2_173 yk_X1_restartAfter (c_X1_restartAfter l D A C _ _ _ _ G.2.2.2.2.2.2 p0.toNatClampNeg hj_5 1 ) (kr1 G hP hj_5) (by decide) (by decide) rfl (Nat.le_of_ble_eq_true rfl) dX2_runInstruction_72 (fun H locs hP hS => ?_)
    refine lv_if_eq (tgt := 83) G.1 G.2.1 dX2_runInstruction_75 (by decide) (fun c_75 => ?_) (fun c_75 => ?_)
    · exact k_vret G hr hlocks hP hS (by rw [f_X2_runInstruction, if_pos c_20, if_pos c_75]) rfl rfl dX2_runInstruction_83
    · refine lv_aload_n G.1 G.2.1 dX2_runInstruction_78 rfl (lv_at hl 3 rfl) ?_
      refine lv_iconst (v := 1) G.1 G.2.1 dX2_runInstruction_79 (by decide) ?_
      refine k2_puti G hP hS 10 (by decide) (by decide) kq_154 rfl rfl (by decide) (by decide) dX2_runInstruction_80 (fun H locs hP hS => ?_)
      exact k_vret G hr hlocks hP hS (by rw [f_X2_runInstruction, if_pos c_20, if_neg c_75]) rfl rfl dX2_runInstruction_83
  · refine lv_aload_n G.1 G.2.1 dX2_runInstruction_23 rfl (lv_at hl 2 rfl) ?_
    refine lv_iload_n G.1 G.2.1 dX2_runInstruction_24 rfl (lv_at hl 1 rfl) ?_
    refine lv_iconst (v := 1) G.1 G.2.1 dX2_runInstruction_25 (by decide) ?_
    refine lv_iadd G.1 G.2.1 dX2_runInstruction_26 ?_
    refine k1N_puti G hP hS hj_5 5 (by decide) (by decide) kq_74 rfl rfl rfl rfl dX2_runInstruction_27 (fun H locs hP hS => ?_)
    refine lv_aload_n G.1 G.2.1 dX2_runInstruction_30 rfl (lv_at hl 3 rfl) ?_
    refine lv_iload_n G.1 G.2.1 dX2_runInstruction_31 rfl (lv_at hl 4 rfl) ?_
    refine lv_aload_n G.1 G.2.1 dX2_runInstruction_32 rfl (lv_at hl 3 rfl) ?_
    refine k2_getr G hP 0 (by decide) kq_144 rfl dX2_runInstruction_33 ?_
    refine lv_aload_n G.1 G.2.1 dX2_runInstruction_36 rfl (lv_at hl 2 rfl) ?_
    refine k1N_geti G hP hj_5 2 (by decide) (by decide) kq_70 rfl dX2_runInstruction_37 ?_
    refine lv_iload_n G.1 G.2.1 dX2_runInstruction_40 rfl (lv_at hl 1 rfl) ?_
    refine lv_iadd G.1 G.2.1 dX2_runInstruction_41 ?_
    refine kK_ald (r := 1) G hP kI_1 (by omega) (kin_run hB c_20) dX2_runInstruction_42 ?_
    refine k_Vi (As := [.int p0, .int ((kup ka (p0.toNatClampNeg + 6) 5 ((ka (p0.toNatClampNeg + 6) 5) + 1)) 1 (((kup ka (p0.toNatClampNeg + 6) 5 ((ka (p0.toNatClampNeg + 6) 5) + 1)) (p0.toNatClampNeg + 6) 2) + (ka (p0.toNatClampNeg + 6) 5)).toNatClampNeg)]) (rest := []) G hP hS hl.1 kl_X2_167 yk_X2_perform (c_X2_perform l D A C _ _ _ _ G.2.2.2.2.2.2 p0 ((kup ka (p0.toNatClampNeg + 6) 5 ((ka (p0.toNatClampNeg + 6) 5) + 1)) 1 (((kup ka (p0.toNatClampNeg + 6) 5 ((ka (p0.toNatClampNeg + 6) 5) + 1)) (p0.toNatClampNeg + 6) 2) + (ka (p0.toNatClampNeg + 6) 5)).toNatClampNeg) hp (kB_up5 hB)) (kr2 G hP) (by decide) (by decide) rfl (Nat.le_of_ble_eq_true rfl) dX2_runInstruction_43 (fun H locs hP hS => ?_)
    refine lv_istore (lv' := [(4, .int ((f_X2_perform (kup ka (p0.toNatClampNeg + 6) 5 ((ka (p0.toNatClampNeg + 6) 5) + 1)) p0 ((kup ka (p0.toNatClampNeg + 6) 5 ((ka (p0.toNatClampNeg + 6) 5) + 1)) 1 (((kup ka (p0.toNatClampNeg + 6) 5 ((ka (p0.toNatClampNeg + 6) 5) + 1)) (p0.toNatClampNeg + 6) 2) + (ka (p0.toNatClampNeg + 6) 5)).toNatClampNeg)).1)), (3, .int (ka (p0.toNatClampNeg + 6) 5)), (2, .ref (A (p0.toNatClampNeg + 6))), (0, .ref (A 0)), (1, .int p0)]) G.1 G.2.1 dX2_runInstruction_46 hl (by decide) rfl (fun ls hl => ?_)
    refine lv_iload G.1 G.2.1 dX2_runInstruction_48 (lv_at hl 0 rfl) ?_
    refine lv_if_ne (tgt := 64) G.1 G.2.1 dX2_runInstruction_50 (by decide) (fun c_50 => ?_) (fun c_50 => ?_)
    · refine lv_aload_n G.1 G.2.1 dX2_runInstruction_64 rfl (lv_at hl 2 rfl) ?_
      refine lv_iload_n G.1 G.2.1 dX2_runInstruction_65 rfl (lv_at hl 1 rfl) ?_
      refine k1N_puti G hP hS hj_5 5 (by decide) (by decide) kq_74 rfl rfl rfl rfl dX2_runInstruction_66 (fun H locs hP hS => ?_)
      refine lv_aload_n G.1 G.2.1 dX2_runInstruction_69 rfl (lv_at hl 2 rfl) ?_
      refine lv_iload G.1 G.2.1 dX2_runInstruction_70 (lv_at hl 0 rfl) ?_
      refine k_Ni (As := [.int ((f_X2_perform (kup ka (p0.toNatClampNeg + 6) 5 ((ka (p0.toNatClampNeg + 6) 5) + 1)) p0 ((kup ka (p0.toNatClampNeg + 6) 5 ((ka (p0.toNatClampNeg + 6) 5) + 1)) 1 (((kup ka (p0.toNatClampNeg + 6) 5 ((ka (p0.toNatClampNeg + 6) 5) + 1)) (p0.toNatClampNeg + 6) 2) + (ka (p0.toNatClampNeg + 6) 5)).toNatClampNeg)).1)]) (rest := []) G hP hS hl.1 kl_X2_173 yk_X1_restartAfter (c_X1_restartAfter l D A C _ _ _ _ G.2.2.2.2.2.2 p0.toNatClampNeg hj_5 ((f_X2_perform (kup ka (p0.toNatClampNeg + 6) 5 ((ka (p0.toNatClampNeg + 6) 5) + 1)) p0 ((kup ka (p0.toNatClampNeg + 6) 5 ((ka (p0.toNatClampNeg + 6) 5) + 1)) 1 (((kup ka (p0.toNatClampNeg + 6) 5 ((ka (p0.toNatClampNeg + 6) 5) + 1)) (p0.toNatClampNeg + 6) 2) + (ka (p0.toNatClampNeg + 6) 5)).toNatClampNeg)).1) ) (kr1 G hP hj_5) (by decide) (by decide) rfl (Nat.le_of_ble_eq_true rfl) dX2_runInstruction_72 (fun H locs hP hS => ?_)
      refine lv_if_eq (tgt := 83) G.1 G.2.1 dX2_runInstruction_75 (by decide) (fun c_75 => ?_) (fun c_75 => ?_)
      · exact k_vret G hr hlocks hP hS (by rw [f_X2_runInstruction, if_neg c_20, if_neg c_50, if_pos c_75]) rfl rfl dX2_runInstruction_83
      · refine lv_aload_n G.1 G.2.1 dX2_runInstruction_78 rfl (lv_at hl 3 rfl) ?_
        refine lv_iconst (v := 1) G.1 G.2.1 dX2_runInstruction_79 (by decide) ?_
        refine k2_puti G hP hS 10 (by decide) (by decide) kq_154 rfl rfl (by decide) (by decide) dX2_runInstruction_80 (fun H locs hP hS => ?_)
        exact k_vret G hr hlocks hP hS (by rw [f_X2_runInstruction, if_neg c_20, if_neg c_50, if_neg c_75]) rfl rfl dX2_runInstruction_83
    · refine lv_aload_n G.1 G.2.1 dX2_runInstruction_53 rfl (lv_at hl 2 rfl) ?_
      refine lv_dup G.1 G.2.1 dX2_runInstruction_54 rfl ?_
      refine k1N_geti G hP hj_5 6 (by decide) (by decide) kq_76 rfl dX2_runInstruction_55 ?_
      refine lv_iconst (v := 1) G.1 G.2.1 dX2_runInstruction_58 (by decide) ?_
      refine lv_iadd G.1 G.2.1 dX2_runInstruction_59 ?_
      refine k1N_puti G hP hS hj_5 6 (by decide) (by decide) kq_76 rfl rfl rfl rfl dX2_runInstruction_60 (fun H locs hP hS => ?_)
      exact k_vret G hr hlocks hP hS (by rw [f_X2_runInstruction, if_neg c_20, if_pos c_50]) rfl rfl dX2_runInstruction_63
