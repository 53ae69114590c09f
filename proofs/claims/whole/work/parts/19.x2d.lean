/-! X2_addressOf -/
def f_X2_addressOf (ka : kM) (p0 : Int32) (p1 : Int32) : Nat × Int32 :=
  if f_X2_refuseUnlessTold ka p0 = 0 then (if (f_X1_holds ka p0.toNatClampNeg p1) = 0 then (3, 0) else (0, (ka (p0.toNatClampNeg + 6) 2) + p1)) else (f_X2_refuseUnlessTold ka p0, 0)
set_option maxHeartbeats 4000000 in
set_option maxRecDepth 100000 in
theorem c_X2_addressOf (l : Launch) (D : va_G) (A : Nat → Nat) (C : Nat → ClassId) (ka mu : kM) (o : Int32) (sz : Nat) (hA : kinj A) (p0 : Int32) (p1 : Int32) (hl0 : l.stackTraces = false) : kXi l yX2_addressOf (.code yX2_addressOf cX2_addressOf 3 (some .int)) ({ frames := 7, cells := 2, slots := 12, locals := 116 }) D A C ka mu o sz [.ref (A 0), .int p0, .int p1] ((f_X2_addressOf ka p0 p1).1) ((f_X2_addressOf ka p0 p1).2) ka mu o := by
  refine kXi_of hA (by decide) (Nat.le_of_ble_eq_true rfl) (fun p e s m args below meth c G hr hlocks hx hP hS ls hl => ?_)
  have hl : lv_has ls 3 [(0, .ref (A 0)), (1, .int p0), (2, .int p1)] := hl
  refine lv_aload_n G.1 G.2.1 dX2_addressOf_0 rfl (lv_at hl 0 rfl) ?_
  refine lv_iload_n G.1 G.2.1 dX2_addressOf_1 rfl (lv_at hl 1 rfl) ?_
  refine k_XVv (As := [.int p0]) (rest := []) G hP hS hl.1 kl_X2_62 yk_X2_refuseUnlessTold (c_X2_refuseUnlessTold l D A C _ _ _ _ G.2.2.2.2.2.2 p0 hl0 ) (kr2 G hP) (by decide) (by decide) (by decide) rfl (Nat.le_of_ble_eq_true rfl) hx hlocks dX2_addressOf_2 (fun c_2 => ⟨by rw [f_X2_addressOf, if_neg c_2], rfl, rfl, rfl⟩) (fun c_2 H locs hP hS => ?_)
  refine lv_aload_n G.1 G.2.1 dX2_addressOf_5 rfl (lv_at hl 0 rfl) ?_
  refine k2_getr G hP 1 (by decide) kq_145 rfl dX2_addressOf_6 ?_
  refine lv_iload_n G.1 G.2.1 dX2_addressOf_9 rfl (lv_at hl 1 rfl) ?_
  have hin_10 : vp_in p0 6 := (kin_told c_2)
  refine kP_ald G hP hin_10 dX2_addressOf_10 ?_
  have hj_10 : p0.toNatClampNeg < 6 := kx_lt hin_10
  refine lv_iload_n G.1 G.2.1 dX2_addressOf_11 rfl (lv_at hl 2 rfl) ?_
  refine k_Ni (As := [.int p1]) (rest := []) G hP hS hl.1 kl_X2_138 yk_X1_holds (c_X1_holds l D A C _ _ _ _ G.2.2.2.2.2.2 p0.toNatClampNeg hj_10 p1 ) (kr1 G hP hj_10) (by decide) (by decide) rfl (Nat.le_of_ble_eq_true rfl) dX2_addressOf_12 (fun H locs hP hS => ?_)
  refine lv_if_ne (tgt := 28) G.1 G.2.1 dX2_addressOf_15 (by decide) (fun c_15 => ?_) (fun c_15 => ?_)
  · refine lv_aload_n G.1 G.2.1 dX2_addressOf_28 rfl (lv_at hl 0 rfl) ?_
    refine k2_getr G hP 1 (by decide) kq_145 rfl dX2_addressOf_29 ?_
    refine lv_iload_n G.1 G.2.1 dX2_addressOf_32 rfl (lv_at hl 1 rfl) ?_
    have hin_33 : vp_in p0 6 := (kin_told c_2)
    refine kP_ald G hP hin_33 dX2_addressOf_33 ?_
    have hj_33 : p0.toNatClampNeg < 6 := kx_lt hin_33
    refine k1N_geti G hP hj_33 2 (by decide) (by decide) kq_70 rfl dX2_addressOf_34 ?_
    refine lv_iload_n G.1 G.2.1 dX2_addressOf_37 rfl (lv_at hl 2 rfl) ?_
    refine lv_iadd G.1 G.2.1 dX2_addressOf_38 ?_
    refine W.widen (k := 2) (n := 12) (by decide) (by decide) ?_
    exact k_xiret G hr hlocks hP hS (by rw [f_X2_addressOf, if_pos c_2, if_neg c_15]) (by rw [f_X2_addressOf, if_pos c_2, if_neg c_15]) rfl rfl rfl dX2_addressOf_39
  · exact k_throw3 (is := 143) (text := "no such word") G hl0 hlocks hP hS hl.1 (by decide +kernel) dX2_addressOf_18 dX2_addressOf_21 dX2_addressOf_22 dX2_addressOf_24 dX2_addressOf_27 hx (by decide) (by decide) (by decide) (by decide) (by decide) (by decide) (by rw [f_X2_addressOf, if_pos c_2, if_pos c_15]) rfl rfl rfl
/-! X2_window -/
def f_X2_window (ka : kM) (p0 : Int32) (p1 : Int32) : Nat × Int32 × kM :=
  if f_X2_refuseIfSealed ka = 0 then (if p0 = (-1) then (if p1 < 1 then (2, 0, ka) else if (100 : Int32) < p1 then (2, 0, ka) else if (ka 0 5) < 12 then (0, (kup (kup (kup (kup ka 4 (ka 0 5).toNatClampNeg p0) 5 ((kup ka 4 (ka 0 5).toNatClampNeg p0) 0 5).toNatClampNeg p1) 0 5 (((kup (kup ka 4 (ka 0 5).toNatClampNeg p0) 5 ((kup ka 4 (ka 0 5).toNatClampNeg p0) 0 5).toNatClampNeg p1) 0 5) + 1)) 0 6 (((kup (kup (kup ka 4 (ka 0 5).toNatClampNeg p0) 5 ((kup ka 4 (ka 0 5).toNatClampNeg p0) 0 5).toNatClampNeg p1) 0 5 (((kup (kup ka 4 (ka 0 5).toNatClampNeg p0) 5 ((kup ka 4 (ka 0 5).toNatClampNeg p0) 0 5).toNatClampNeg p1) 0 5) + 1)) 0 6) + p1)) 0 5, kup (kup (kup (kup ka 4 (ka 0 5).toNatClampNeg p0) 5 ((kup ka 4 (ka 0 5).toNatClampNeg p0) 0 5).toNatClampNeg p1) 0 5 (((kup (kup ka 4 (ka 0 5).toNatClampNeg p0) 5 ((kup ka 4 (ka 0 5).toNatClampNeg p0) 0 5).toNatClampNeg p1) 0 5) + 1)) 0 6 (((kup (kup (kup ka 4 (ka 0 5).toNatClampNeg p0) 5 ((kup ka 4 (ka 0 5).toNatClampNeg p0) 0 5).toNatClampNeg p1) 0 5 (((kup (kup ka 4 (ka 0 5).toNatClampNeg p0) 5 ((kup ka 4 (ka 0 5).toNatClampNeg p0) 0 5).toNatClampNeg p1) 0 5) + 1)) 0 6) + p1)) else (2, 0, ka)) else if f_X2_refuseUnlessTold ka p0 = 0 then (if p1 < 1 then (2, 0, ka) else if (100 : Int32) < p1 then (2, 0, ka) else if (ka 0 5) < 12 then (0, (kup (kup (kup (kup ka 4 (ka 0 5).toNatClampNeg p0) 5 ((kup ka 4 (ka 0 5).toNatClampNeg p0) 0 5).toNatClampNeg p1) 0 5 (((kup (kup ka 4 (ka 0 5).toNatClampNeg p0) 5 ((kup ka 4 (ka 0 5).toNatClampNeg p0) 0 5).toNatClampNeg p1) 0 5) + 1)) 0 6 (((kup (kup (kup ka 4 (ka 0 5).toNatClampNeg p0) 5 ((kup ka 4 (ka 0 5).toNatClampNeg p0) 0 5).toNatClampNeg p1) 0 5 (((kup (kup ka 4 (ka 0 5).toNatClampNeg p0) 5 ((kup ka 4 (ka 0 5).toNatClampNeg p0) 0 5).toNatClampNeg p1) 0 5) + 1)) 0 6) + p1)) 0 5, kup (kup (kup (kup ka 4 (ka 0 5).toNatClampNeg p0) 5 ((kup ka 4 (ka 0 5).toNatClampNeg p0) 0 5).toNatClampNeg p1) 0 5 (((kup (kup ka 4 (ka 0 5).toNatClampNeg p0) 5 ((kup ka 4 (ka 0 5).toNatClampNeg p0) 0 5).toNatClampNeg p1) 0 5) + 1)) 0 6 (((kup (kup (kup ka 4 (ka 0 5).toNatClampNeg p0) 5 ((kup ka 4 (ka 0 5).toNatClampNeg p0) 0 5).toNatClampNeg p1) 0 5 (((kup (kup ka 4 (ka 0 5).toNatClampNeg p0) 5 ((kup ka 4 (ka 0 5).toNatClampNeg p0) 0 5).toNatClampNeg p1) 0 5) + 1)) 0 6) + p1)) else (2, 0, ka)) else (f_X2_refuseUnlessTold ka p0, 0, ka)) else (f_X2_refuseIfSealed ka, 0, ka)
set_option maxHeartbeats 4000000 in
set_option maxRecDepth 100000 in
theorem c_X2_window (l : Launch) (D : va_G) (A : Nat → Nat) (C : Nat → ClassId) (ka mu : kM) (o : Int32) (sz : Nat) (hA : kinj A) (p0 : Int32) (p1 : Int32) (hl0 : l.stackTraces = false) (hI : kInv ka) : kXi l yX2_window (.code yX2_window cX2_window 3 (some .int)) ({ frames := 7, cells := 3, slots := 18, locals := 116 }) D A C ka mu o sz [.ref (A 0), .int p0, .int p1] ((f_X2_window ka p0 p1).1) ((f_X2_window ka p0 p1).2.1) ((f_X2_window ka p0 p1).2.2) mu o := by
  refine kXi_of hA (by decide) (Nat.le_of_ble_eq_true rfl) (fun p e s m args below meth c G hr hlocks hx hP hS ls hl => ?_)
  have hl : lv_has ls 3 [(0, .ref (A 0)), (1, .int p0), (2, .int p1)] := hl
  refine lv_aload_n G.1 G.2.1 dX2_window_0 rfl (lv_at hl 0 rfl) ?_
  refine k_XVv (As := []) (rest := []) G hP hS hl.1 kl_X2_33 yk_X2_refuseIfSealed (c_X2_refuseIfSealed l D A C _ _ _ _ G.2.2.2.2.2.2  hl0 ) (kr2 G hP) (by decide) (by decide) (by decide) rfl (Nat.le_of_ble_eq_true rfl) hx hlocks dX2_window_1 (fun c_1 => ⟨by rw [f_X2_window, if_neg c_1], rfl, rfl, rfl⟩) (fun c_1 H locs hP hS => ?_)
  refine lv_iload_n G.1 G.2.1 dX2_window_4 rfl (lv_at hl 1 rfl) ?_
  refine lv_iconst (v := (-1)) G.1 G.2.1 dX2_window_5 (by decide) ?_
  refine lv_icmp_eq (tgt := 14) G.1 G.2.1 dX2_window_6 (by decide) (fun c_6 => ?_) (fun c_6 => ?_)
  · refine lv_iload_n G.1 G.2.1 dX2_window_14 rfl (lv_at hl 2 rfl) ?_
    refine lv_iconst (v := 1) G.1 G.2.1 dX2_window_15 (by decide) ?_
    refine lv_icmp_lt (tgt := 34) G.1 G.2.1 dX2_window_16 (by decide) (fun c_16 => ?_) (fun c_16 => ?_)
    · exact k_throw2 (is := 70) (text := "ticks not 1 to 100, or the frame is full") G hl0 hlocks hP hS hl.1 (by decide +kernel) dX2_window_34 dX2_window_37 dX2_window_38 dX2_window_40 dX2_window_43 hx (by decide) (by decide) (by decide) (by decide) (by decide) (by decide) (by rw [f_X2_window, if_pos c_1, if_pos c_6, if_pos c_16]) rfl rfl rfl
    · refine lv_iload_n G.1 G.2.1 dX2_window_19 rfl (lv_at hl 2 rfl) ?_
      refine lv_bipush (v := 100) G.1 G.2.1 dX2_window_20 (by decide) ?_
      refine lv_icmp_gt (tgt := 34) G.1 G.2.1 dX2_window_22 (by decide) (fun c_22 => ?_) (fun c_22 => ?_)
      · exact k_throw2 (is := 70) (text := "ticks not 1 to 100, or the frame is full") G hl0 hlocks hP hS hl.1 (by decide +kernel) dX2_window_34 dX2_window_37 dX2_window_38 dX2_window_40 dX2_window_43 hx (by decide) (by decide) (by decide) (by decide) (by decide) (by decide) (by rw [f_X2_window, if_pos c_1, if_pos c_6, if_neg c_16, if_pos c_22]) rfl rfl rfl
      · refine lv_aload_n G.1 G.2.1 dX2_window_25 rfl (lv_at hl 0 rfl) ?_
        refine k2_geti G hP 5 (by decide) (by decide) kq_149 rfl dX2_window_26 ?_
        refine lv_bipush (v := 12) G.1 G.2.1 dX2_window_29 (by decide) ?_
        refine lv_icmp_lt (tgt := 44) G.1 G.2.1 dX2_window_31 (by decide) (fun c_31 => ?_) (fun c_31 => ?_)
        · refine lv_aload_n G.1 G.2.1 dX2_window_44 rfl (lv_at hl 0 rfl) ?_
          refine k2_getr G hP 3 (by decide) kq_147 rfl dX2_window_45 ?_
          refine lv_aload_n G.1 G.2.1 dX2_window_48 rfl (lv_at hl 0 rfl) ?_
          refine k2_geti G hP 5 (by decide) (by decide) kq_149 rfl dX2_window_49 ?_
          refine lv_iload_n G.1 G.2.1 dX2_window_52 rfl (lv_at hl 1 rfl) ?_
          refine kK_ast (r := 4) G hP hS kI_4 (by omega) (kin_cnt hI c_31) dX2_window_53 (fun H locs hP hS => ?_)
          refine lv_aload_n G.1 G.2.1 dX2_window_54 rfl (lv_at hl 0 rfl) ?_
          refine k2_getr G hP 4 (by decide) kq_148 rfl dX2_window_55 ?_
          refine lv_aload_n G.1 G.2.1 dX2_window_58 rfl (lv_at hl 0 rfl) ?_
          refine k2_geti G hP 5 (by decide) (by decide) kq_149 rfl dX2_window_59 ?_
          refine lv_iload_n G.1 G.2.1 dX2_window_62 rfl (lv_at hl 2 rfl) ?_
          refine kK_ast (r := 5) G hP hS kI_5 (by omega) (by rw [kup_r (by decide)]; exact kin_cnt hI c_31) dX2_window_63 (fun H locs hP hS => ?_)
          refine lv_aload_n G.1 G.2.1 dX2_window_64 rfl (lv_at hl 0 rfl) ?_
          refine lv_dup G.1 G.2.1 dX2_window_65 rfl ?_
          refine k2_geti G hP 5 (by decide) (by decide) kq_149 rfl dX2_window_66 ?_
          refine lv_iconst (v := 1) G.1 G.2.1 dX2_window_69 (by decide) ?_
          refine lv_iadd G.1 G.2.1 dX2_window_70 ?_
          refine k2_puti G hP hS 5 (by decide) (by decide) kq_149 rfl rfl rfl rfl dX2_window_71 (fun H locs hP hS => ?_)
          refine lv_aload_n G.1 G.2.1 dX2_window_74 rfl (lv_at hl 0 rfl) ?_
          refine lv_dup G.1 G.2.1 dX2_window_75 rfl ?_
          refine k2_geti G hP 6 (by decide) (by decide) kq_150 rfl dX2_window_76 ?_
          refine lv_iload_n G.1 G.2.1 dX2_window_79 rfl (lv_at hl 2 rfl) ?_
          refine lv_iadd G.1 G.2.1 dX2_window_80 ?_
          refine k2_puti G hP hS 6 (by decide) (by decide) kq_150 rfl rfl rfl rfl dX2_window_81 (fun H locs hP hS => ?_)
          refine lv_aload_n G.1 G.2.1 dX2_window_84 rfl (lv_at hl 0 rfl) ?_
          refine k2_geti G hP 5 (by decide) (by decide) kq_149 rfl dX2_window_85 ?_
          refine W.widen (k := 3) (n := 18) (by decide) (by decide) ?_
          exact k_xiret G hr hlocks hP hS (by rw [f_X2_window, if_pos c_1, if_pos c_6, if_neg c_16, if_neg c_22, if_pos c_31]) (by rw [f_X2_window, if_pos c_1, if_pos c_6, if_neg c_16, if_neg c_22, if_pos c_31]) (by rw [f_X2_window, if_pos c_1, if_pos c_6, if_neg c_16, if_neg c_22, if_pos c_31]) rfl rfl dX2_window_88
        · exact k_throw2 (is := 70) (text := "ticks not 1 to 100, or the frame is full") G hl0 hlocks hP hS hl.1 (by decide +kernel) dX2_window_34 dX2_window_37 dX2_window_38 dX2_window_40 dX2_window_43 hx (by decide) (by decide) (by decide) (by decide) (by decide) (by decide) (by rw [f_X2_window, if_pos c_1, if_pos c_6, if_neg c_16, if_neg c_22, if_neg c_31]) rfl rfl rfl
  · refine lv_aload_n G.1 G.2.1 dX2_window_9 rfl (lv_at hl 0 rfl) ?_
    refine lv_iload_n G.1 G.2.1 dX2_window_10 rfl (lv_at hl 1 rfl) ?_
    refine k_XVv (As := [.int p0]) (rest := []) G hP hS hl.1 kl_X2_62 yk_X2_refuseUnlessTold (c_X2_refuseUnlessTold l D A C _ _ _ _ G.2.2.2.2.2.2 p0 hl0 ) (kr2 G hP) (by decide) (by decide) (by decide) rfl (Nat.le_of_ble_eq_true rfl) hx hlocks dX2_window_11 (fun c_11 => ⟨by rw [f_X2_window, if_pos c_1, if_neg c_6, if_neg c_11], rfl, rfl, rfl⟩) (fun c_11 H locs hP hS => ?_)
    refine lv_iload_n G.1 G.2.1 dX2_window_14 rfl (lv_at hl 2 rfl) ?_
    refine lv_iconst (v := 1) G.1 G.2.1 dX2_window_15 (by decide) ?_
    refine lv_icmp_lt (tgt := 34) G.1 G.2.1 dX2_window_16 (by decide) (fun c_16 => ?_) (fun c_16 => ?_)
    · exact k_throw2 (is := 70) (text := "ticks not 1 to 100, or the frame is full") G hl0 hlocks hP hS hl.1 (by decide +kernel) dX2_window_34 dX2_window_37 dX2_window_38 dX2_window_40 dX2_window_43 hx (by decide) (by decide) (by decide) (by decide) (by decide) (by decide) (by rw [f_X2_window, if_pos c_1, if_neg c_6, if_pos c_11, if_pos c_16]) rfl rfl rfl
    · refine lv_iload_n G.1 G.2.1 dX2_window_19 rfl (lv_at hl 2 rfl) ?_
      refine lv_bipush (v := 100) G.1 G.2.1 dX2_window_20 (by decide) ?_
      refine lv_icmp_gt (tgt := 34) G.1 G.2.1 dX2_window_22 (by decide) (fun c_22 => ?_) (fun c_22 => ?_)
      · exact k_throw2 (is := 70) (text := "ticks not 1 to 100, or the frame is full") G hl0 hlocks hP hS hl.1 (by decide +kernel) dX2_window_34 dX2_window_37 dX2_window_38 dX2_window_40 dX2_window_43 hx (by decide) (by decide) (by decide) (by decide) (by decide) (by decide) (by rw [f_X2_window, if_pos c_1, if_neg c_6, if_pos c_11, if_neg c_16, if_pos c_22]) rfl rfl rfl
      · refine lv_aload_n G.1 G.2.1 dX2_window_25 rfl (lv_at hl 0 rfl) ?_
        refine k2_geti G hP 5 (by decide) (by decide) kq_149 rfl dX2_window_26 ?_
        refine lv_bipush (v := 12) G.1 G.2.1 dX2_window_29 (by decide) ?_
        refine lv_icmp_lt (tgt := 44) G.1 G.2.1 dX2_window_31 (by decide) (fun c_31 => ?_) (fun c_31 => ?_)
        · refine lv_aload_n G.1 G.2.1 dX2_window_44 rfl (lv_at hl 0 rfl) ?_
          refine k2_getr G hP 3 (by decide) kq_147 rfl dX2_window_45 ?_
          refine lv_aload_n G.1 G.2.1 dX2_window_48 rfl (lv_at hl 0 rfl) ?_
          refine k2_geti G hP 5 (by decide) (by decide) kq_149 rfl dX2_window_49 ?_
          refine lv_iload_n G.1 G.2.1 dX2_window_52 rfl (lv_at hl 1 rfl) ?_
          refine kK_ast (r := 4) G hP hS kI_4 (by omega) (kin_cnt hI c_31) dX2_window_53 (fun H locs hP hS => ?_)
          refine lv_aload_n G.1 G.2.1 dX2_window_54 rfl (lv_at hl 0 rfl) ?_
          refine k2_getr G hP 4 (by decide) kq_148 rfl dX2_window_55 ?_
          refine lv_aload_n G.1 G.2.1 dX2_window_58 rfl (lv_at hl 0 rfl) ?_
          refine k2_geti G hP 5 (by decide) (by decide) kq_149 rfl dX2_window_59 ?_
          refine lv_iload_n G.1 G.2.1 dX2_window_62 rfl (lv_at hl 2 rfl) ?_
          refine kK_ast (r := 5) G hP hS kI_5 (by omega) (by rw [kup_r (by decide)]; exact kin_cnt hI c_31) dX2_window_63 (fun H locs hP hS => ?_)
          refine lv_aload_n G.1 G.2.1 dX2_window_64 rfl (lv_at hl 0 rfl) ?_
          refine lv_dup G.1 G.2.1 dX2_window_65 rfl ?_
          refine k2_geti G hP 5 (by decide) (by decide) kq_149 rfl dX2_window_66 ?_
          refine lv_iconst (v := 1) G.1 G.2.1 dX2_window_69 (by decide) ?_
          refine lv_iadd G.1 G.2.1 dX2_window_70 ?_
          refine k2_puti G hP hS 5 (by decide) (by decide) kq_149 rfl rfl rfl rfl dX2_window_71 (fun H locs hP hS => ?_)
          refine lv_aload_n G.1 G.2.1 dX2_window_74 rfl (lv_at hl 0 rfl) ?_
          refine lv_dup G.1 G.2.1 dX2_window_75 rfl ?_
          refine k2_geti G hP 6 (by decide) (by decide) kq_150 rfl dX2_window_76 ?_
          refine lv_iload_n G.1 G.2.1 dX2_window_79 rfl (lv_at hl 2 rfl) ?_
          refine lv_iadd G.1 G.2.1 dX2_window_80 ?_
          refine k2_puti G hP hS 6 (by decide) (by decide) kq_150 rfl rfl rfl rfl dX2_window_81 (fun H locs hP hS => ?_)
          refine lv_aload_n G.1 G.2.1 dX2_window_84 rfl (lv_at hl 0 rfl) ?_
          refine k2_geti G hP 5 (by decide) (by decide) kq_149 rfl dX2_window_85 ?_
          refine W.widen (k := 3) (n := 18) (by decide) (by decide) ?_
          exact k_xiret G hr hlocks hP hS (by rw [f_X2_window, if_pos c_1, if_neg c_6, if_pos c_11, if_neg c_16, if_neg c_22, if_pos c_31]) (by rw [f_X2_window, if_pos c_1, if_neg c_6, if_pos c_11, if_neg c_16, if_neg c_22, if_pos c_31]) (by rw [f_X2_window, if_pos c_1, if_neg c_6, if_pos c_11, if_neg c_16, if_neg c_22, if_pos c_31]) rfl rfl dX2_window_88
        · exact k_throw2 (is := 70) (text := "ticks not 1 to 100, or the frame is full") G hl0 hlocks hP hS hl.1 (by decide +kernel) dX2_window_34 dX2_window_37 dX2_window_38 dX2_window_40 dX2_window_43 hx (by decide) (by decide) (by decide) (by decide) (by decide) (by decide) (by rw [f_X2_window, if_pos c_1, if_neg c_6, if_pos c_11, if_neg c_16, if_neg c_22, if_neg c_31]) rfl rfl rfl
/-! X2_channel -/
def f_X2_channel (ka : kM) (p0 : Int32) (p1 : Int32) (p2 : Int32) (p3 : Int32) : Nat × kM :=
  if f_X2_refuseIfSealed ka = 0 then (if p0 < 0 then (2, ka) else if (8 : Int32) ≤ p0 then (2, ka) else if (ka (p0.toNatClampNeg + 18) 1) = 0 then (if f_X2_refuseUnlessTold ka p1 = 0 then (if f_X2_refuseUnlessTold ka p2 = 0 then (if p1 = p2 then (2, ka) else if p3 < 0 then (2, ka) else if p3 ≤ 8 then (0, f_X0_tell ka p0.toNatClampNeg p1 p2 p3) else (2, ka)) else (f_X2_refuseUnlessTold ka p2, ka)) else (f_X2_refuseUnlessTold ka p1, ka)) else (2, ka)) else (f_X2_refuseIfSealed ka, ka)
set_option maxHeartbeats 4000000 in
set_option maxRecDepth 100000 in
theorem c_X2_channel (l : Launch) (D : va_G) (A : Nat → Nat) (C : Nat → ClassId) (ka mu : kM) (o : Int32) (sz : Nat) (hA : kinj A) (p0 : Int32) (p1 : Int32) (p2 : Int32) (p3 : Int32) (hl0 : l.stackTraces = false) : kXv l yX2_channel (.code yX2_channel cX2_channel 5 none) ({ frames := 7, cells := 4, slots := 24, locals := 116 }) D A C ka mu o sz [.ref (A 0), .int p0, .int p1, .int p2, .int p3] ((f_X2_channel ka p0 p1 p2 p3).1) ((f_X2_channel ka p0 p1 p2 p3).2) mu o := by
  refine kXv_of hA (by decide) (Nat.le_of_ble_eq_true rfl) (fun p e s m args below meth c G hr hlocks hx hP hS ls hl => ?_)
  have hl : lv_has ls 5 [(0, .ref (A 0)), (1, .int p0), (2, .int p1), (3, .int p2), (4, .int p3)] := hl
  refine lv_aload_n G.1 G.2.1 dX2_channel_0 rfl (lv_at hl 0 rfl) ?_
  refine k_XVv (As := []) (rest := []) G hP hS hl.1 kl_X2_33 yk_X2_refuseIfSealed (c_X2_refuseIfSealed l D A C _ _ _ _ G.2.2.2.2.2.2  hl0 ) (kr2 G hP) (by decide) (by decide) (by decide) rfl (Nat.le_of_ble_eq_true rfl) hx hlocks dX2_channel_1 (fun c_1 => ⟨by rw [f_X2_channel, if_neg c_1], rfl, rfl, rfl⟩) (fun c_1 H locs hP hS => ?_)
  refine lv_iload_n G.1 G.2.1 dX2_channel_4 rfl (lv_at hl 1 rfl) ?_
  refine lv_if_lt (tgt := 26) G.1 G.2.1 dX2_channel_5 (by decide) (fun c_5 => ?_) (fun c_5 => ?_)
  · exact k_throw2 (is := 78) (text := "no such channel, or told already") G hl0 hlocks hP hS hl.1 (by decide +kernel) dX2_channel_26 dX2_channel_29 dX2_channel_30 dX2_channel_32 dX2_channel_35 hx (by decide) (by decide) (by decide) (by decide) (by decide) (by decide) (by rw [f_X2_channel, if_pos c_1, if_pos c_5]) rfl rfl rfl
  · refine lv_iload_n G.1 G.2.1 dX2_channel_8 rfl (lv_at hl 1 rfl) ?_
    refine lv_bipush (v := 8) G.1 G.2.1 dX2_channel_9 (by decide) ?_
    refine lv_icmp_ge (tgt := 26) G.1 G.2.1 dX2_channel_11 (by decide) (fun c_11 => ?_) (fun c_11 => ?_)
    · exact k_throw2 (is := 78) (text := "no such channel, or told already") G hl0 hlocks hP hS hl.1 (by decide +kernel) dX2_channel_26 dX2_channel_29 dX2_channel_30 dX2_channel_32 dX2_channel_35 hx (by decide) (by decide) (by decide) (by decide) (by decide) (by decide) (by rw [f_X2_channel, if_pos c_1, if_neg c_5, if_pos c_11]) rfl rfl rfl
    · refine lv_aload_n G.1 G.2.1 dX2_channel_14 rfl (lv_at hl 0 rfl) ?_
      refine k2_getr G hP 2 (by decide) kq_146 rfl dX2_channel_15 ?_
      refine lv_iload_n G.1 G.2.1 dX2_channel_18 rfl (lv_at hl 1 rfl) ?_
      have hin_19 : vp_in p0 8 := (kin_of (n := 8) (by decide) c_5 c_11)
      refine kC_ald G hP hin_19 dX2_channel_19 ?_
      have hj_19 : p0.toNatClampNeg < 8 := kx_lt hin_19
      refine k0N_geti G hP hj_19 1 (by decide) (by decide) kq_111 rfl dX2_channel_20 ?_
      refine lv_if_eq (tgt := 36) G.1 G.2.1 dX2_channel_23 (by decide) (fun c_23 => ?_) (fun c_23 => ?_)
      · refine lv_aload_n G.1 G.2.1 dX2_channel_36 rfl (lv_at hl 0 rfl) ?_
        refine lv_iload_n G.1 G.2.1 dX2_channel_37 rfl (lv_at hl 2 rfl) ?_
        refine k_XVv (As := [.int p1]) (rest := []) G hP hS hl.1 kl_X2_62 yk_X2_refuseUnlessTold (c_X2_refuseUnlessTold l D A C _ _ _ _ G.2.2.2.2.2.2 p1 hl0 ) (kr2 G hP) (by decide) (by decide) (by decide) rfl (Nat.le_of_ble_eq_true rfl) hx hlocks dX2_channel_38 (fun c_38 => ⟨by rw [f_X2_channel, if_pos c_1, if_neg c_5, if_neg c_11, if_pos c_23, if_neg c_38], rfl, rfl, rfl⟩) (fun c_38 H locs hP hS => ?_)
        refine lv_aload_n G.1 G.2.1 dX2_channel_41 rfl (lv_at hl 0 rfl) ?_
        refine lv_iload_n G.1 G.2.1 dX2_channel_42 rfl (lv_at hl 3 rfl) ?_
        refine k_XVv (As := [.int p2]) (rest := []) G hP hS hl.1 kl_X2_62 yk_X2_refuseUnlessTold (c_X2_refuseUnlessTold l D A C _ _ _ _ G.2.2.2.2.2.2 p2 hl0 ) (kr2 G hP) (by decide) (by decide) (by decide) rfl (Nat.le_of_ble_eq_true rfl) hx hlocks dX2_channel_43 (fun c_43 => ⟨by rw [f_X2_channel, if_pos c_1, if_neg c_5, if_neg c_11, if_pos c_23, if_pos c_38, if_neg c_43], rfl, rfl, rfl⟩) (fun c_43 H locs hP hS => ?_)
        refine lv_iload_n G.1 G.2.1 dX2_channel_46 rfl (lv_at hl 2 rfl) ?_
        refine lv_iload_n G.1 G.2.1 dX2_channel_47 rfl (lv_at hl 3 rfl) ?_
        refine lv_icmp_eq (tgt := 63) G.1 G.2.1 dX2_channel_48 (by decide) (fun c_48 => ?_) (fun c_48 => ?_)
        · exact k_throw2 (is := 80) (text := "a channel to itself, or room not 0 to 8") G hl0 hlocks hP hS hl.1 (by decide +kernel) dX2_channel_63 dX2_channel_66 dX2_channel_67 dX2_channel_69 dX2_channel_72 hx (by decide) (by decide) (by decide) (by decide) (by decide) (by decide) (by rw [f_X2_channel, if_pos c_1, if_neg c_5, if_neg c_11, if_pos c_23, if_pos c_38, if_pos c_43, if_pos c_48]) rfl rfl rfl
        · refine lv_iload G.1 G.2.1 dX2_channel_51 (lv_at hl 4 rfl) ?_
          refine lv_if_lt (tgt := 63) G.1 G.2.1 dX2_channel_53 (by decide) (fun c_53 => ?_) (fun c_53 => ?_)
          · exact k_throw2 (is := 80) (text := "a channel to itself, or room not 0 to 8") G hl0 hlocks hP hS hl.1 (by decide +kernel) dX2_channel_63 dX2_channel_66 dX2_channel_67 dX2_channel_69 dX2_channel_72 hx (by decide) (by decide) (by decide) (by decide) (by decide) (by decide) (by rw [f_X2_channel, if_pos c_1, if_neg c_5, if_neg c_11, if_pos c_23, if_pos c_38, if_pos c_43, if_neg c_48, if_pos c_53]) rfl rfl rfl
          · refine lv_iload G.1 G.2.1 dX2_channel_56 (lv_at hl 4 rfl) ?_
            refine lv_bipush (v := 8) G.1 G.2.1 dX2_channel_58 (by decide) ?_
            refine lv_icmp_le (tgt := 73) G.1 G.2.1 dX2_channel_60 (by decide) (fun c_60 => ?_) (fun c_60 => ?_)
            · refine lv_aload_n G.1 G.2.1 dX2_channel_73 rfl (lv_at hl 0 rfl) ?_
              refine k2_getr G hP 2 (by decide) kq_146 rfl dX2_channel_74 ?_
              refine lv_iload_n G.1 G.2.1 dX2_channel_77 rfl (lv_at hl 1 rfl) ?_
              have hin_78 : vp_in p0 8 := (kin_of (n := 8) (by decide) c_5 c_11)
              refine kC_ald G hP hin_78 dX2_channel_78 ?_
              have hj_78 : p0.toNatClampNeg < 8 := kx_lt hin_78
              refine lv_iload_n G.1 G.2.1 dX2_channel_79 rfl (lv_at hl 2 rfl) ?_
              refine lv_iload_n G.1 G.2.1 dX2_channel_80 rfl (lv_at hl 3 rfl) ?_
              refine lv_iload G.1 G.2.1 dX2_channel_81 (lv_at hl 4 rfl) ?_
              refine k_Nv (As := [.int p1, .int p2, .int p3]) (rest := []) G hP hS hl.1 kl_X2_82 yk_X0_tell (c_X0_tell l D A C _ _ _ _ G.2.2.2.2.2.2 p0.toNatClampNeg hj_78 p1 p2 p3 ) (kr0 G hP hj_78) (by decide) (by decide) rfl (Nat.le_of_ble_eq_true rfl) dX2_channel_83 (fun H locs hP hS => ?_)
              refine W.widen (k := 4) (n := 24) (by decide) (by decide) ?_
              exact k_xvret G hr hlocks hP hS (by rw [f_X2_channel, if_pos c_1, if_neg c_5, if_neg c_11, if_pos c_23, if_pos c_38, if_pos c_43, if_neg c_48, if_neg c_53, if_pos c_60]) (by rw [f_X2_channel, if_pos c_1, if_neg c_5, if_neg c_11, if_pos c_23, if_pos c_38, if_pos c_43, if_neg c_48, if_neg c_53, if_pos c_60]) rfl rfl dX2_channel_86
            · exact k_throw2 (is := 80) (text := "a channel to itself, or room not 0 to 8") G hl0 hlocks hP hS hl.1 (by decide +kernel) dX2_channel_63 dX2_channel_66 dX2_channel_67 dX2_channel_69 dX2_channel_72 hx (by decide) (by decide) (by decide) (by decide) (by decide) (by decide) (by rw [f_X2_channel, if_pos c_1, if_neg c_5, if_neg c_11, if_pos c_23, if_pos c_38, if_pos c_43, if_neg c_48, if_neg c_53, if_neg c_60]) rfl rfl rfl
      · exact k_throw2 (is := 78) (text := "no such channel, or told already") G hl0 hlocks hP hS hl.1 (by decide +kernel) dX2_channel_26 dX2_channel_29 dX2_channel_30 dX2_channel_32 dX2_channel_35 hx (by decide) (by decide) (by decide) (by decide) (by decide) (by decide) (by rw [f_X2_channel, if_pos c_1, if_neg c_5, if_neg c_11, if_neg c_23]) rfl rfl rfl
/-! X2_seal -/
def f_X2_seal (ka : kM) : Nat × Int32 × kM :=
  if f_X2_refuseIfSealed ka = 0 then (if (ka 0 5) = 0 then (1, 0, ka) else (0, (kup ka 0 7 1) 0 6, kup ka 0 7 1)) else (f_X2_refuseIfSealed ka, 0, ka)
set_option maxHeartbeats 4000000 in
set_option maxRecDepth 100000 in
theorem c_X2_seal (l : Launch) (D : va_G) (A : Nat → Nat) (C : Nat → ClassId) (ka mu : kM) (o : Int32) (sz : Nat) (hA : kinj A)  (hl0 : l.stackTraces = false) : kXi l yX2_seal (.code yX2_seal cX2_seal 1 (some .int)) ({ frames := 7, cells := 2, slots := 12, locals := 115 }) D A C ka mu o sz [.ref (A 0)] ((f_X2_seal ka).1) ((f_X2_seal ka).2.1) ((f_X2_seal ka).2.2) mu o := by
  refine kXi_of hA (by decide) (Nat.le_of_ble_eq_true rfl) (fun p e s m args below meth c G hr hlocks hx hP hS ls hl => ?_)
  have hl : lv_has ls 1 [(0, .ref (A 0))] := hl
  refine lv_aload_n G.1 G.2.1 dX2_seal_0 rfl (lv_at hl 0 rfl) ?_
  refine k_XVv (As := []) (rest := []) G hP hS hl.1 kl_X2_33 yk_X2_refuseIfSealed (c_X2_refuseIfSealed l D A C _ _ _ _ G.2.2.2.2.2.2  hl0 ) (kr2 G hP) (by decide) (by decide) (by decide) rfl (Nat.le_of_ble_eq_true rfl) hx hlocks dX2_seal_1 (fun c_1 => ⟨by rw [f_X2_seal, if_neg c_1], rfl, rfl, rfl⟩) (fun c_1 H locs hP hS => ?_)
  refine lv_aload_n G.1 G.2.1 dX2_seal_4 rfl (lv_at hl 0 rfl) ?_
  refine k2_geti G hP 5 (by decide) (by decide) kq_149 rfl dX2_seal_5 ?_
  refine lv_if_ne (tgt := 21) G.1 G.2.1 dX2_seal_8 (by decide) (fun c_8 => ?_) (fun c_8 => ?_)
  · refine lv_aload_n G.1 G.2.1 dX2_seal_21 rfl (lv_at hl 0 rfl) ?_
    refine lv_iconst (v := 1) G.1 G.2.1 dX2_seal_22 (by decide) ?_
    refine k2_puti G hP hS 7 (by decide) (by decide) kq_151 rfl rfl (by decide) (by decide) dX2_seal_23 (fun H locs hP hS => ?_)
    refine lv_aload_n G.1 G.2.1 dX2_seal_26 rfl (lv_at hl 0 rfl) ?_
    refine k2_geti G hP 6 (by decide) (by decide) kq_150 rfl dX2_seal_27 ?_
    refine W.widen (k := 2) (n := 12) (by decide) (by decide) ?_
    exact k_xiret G hr hlocks hP hS (by rw [f_X2_seal, if_pos c_1, if_neg c_8]) (by rw [f_X2_seal, if_pos c_1, if_neg c_8]) (by rw [f_X2_seal, if_pos c_1, if_neg c_8]) rfl rfl dX2_seal_30
  · exact k_throw1 (is := 91) (text := "no window") G hl0 hlocks hP hS hl.1 (by decide +kernel) dX2_seal_11 dX2_seal_14 dX2_seal_15 dX2_seal_17 dX2_seal_20 hx (by decide) (by decide) (by decide) (by decide) (by decide) (by decide) (by rw [f_X2_seal, if_pos c_1, if_pos c_8]) rfl rfl rfl
/-! X2_told -/
def f_X2_told (ka : kM) (p0 : Int32) (p1 : Int32) : Nat × Int32 :=
  if p0 < 0 then (2, 0) else if (6 : Int32) ≤ p0 then (2, 0) else if p1 < 0 then (2, 0) else if p1 ≤ 9 then (0, f_X1_report ka p0.toNatClampNeg p1) else (2, 0)
set_option maxHeartbeats 4000000 in
set_option maxRecDepth 100000 in
theorem c_X2_told (l : Launch) (D : va_G) (A : Nat → Nat) (C : Nat → ClassId) (ka mu : kM) (o : Int32) (sz : Nat) (hA : kinj A) (p0 : Int32) (p1 : Int32) (hl0 : l.stackTraces = false) : kXi l yX2_told (.code yX2_told cX2_told 3 (some .int)) ({ frames := 6, cells := 1, slots := 6, locals := 95 }) D A C ka mu o sz [.ref (A 0), .int p0, .int p1] ((f_X2_told ka p0 p1).1) ((f_X2_told ka p0 p1).2) ka mu o := by
  refine kXi_of hA (by decide) (Nat.le_of_ble_eq_true rfl) (fun p e s m args below meth c G hr hlocks hx hP hS ls hl => ?_)
  have hl : lv_has ls 3 [(0, .ref (A 0)), (1, .int p0), (2, .int p1)] := hl
  refine lv_iload_n G.1 G.2.1 dX2_told_0 rfl (lv_at hl 1 rfl) ?_
  refine lv_if_lt (tgt := 20) G.1 G.2.1 dX2_told_1 (by decide) (fun c_1 => ?_) (fun c_1 => ?_)
  · exact k_throw2 (is := 104) (text := "no such partition, or nothing to tell") G hl0 hlocks hP hS hl.1 (by decide +kernel) dX2_told_20 dX2_told_23 dX2_told_24 dX2_told_26 dX2_told_29 hx (by decide) (by decide) (by decide) (by decide) (by decide) (by decide) (by rw [f_X2_told, if_pos c_1]) rfl rfl rfl
  · refine lv_iload_n G.1 G.2.1 dX2_told_4 rfl (lv_at hl 1 rfl) ?_
    refine lv_bipush (v := 6) G.1 G.2.1 dX2_told_5 (by decide) ?_
    refine lv_icmp_ge (tgt := 20) G.1 G.2.1 dX2_told_7 (by decide) (fun c_7 => ?_) (fun c_7 => ?_)
    · exact k_throw2 (is := 104) (text := "no such partition, or nothing to tell") G hl0 hlocks hP hS hl.1 (by decide +kernel) dX2_told_20 dX2_told_23 dX2_told_24 dX2_told_26 dX2_told_29 hx (by decide) (by decide) (by decide) (by decide) (by decide) (by decide) (by rw [f_X2_told, if_neg c_1, if_pos c_7]) rfl rfl rfl
    · refine lv_iload_n G.1 G.2.1 dX2_told_10 rfl (lv_at hl 2 rfl) ?_
      refine lv_if_lt (tgt := 20) G.1 G.2.1 dX2_told_11 (by decide) (fun c_11 => ?_) (fun c_11 => ?_)
      · exact k_throw2 (is := 104) (text := "no such partition, or nothing to tell") G hl0 hlocks hP hS hl.1 (by decide +kernel) dX2_told_20 dX2_told_23 dX2_told_24 dX2_told_26 dX2_told_29 hx (by decide) (by decide) (by decide) (by decide) (by decide) (by decide) (by rw [f_X2_told, if_neg c_1, if_neg c_7, if_pos c_11]) rfl rfl rfl
      · refine lv_iload_n G.1 G.2.1 dX2_told_14 rfl (lv_at hl 2 rfl) ?_
        refine lv_bipush (v := 9) G.1 G.2.1 dX2_told_15 (by decide) ?_
        refine lv_icmp_le (tgt := 30) G.1 G.2.1 dX2_told_17 (by decide) (fun c_17 => ?_) (fun c_17 => ?_)
        · refine lv_aload_n G.1 G.2.1 dX2_told_30 rfl (lv_at hl 0 rfl) ?_
          refine k2_getr G hP 1 (by decide) kq_145 rfl dX2_told_31 ?_
          refine lv_iload_n G.1 G.2.1 dX2_told_34 rfl (lv_at hl 1 rfl) ?_
          have hin_35 : vp_in p0 6 := (kin_of (n := 6) (by decide) c_1 c_7)
          refine kP_ald G hP hin_35 dX2_told_35 ?_
          have hj_35 : p0.toNatClampNeg < 6 := kx_lt hin_35
          refine lv_iload_n G.1 G.2.1 dX2_told_36 rfl (lv_at hl 2 rfl) ?_
          refine k_Ni (As := [.int p1]) (rest := []) G hP hS hl.1 kl_X2_106 yk_X1_report (c_X1_report l D A C _ _ _ _ G.2.2.2.2.2.2 p0.toNatClampNeg hj_35 p1 ) (kr1 G hP hj_35) (by decide) (by decide) rfl (Nat.le_of_ble_eq_true rfl) dX2_told_37 (fun H locs hP hS => ?_)
          refine W.widen (k := 1) (n := 6) (by decide) (by decide) ?_
          exact k_xiret G hr hlocks hP hS (by rw [f_X2_told, if_neg c_1, if_neg c_7, if_neg c_11, if_pos c_17]) (by rw [f_X2_told, if_neg c_1, if_neg c_7, if_neg c_11, if_pos c_17]) rfl rfl rfl dX2_told_40
        · exact k_throw2 (is := 104) (text := "no such partition, or nothing to tell") G hl0 hlocks hP hS hl.1 (by decide +kernel) dX2_told_20 dX2_told_23 dX2_told_24 dX2_told_26 dX2_told_29 hx (by decide) (by decide) (by decide) (by decide) (by decide) (by decide) (by rw [f_X2_told, if_neg c_1, if_neg c_7, if_neg c_11, if_neg c_17]) rfl rfl rfl
/-! X2_has -/
def f_X2_has (ka : kM) (p0 : Int32) (p1 : Int32) : Nat × Int32 :=
  if (f_X2_isChannel ka p0) = 0 then (2, 0) else if p1 < 0 then (2, 0) else if p1 ≤ 4 then (0, f_X0_report ka p0.toNatClampNeg p1 (ka 0 11)) else (2, 0)
set_option maxHeartbeats 4000000 in
set_option maxRecDepth 100000 in
theorem c_X2_has (l : Launch) (D : va_G) (A : Nat → Nat) (C : Nat → ClassId) (ka mu : kM) (o : Int32) (sz : Nat) (hA : kinj A) (p0 : Int32) (p1 : Int32) (hl0 : l.stackTraces = false) : kXi l yX2_has (.code yX2_has cX2_has 3 (some .int)) ({ frames := 6, cells := 1, slots := 6, locals := 95 }) D A C ka mu o sz [.ref (A 0), .int p0, .int p1] ((f_X2_has ka p0 p1).1) ((f_X2_has ka p0 p1).2) ka mu o := by
  refine kXi_of hA (by decide) (Nat.le_of_ble_eq_true rfl) (fun p e s m args below meth c G hr hlocks hx hP hS ls hl => ?_)
  have hl : lv_has ls 3 [(0, .ref (A 0)), (1, .int p0), (2, .int p1)] := hl
  refine lv_aload_n G.1 G.2.1 dX2_has_0 rfl (lv_at hl 0 rfl) ?_
  refine lv_iload_n G.1 G.2.1 dX2_has_1 rfl (lv_at hl 1 rfl) ?_
  refine k_Vi (As := [.int p0]) (rest := []) G hP hS hl.1 kl_X2_110 yk_X2_isChannel (c_X2_isChannel l D A C _ _ _ _ G.2.2.2.2.2.2 p0 ) (kr2 G hP) (by decide) (by decide) rfl (Nat.le_of_ble_eq_true rfl) dX2_has_2 (fun H locs hP hS => ?_)
  refine lv_if_eq (tgt := 17) G.1 G.2.1 dX2_has_5 (by decide) (fun c_5 => ?_) (fun c_5 => ?_)
  · exact k_throw2 (is := 114) (text := "no such channel, or nothing to tell") G hl0 hlocks hP hS hl.1 (by decide +kernel) dX2_has_17 dX2_has_20 dX2_has_21 dX2_has_23 dX2_has_26 hx (by decide) (by decide) (by decide) (by decide) (by decide) (by decide) (by rw [f_X2_has, if_pos c_5]) rfl rfl rfl
  · refine lv_iload_n G.1 G.2.1 dX2_has_8 rfl (lv_at hl 2 rfl) ?_
    refine lv_if_lt (tgt := 17) G.1 G.2.1 dX2_has_9 (by decide) (fun c_9 => ?_) (fun c_9 => ?_)
    · exact k_throw2 (is := 114) (text := "no such channel, or nothing to tell") G hl0 hlocks hP hS hl.1 (by decide +kernel) dX2_has_17 dX2_has_20 dX2_has_21 dX2_has_23 dX2_has_26 hx (by decide) (by decide) (by decide) (by decide) (by decide) (by decide) (by rw [f_X2_has, if_neg c_5, if_pos c_9]) rfl rfl rfl
    · refine lv_iload_n G.1 G.2.1 dX2_has_12 rfl (lv_at hl 2 rfl) ?_
      refine lv_iconst (v := 4) G.1 G.2.1 dX2_has_13 (by decide) ?_
      refine lv_icmp_le (tgt := 27) G.1 G.2.1 dX2_has_14 (by decide) (fun c_14 => ?_) (fun c_14 => ?_)
      · refine lv_aload_n G.1 G.2.1 dX2_has_27 rfl (lv_at hl 0 rfl) ?_
        refine k2_getr G hP 2 (by decide) kq_146 rfl dX2_has_28 ?_
        refine lv_iload_n G.1 G.2.1 dX2_has_31 rfl (lv_at hl 1 rfl) ?_
        have hin_32 : vp_in p0 8 := (kin_chan c_5)
        refine kC_ald G hP hin_32 dX2_has_32 ?_
        have hj_32 : p0.toNatClampNeg < 8 := kx_lt hin_32
        refine lv_iload_n G.1 G.2.1 dX2_has_33 rfl (lv_at hl 2 rfl) ?_
        refine lv_aload_n G.1 G.2.1 dX2_has_34 rfl (lv_at hl 0 rfl) ?_
        refine k2_geti G hP 11 (by decide) (by decide) kq_155 rfl dX2_has_35 ?_
        refine k_Ni (As := [.int p1, .int (ka 0 11)]) (rest := []) G hP hS hl.1 kl_X2_119 yk_X0_report (c_X0_report l D A C _ _ _ _ G.2.2.2.2.2.2 p0.toNatClampNeg hj_32 p1 (ka 0 11) ) (kr0 G hP hj_32) (by decide) (by decide) rfl (Nat.le_of_ble_eq_true rfl) dX2_has_38 (fun H locs hP hS => ?_)
        refine W.widen (k := 1) (n := 6) (by decide) (by decide) ?_
        exact k_xiret G hr hlocks hP hS (by rw [f_X2_has, if_neg c_5, if_neg c_9, if_pos c_14]) (by rw [f_X2_has, if_neg c_5, if_neg c_9, if_pos c_14]) rfl rfl rfl dX2_has_41
      · exact k_throw2 (is := 114) (text := "no such channel, or nothing to tell") G hl0 hlocks hP hS hl.1 (by decide +kernel) dX2_has_17 dX2_has_20 dX2_has_21 dX2_has_23 dX2_has_26 hx (by decide) (by decide) (by decide) (by decide) (by decide) (by decide) (by rw [f_X2_has, if_neg c_5, if_neg c_9, if_neg c_14]) rfl rfl rfl
/-! X2_queued -/
def f_X2_queued (ka : kM) (p0 : Int32) (p1 : Int32) : Nat × Int32 :=
  if (f_X2_isChannel ka p0) = 0 then (2, 0) else if (f_X0_isSlot ka p0.toNatClampNeg) = 0 then (0, f_X0_wordAt ka p0.toNatClampNeg p1) else (0, 0)
set_option maxHeartbeats 4000000 in
set_option maxRecDepth 100000 in
theorem c_X2_queued (l : Launch) (D : va_G) (A : Nat → Nat) (C : Nat → ClassId) (ka mu : kM) (o : Int32) (sz : Nat) (hA : kinj A) (p0 : Int32) (p1 : Int32) (hl0 : l.stackTraces = false) : kXi l yX2_queued (.code yX2_queued cX2_queued 3 (some .int)) ({ frames := 6, cells := 1, slots := 6, locals := 95 }) D A C ka mu o sz [.ref (A 0), .int p0, .int p1] ((f_X2_queued ka p0 p1).1) ((f_X2_queued ka p0 p1).2) ka mu o := by
  refine kXi_of hA (by decide) (Nat.le_of_ble_eq_true rfl) (fun p e s m args below meth c G hr hlocks hx hP hS ls hl => ?_)
  have hl : lv_has ls 3 [(0, .ref (A 0)), (1, .int p0), (2, .int p1)] := hl
  refine lv_aload_n G.1 G.2.1 dX2_queued_0 rfl (lv_at hl 0 rfl) ?_
  refine lv_iload_n G.1 G.2.1 dX2_queued_1 rfl (lv_at hl 1 rfl) ?_
  refine k_Vi (As := [.int p0]) (rest := []) G hP hS hl.1 kl_X2_110 yk_X2_isChannel (c_X2_isChannel l D A C _ _ _ _ G.2.2.2.2.2.2 p0 ) (kr2 G hP) (by decide) (by decide) rfl (Nat.le_of_ble_eq_true rfl) dX2_queued_2 (fun H locs hP hS => ?_)
  refine lv_if_ne (tgt := 18) G.1 G.2.1 dX2_queued_5 (by decide) (fun c_5 => ?_) (fun c_5 => ?_)
  · refine lv_aload_n G.1 G.2.1 dX2_queued_18 rfl (lv_at hl 0 rfl) ?_
    refine k2_getr G hP 2 (by decide) kq_146 rfl dX2_queued_19 ?_
    refine lv_iload_n G.1 G.2.1 dX2_queued_22 rfl (lv_at hl 1 rfl) ?_
    have hin_23 : vp_in p0 8 := (kin_chan c_5)
    refine kC_ald G hP hin_23 dX2_queued_23 ?_
    have hj_23 : p0.toNatClampNeg < 8 := kx_lt hin_23
    refine k_Ni (As := []) (rest := []) G hP hS hl.1 kl_X2_123 yk_X0_isSlot (c_X0_isSlot l D A C _ _ _ _ G.2.2.2.2.2.2 p0.toNatClampNeg hj_23 ) (kr0 G hP hj_23) (by decide) (by decide) rfl (Nat.le_of_ble_eq_true rfl) dX2_queued_24 (fun H locs hP hS => ?_)
    refine lv_if_eq (tgt := 34) G.1 G.2.1 dX2_queued_27 (by decide) (fun c_27 => ?_) (fun c_27 => ?_)
    · refine lv_aload_n G.1 G.2.1 dX2_queued_34 rfl (lv_at hl 0 rfl) ?_
      refine k2_getr G hP 2 (by decide) kq_146 rfl dX2_queued_35 ?_
      refine lv_iload_n G.1 G.2.1 dX2_queued_38 rfl (lv_at hl 1 rfl) ?_
      have hin_39 : vp_in p0 8 := (kin_chan c_5)
      refine kC_ald G hP hin_39 dX2_queued_39 ?_
      have hj_39 : p0.toNatClampNeg < 8 := kx_lt hin_39
      refine lv_iload_n G.1 G.2.1 dX2_queued_40 rfl (lv_at hl 2 rfl) ?_
      refine k_Ni (As := [.int p1]) (rest := []) G hP hS hl.1 kl_X2_126 yk_X0_wordAt (c_X0_wordAt l D A C _ _ _ _ G.2.2.2.2.2.2 p0.toNatClampNeg hj_39 p1 ) (kr0 G hP hj_39) (by decide) (by decide) rfl (Nat.le_of_ble_eq_true rfl) dX2_queued_41 (fun H locs hP hS => ?_)
      refine W.widen (k := 1) (n := 6) (by decide) (by decide) ?_
      exact k_xiret G hr hlocks hP hS (by rw [f_X2_queued, if_neg c_5, if_pos c_27]) (by rw [f_X2_queued, if_neg c_5, if_pos c_27]) rfl rfl rfl dX2_queued_44
    · refine lv_iconst (v := 0) G.1 G.2.1 dX2_queued_30 (by decide) ?_
      refine lv_goto (tgt := 44) G.1 G.2.1 dX2_queued_31 (by decide) ?_
      refine W.widen (k := 1) (n := 6) (by decide) (by decide) ?_
      exact k_xiret G hr hlocks hP hS (by rw [f_X2_queued, if_neg c_5, if_neg c_27]) (by rw [f_X2_queued, if_neg c_5, if_neg c_27]) rfl rfl rfl dX2_queued_44
  · exact k_throw2 (is := 121) (text := "no such channel") G hl0 hlocks hP hS hl.1 (by decide +kernel) dX2_queued_8 dX2_queued_11 dX2_queued_12 dX2_queued_14 dX2_queued_17 hx (by decide) (by decide) (by decide) (by decide) (by decide) (by decide) (by rw [f_X2_queued, if_pos c_5]) rfl rfl rfl
