/-! X2_goOneTick -/
def f_X2_goOneTick (ka : kM) : Int32 × kM :=
  if ((kup ka 0 11 ((ka 0 11) + 1)) 4 ((kup ka 0 11 ((ka 0 11) + 1)) 0 8).toNatClampNeg) = (-1) then (0, f_X2_moveWindowOn (kup ka 0 11 ((ka 0 11) + 1))) else if ((kup ka 0 11 ((ka 0 11) + 1)) 0 10) = 0 then (if ((kup ka 0 11 ((ka 0 11) + 1)) (((kup ka 0 11 ((ka 0 11) + 1)) 4 ((kup ka 0 11 ((ka 0 11) + 1)) 0 8).toNatClampNeg).toNatClampNeg + 6) 1) = 1 then (1, f_X2_moveWindowOn (f_X2_runInstruction (kup ka 0 11 ((ka 0 11) + 1)) ((kup ka 0 11 ((ka 0 11) + 1)) 4 ((kup ka 0 11 ((ka 0 11) + 1)) 0 8).toNatClampNeg))) else (0, f_X2_moveWindowOn (kup ka 0 11 ((ka 0 11) + 1)))) else (0, f_X2_moveWindowOn (kup ka 0 11 ((ka 0 11) + 1)))
set_option maxHeartbeats 4000000 in
set_option maxRecDepth 100000 in
theorem c_X2_goOneTick (l : Launch) (D : va_G) (A : Nat → Nat) (C : Nat → ClassId) (ka mu : kM) (o : Int32) (sz : Nat) (hA : kinj A)  (hI : kInv ka) : kMi l yX2_goOneTick (.code yX2_goOneTick cX2_goOneTick 3 (some .boolean)) ({ frames := 6, cells := 0, slots := 0, locals := 139 }) D A C ka mu o sz [.ref (A 0)] ((f_X2_goOneTick ka).1) ((f_X2_goOneTick ka).2) mu o := by
  refine kMi_of hA (by decide) (Nat.le_of_ble_eq_true rfl) (fun p e s m args below meth c G hr hlocks hP hS ls hl => ?_)
  have hl : lv_has ls 3 [(0, .ref (A 0))] := hl
  refine lv_aload_n G.1 G.2.1 dX2_goOneTick_0 rfl (lv_at hl 0 rfl) ?_
  refine lv_dup G.1 G.2.1 dX2_goOneTick_1 rfl ?_
  refine k2_geti G hP 11 (by decide) (by decide) kq_155 rfl dX2_goOneTick_2 ?_
  refine lv_iconst (v := 1) G.1 G.2.1 dX2_goOneTick_5 (by decide) ?_
  refine lv_iadd G.1 G.2.1 dX2_goOneTick_6 ?_
  refine k2_puti G hP hS 11 (by decide) (by decide) kq_155 rfl rfl rfl rfl dX2_goOneTick_7 (fun H locs hP hS => ?_)
  refine lv_aload_n G.1 G.2.1 dX2_goOneTick_10 rfl (lv_at hl 0 rfl) ?_
  refine k2_getr G hP 3 (by decide) kq_147 rfl dX2_goOneTick_11 ?_
  refine lv_aload_n G.1 G.2.1 dX2_goOneTick_14 rfl (lv_at hl 0 rfl) ?_
  refine k2_geti G hP 8 (by decide) (by decide) kq_152 rfl dX2_goOneTick_15 ?_
  refine kK_ald (r := 4) G hP kI_4 (by omega) (by rw [kup_j (by decide)]; exact hI.1) dX2_goOneTick_18 ?_
  refine lv_istore_n (lv' := [(1, .int ((kup ka 0 11 ((ka 0 11) + 1)) 4 ((kup ka 0 11 ((ka 0 11) + 1)) 0 8).toNatClampNeg)), (0, .ref (A 0))]) G.1 G.2.1 dX2_goOneTick_19 rfl hl (by decide) rfl (fun ls hl => ?_)
  refine lv_iload_n G.1 G.2.1 dX2_goOneTick_20 rfl (lv_at hl 0 rfl) ?_
  refine lv_iconst (v := (-1)) G.1 G.2.1 dX2_goOneTick_21 (by decide) ?_
  refine lv_icmp_eq (tgt := 49) G.1 G.2.1 dX2_goOneTick_22 (by decide) (fun c_22 => ?_) (fun c_22 => ?_)
  · refine lv_iconst (v := 0) G.1 G.2.1 dX2_goOneTick_49 (by decide) ?_
    refine lv_istore_n (lv' := [(2, .int 0), (1, .int ((kup ka 0 11 ((ka 0 11) + 1)) 4 ((kup ka 0 11 ((ka 0 11) + 1)) 0 8).toNatClampNeg)), (0, .ref (A 0))]) G.1 G.2.1 dX2_goOneTick_50 rfl hl (by decide) rfl (fun ls hl => ?_)
    refine lv_iload_n G.1 G.2.1 dX2_goOneTick_51 rfl (lv_at hl 0 rfl) ?_
    refine lv_if_eq (tgt := 60) G.1 G.2.1 dX2_goOneTick_52 (by decide) (fun _ => ?_) (fun c => absurd c (by decide))
    refine lv_aload_n G.1 G.2.1 dX2_goOneTick_60 rfl (lv_at hl 2 rfl) ?_
    refine k_Vv (As := []) (rest := []) G hP hS hl.1 kl_X2_158 yk_X2_moveWindowOn (c_X2_moveWindowOn l D A C _ _ _ _ G.2.2.2.2.2.2  (by first | (rw [kup_j (by decide)]; exact hI.1) | (rw [fr_run08, kup_j (by decide)]; exact hI.1))) (kr2 G hP) (by decide) (by decide) rfl (Nat.le_of_ble_eq_true rfl) dX2_goOneTick_61 (fun H locs hP hS => ?_)
    refine lv_iload_n G.1 G.2.1 dX2_goOneTick_64 rfl (lv_at hl 0 rfl) ?_
    exact k_zret G hr hlocks hP hS (by decide) (by rw [f_X2_goOneTick, if_pos c_22]) (by rw [f_X2_goOneTick, if_pos c_22]) rfl rfl dX2_goOneTick_65
  · refine lv_aload_n G.1 G.2.1 dX2_goOneTick_25 rfl (lv_at hl 1 rfl) ?_
    refine k2_geti G hP 10 (by decide) (by decide) kq_154 rfl dX2_goOneTick_26 ?_
    refine lv_if_ne (tgt := 49) G.1 G.2.1 dX2_goOneTick_29 (by decide) (fun c_29 => ?_) (fun c_29 => ?_)
    · refine lv_iconst (v := 0) G.1 G.2.1 dX2_goOneTick_49 (by decide) ?_
      refine lv_istore_n (lv' := [(2, .int 0), (1, .int ((kup ka 0 11 ((ka 0 11) + 1)) 4 ((kup ka 0 11 ((ka 0 11) + 1)) 0 8).toNatClampNeg)), (0, .ref (A 0))]) G.1 G.2.1 dX2_goOneTick_50 rfl hl (by decide) rfl (fun ls hl => ?_)
      refine lv_iload_n G.1 G.2.1 dX2_goOneTick_51 rfl (lv_at hl 0 rfl) ?_
      refine lv_if_eq (tgt := 60) G.1 G.2.1 dX2_goOneTick_52 (by decide) (fun _ => ?_) (fun c => absurd c (by decide))
      refine lv_aload_n G.1 G.2.1 dX2_goOneTick_60 rfl (lv_at hl 2 rfl) ?_
      refine k_Vv (As := []) (rest := []) G hP hS hl.1 kl_X2_158 yk_X2_moveWindowOn (c_X2_moveWindowOn l D A C _ _ _ _ G.2.2.2.2.2.2  (by first | (rw [kup_j (by decide)]; exact hI.1) | (rw [fr_run08, kup_j (by decide)]; exact hI.1))) (kr2 G hP) (by decide) (by decide) rfl (Nat.le_of_ble_eq_true rfl) dX2_goOneTick_61 (fun H locs hP hS => ?_)
      refine lv_iload_n G.1 G.2.1 dX2_goOneTick_64 rfl (lv_at hl 0 rfl) ?_
      exact k_zret G hr hlocks hP hS (by decide) (by rw [f_X2_goOneTick, if_neg c_22, if_neg c_29]) (by rw [f_X2_goOneTick, if_neg c_22, if_neg c_29]) rfl rfl dX2_goOneTick_65
    · refine lv_aload_n G.1 G.2.1 dX2_goOneTick_32 rfl (lv_at hl 1 rfl) ?_
      refine k2_getr G hP 1 (by decide) kq_145 rfl dX2_goOneTick_33 ?_
      refine lv_iload_n G.1 G.2.1 dX2_goOneTick_36 rfl (lv_at hl 0 rfl) ?_
      have hin_37 : vp_in ((kup ka 0 11 ((ka 0 11) + 1)) 4 ((kup ka 0 11 ((ka 0 11) + 1)) 0 8).toNatClampNeg) 6 := (kin_own hI c_22)
      refine kP_ald G hP hin_37 dX2_goOneTick_37 ?_
      have hj_37 : ((kup ka 0 11 ((ka 0 11) + 1)) 4 ((kup ka 0 11 ((ka 0 11) + 1)) 0 8).toNatClampNeg).toNatClampNeg < 6 := kx_lt hin_37
      refine k1N_geti G hP hj_37 1 (by decide) (by decide) kq_68 rfl dX2_goOneTick_38 ?_
      refine lv_iconst (v := 1) G.1 G.2.1 dX2_goOneTick_41 (by decide) ?_
      refine lv_icmp_ne (tgt := 49) G.1 G.2.1 dX2_goOneTick_42 (by decide) (fun c_42 => ?_) (fun c_42 => ?_)
      · refine lv_iconst (v := 0) G.1 G.2.1 dX2_goOneTick_49 (by decide) ?_
        refine lv_istore_n (lv' := [(2, .int 0), (1, .int ((kup ka 0 11 ((ka 0 11) + 1)) 4 ((kup ka 0 11 ((ka 0 11) + 1)) 0 8).toNatClampNeg)), (0, .ref (A 0))]) G.1 G.2.1 dX2_goOneTick_50 rfl hl (by decide) rfl (fun ls hl => ?_)
        refine lv_iload_n G.1 G.2.1 dX2_goOneTick_51 rfl (lv_at hl 0 rfl) ?_
        refine lv_if_eq (tgt := 60) G.1 G.2.1 dX2_goOneTick_52 (by decide) (fun _ => ?_) (fun c => absurd c (by decide))
        refine lv_aload_n G.1 G.2.1 dX2_goOneTick_60 rfl (lv_at hl 2 rfl) ?_
        refine k_Vv (As := []) (rest := []) G hP hS hl.1 kl_X2_158 yk_X2_moveWindowOn (c_X2_moveWindowOn l D A C _ _ _ _ G.2.2.2.2.2.2  (by first | (rw [kup_j (by decide)]; exact hI.1) | (rw [fr_run08, kup_j (by decide)]; exact hI.1))) (kr2 G hP) (by decide) (by decide) rfl (Nat.le_of_ble_eq_true rfl) dX2_goOneTick_61 (fun H locs hP hS => ?_)
        refine lv_iload_n G.1 G.2.1 dX2_goOneTick_64 rfl (lv_at hl 0 rfl) ?_
        exact k_zret G hr hlocks hP hS (by decide) (by rw [f_X2_goOneTick, if_neg c_22, if_pos c_29, if_neg c_42]) (by rw [f_X2_goOneTick, if_neg c_22, if_pos c_29, if_neg c_42]) rfl rfl dX2_goOneTick_65
      · refine lv_iconst (v := 1) G.1 G.2.1 dX2_goOneTick_45 (by decide) ?_
        refine lv_goto (tgt := 50) G.1 G.2.1 dX2_goOneTick_46 (by decide) ?_
        refine lv_istore_n (lv' := [(2, .int 1), (1, .int ((kup ka 0 11 ((ka 0 11) + 1)) 4 ((kup ka 0 11 ((ka 0 11) + 1)) 0 8).toNatClampNeg)), (0, .ref (A 0))]) G.1 G.2.1 dX2_goOneTick_50 rfl hl (by decide) rfl (fun ls hl => ?_)
        refine lv_iload_n G.1 G.2.1 dX2_goOneTick_51 rfl (lv_at hl 0 rfl) ?_
        refine lv_if_eq (tgt := 60) G.1 G.2.1 dX2_goOneTick_52 (by decide) (fun c => absurd c (by decide)) (fun _ => ?_)
        refine lv_aload_n G.1 G.2.1 dX2_goOneTick_55 rfl (lv_at hl 2 rfl) ?_
        refine lv_iload_n G.1 G.2.1 dX2_goOneTick_56 rfl (lv_at hl 1 rfl) ?_
        refine k_Vv (As := [.int ((kup ka 0 11 ((ka 0 11) + 1)) 4 ((kup ka 0 11 ((ka 0 11) + 1)) 0 8).toNatClampNeg)]) (rest := []) G hP hS hl.1 kl_X2_155 yk_X2_runInstruction (c_X2_runInstruction l D A C _ _ _ _ G.2.2.2.2.2.2 ((kup ka 0 11 ((ka 0 11) + 1)) 4 ((kup ka 0 11 ((ka 0 11) + 1)) 0 8).toNatClampNeg) (kin_own hI c_22) (kB_up0 (hI.2.2.1 _ (kx_lt (kin_own hI c_22))))) (kr2 G hP) (by decide) (by decide) rfl (Nat.le_of_ble_eq_true rfl) dX2_goOneTick_57 (fun H locs hP hS => ?_)
        refine lv_aload_n G.1 G.2.1 dX2_goOneTick_60 rfl (lv_at hl 2 rfl) ?_
        refine k_Vv (As := []) (rest := []) G hP hS hl.1 kl_X2_158 yk_X2_moveWindowOn (c_X2_moveWindowOn l D A C _ _ _ _ G.2.2.2.2.2.2  (by first | (rw [kup_j (by decide)]; exact hI.1) | (rw [fr_run08, kup_j (by decide)]; exact hI.1))) (kr2 G hP) (by decide) (by decide) rfl (Nat.le_of_ble_eq_true rfl) dX2_goOneTick_61 (fun H locs hP hS => ?_)
        refine lv_iload_n G.1 G.2.1 dX2_goOneTick_64 rfl (lv_at hl 0 rfl) ?_
        exact k_zret G hr hlocks hP hS (by decide) (by rw [f_X2_goOneTick, if_neg c_22, if_pos c_29, if_pos c_42]) (by rw [f_X2_goOneTick, if_neg c_22, if_pos c_29, if_pos c_42]) rfl rfl dX2_goOneTick_65
/-! X2_refuseIfSealed -/
def f_X2_refuseIfSealed (ka : kM) : Nat :=
  if (ka 0 7) = 0 then 0 else 1
set_option maxHeartbeats 4000000 in
set_option maxRecDepth 100000 in
theorem c_X2_refuseIfSealed (l : Launch) (D : va_G) (A : Nat → Nat) (C : Nat → ClassId) (ka mu : kM) (o : Int32) (sz : Nat) (hA : kinj A)  (hl0 : l.stackTraces = false) : kXv l yX2_refuseIfSealed (.code yX2_refuseIfSealed cX2_refuseIfSealed 1 none) ({ frames := 6, cells := 1, slots := 6, locals := 95 }) D A C ka mu o sz [.ref (A 0)] (f_X2_refuseIfSealed ka) ka mu o := by
  refine kXv_of hA (by decide) (Nat.le_of_ble_eq_true rfl) (fun p e s m args below meth c G hr hlocks hx hP hS ls hl => ?_)
  have hl : lv_has ls 1 [(0, .ref (A 0))] := hl
  refine lv_aload_n G.1 G.2.1 dX2_refuseIfSealed_0 rfl (lv_at hl 0 rfl) ?_
  refine k2_geti G hP 7 (by decide) (by decide) kq_151 rfl dX2_refuseIfSealed_1 ?_
  refine lv_if_eq (tgt := 17) G.1 G.2.1 dX2_refuseIfSealed_4 (by decide) (fun c_4 => ?_) (fun c_4 => ?_)
  · refine W.widen (k := 1) (n := 6) (by decide) (by decide) ?_
    exact k_xvret G hr hlocks hP hS (by rw [f_X2_refuseIfSealed, if_pos c_4]) rfl rfl rfl dX2_refuseIfSealed_17
  · exact k_throw1 (is := 132) (text := "sealed") G hl0 hlocks hP hS hl.1 (by decide +kernel) dX2_refuseIfSealed_7 dX2_refuseIfSealed_10 dX2_refuseIfSealed_11 dX2_refuseIfSealed_13 dX2_refuseIfSealed_16 hx (by decide) (by decide) (by decide) (by decide) (by decide) (by decide) (by rw [f_X2_refuseIfSealed, if_neg c_4]) rfl rfl rfl
/-! X2_refuseUnlessTold -/
def f_X2_refuseUnlessTold (ka : kM) (p0 : Int32) : Nat :=
  if p0 < 0 then 2 else if (6 : Int32) ≤ p0 then 2 else if (f_X1_isTold ka p0.toNatClampNeg) = 0 then 2 else 0
set_option maxHeartbeats 4000000 in
set_option maxRecDepth 100000 in
theorem c_X2_refuseUnlessTold (l : Launch) (D : va_G) (A : Nat → Nat) (C : Nat → ClassId) (ka mu : kM) (o : Int32) (sz : Nat) (hA : kinj A) (p0 : Int32) (hl0 : l.stackTraces = false) : kXv l yX2_refuseUnlessTold (.code yX2_refuseUnlessTold cX2_refuseUnlessTold 2 none) ({ frames := 6, cells := 1, slots := 6, locals := 95 }) D A C ka mu o sz [.ref (A 0), .int p0] (f_X2_refuseUnlessTold ka p0) ka mu o := by
  refine kXv_of hA (by decide) (Nat.le_of_ble_eq_true rfl) (fun p e s m args below meth c G hr hlocks hx hP hS ls hl => ?_)
  have hl : lv_has ls 2 [(0, .ref (A 0)), (1, .int p0)] := hl
  refine lv_iload_n G.1 G.2.1 dX2_refuseUnlessTold_0 rfl (lv_at hl 1 rfl) ?_
  refine lv_if_lt (tgt := 22) G.1 G.2.1 dX2_refuseUnlessTold_1 (by decide) (fun c_1 => ?_) (fun c_1 => ?_)
  · exact k_throw2 (is := 133) (text := "partition not told") G hl0 hlocks hP hS hl.1 (by decide +kernel) dX2_refuseUnlessTold_22 dX2_refuseUnlessTold_25 dX2_refuseUnlessTold_26 dX2_refuseUnlessTold_28 dX2_refuseUnlessTold_31 hx (by decide) (by decide) (by decide) (by decide) (by decide) (by decide) (by rw [f_X2_refuseUnlessTold, if_pos c_1]) rfl rfl rfl
  · refine lv_iload_n G.1 G.2.1 dX2_refuseUnlessTold_4 rfl (lv_at hl 1 rfl) ?_
    refine lv_bipush (v := 6) G.1 G.2.1 dX2_refuseUnlessTold_5 (by decide) ?_
    refine lv_icmp_ge (tgt := 22) G.1 G.2.1 dX2_refuseUnlessTold_7 (by decide) (fun c_7 => ?_) (fun c_7 => ?_)
    · exact k_throw2 (is := 133) (text := "partition not told") G hl0 hlocks hP hS hl.1 (by decide +kernel) dX2_refuseUnlessTold_22 dX2_refuseUnlessTold_25 dX2_refuseUnlessTold_26 dX2_refuseUnlessTold_28 dX2_refuseUnlessTold_31 hx (by decide) (by decide) (by decide) (by decide) (by decide) (by decide) (by rw [f_X2_refuseUnlessTold, if_neg c_1, if_pos c_7]) rfl rfl rfl
    · refine lv_aload_n G.1 G.2.1 dX2_refuseUnlessTold_10 rfl (lv_at hl 0 rfl) ?_
      refine k2_getr G hP 1 (by decide) kq_145 rfl dX2_refuseUnlessTold_11 ?_
      refine lv_iload_n G.1 G.2.1 dX2_refuseUnlessTold_14 rfl (lv_at hl 1 rfl) ?_
      have hin_15 : vp_in p0 6 := (kin_of (n := 6) (by decide) c_1 c_7)
      refine kP_ald G hP hin_15 dX2_refuseUnlessTold_15 ?_
      have hj_15 : p0.toNatClampNeg < 6 := kx_lt hin_15
      refine k_Ni (As := []) (rest := []) G hP hS hl.1 kl_X2_36 yk_X1_isTold (c_X1_isTold l D A C _ _ _ _ G.2.2.2.2.2.2 p0.toNatClampNeg hj_15 ) (kr1 G hP hj_15) (by decide) (by decide) rfl (Nat.le_of_ble_eq_true rfl) dX2_refuseUnlessTold_16 (fun H locs hP hS => ?_)
      refine lv_if_ne (tgt := 32) G.1 G.2.1 dX2_refuseUnlessTold_19 (by decide) (fun c_19 => ?_) (fun c_19 => ?_)
      · refine W.widen (k := 1) (n := 6) (by decide) (by decide) ?_
        exact k_xvret G hr hlocks hP hS (by rw [f_X2_refuseUnlessTold, if_neg c_1, if_neg c_7, if_neg c_19]) rfl rfl rfl dX2_refuseUnlessTold_32
      · exact k_throw2 (is := 133) (text := "partition not told") G hl0 hlocks hP hS hl.1 (by decide +kernel) dX2_refuseUnlessTold_22 dX2_refuseUnlessTold_25 dX2_refuseUnlessTold_26 dX2_refuseUnlessTold_28 dX2_refuseUnlessTold_31 hx (by decide) (by decide) (by decide) (by decide) (by decide) (by decide) (by rw [f_X2_refuseUnlessTold, if_neg c_1, if_neg c_7, if_pos c_19]) rfl rfl rfl
