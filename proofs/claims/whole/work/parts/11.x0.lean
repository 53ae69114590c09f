/-! X0_tell -/
def f_X0_tell (ka : kM) (j : Nat) (p0 : Int32) (p1 : Int32) (p2 : Int32) : kM :=
  (kup (kup (kup (kup ka (j + 18) 1 1) (j + 18) 2 p0) (j + 18) 3 p1) (j + 18) 4 p2)
set_option maxHeartbeats 4000000 in
set_option maxRecDepth 100000 in
theorem c_X0_tell (l : Launch) (D : va_G) (A : Nat → Nat) (C : Nat → ClassId) (ka mu : kM) (o : Int32) (sz : Nat) (hA : kinj A) (j : Nat) (hj : j < 8) (p0 : Int32) (p1 : Int32) (p2 : Int32) : kMv l yX0_tell (.code yX0_tell cX0_tell 4 none) ({ frames := 0, cells := 0, slots := 0, locals := 0 }) D A C ka mu o sz [.ref (A (j + 18)), .int p0, .int p1, .int p2]  (f_X0_tell ka j p0 p1 p2) mu o := by
  refine kMv_of hA (by decide) (Nat.le_of_ble_eq_true rfl) (fun p e s m args below meth c G hr hlocks hP hS ls hl => ?_)
  have hl : lv_has ls 4 [(0, .ref (A (j + 18))), (1, .int p0), (2, .int p1), (3, .int p2)] := hl
  refine lv_aload_n G.1 G.2.1 dX0_tell_0 rfl (lv_at hl 0 rfl) ?_
  refine lv_iconst (v := 1) G.1 G.2.1 dX0_tell_1 (by decide) ?_
  refine k0_puti G hP hS hj 1 (by decide) (by decide) kq_110 rfl rfl (by decide) (by decide) dX0_tell_2 (fun H locs hP hS => ?_)
  refine lv_aload_n G.1 G.2.1 dX0_tell_5 rfl (lv_at hl 0 rfl) ?_
  refine lv_iload_n G.1 G.2.1 dX0_tell_6 rfl (lv_at hl 1 rfl) ?_
  refine k0_puti G hP hS hj 2 (by decide) (by decide) kq_112 rfl rfl rfl rfl dX0_tell_7 (fun H locs hP hS => ?_)
  refine lv_aload_n G.1 G.2.1 dX0_tell_10 rfl (lv_at hl 0 rfl) ?_
  refine lv_iload_n G.1 G.2.1 dX0_tell_11 rfl (lv_at hl 2 rfl) ?_
  refine k0_puti G hP hS hj 3 (by decide) (by decide) kq_114 rfl rfl rfl rfl dX0_tell_12 (fun H locs hP hS => ?_)
  refine lv_aload_n G.1 G.2.1 dX0_tell_15 rfl (lv_at hl 0 rfl) ?_
  refine lv_iload_n G.1 G.2.1 dX0_tell_16 rfl (lv_at hl 3 rfl) ?_
  refine k0_puti G hP hS hj 4 (by decide) (by decide) kq_116 rfl rfl rfl rfl dX0_tell_17 (fun H locs hP hS => ?_)
  exact k_vret G hr hlocks hP hS (by rw [f_X0_tell]) rfl rfl dX0_tell_20
/-! X0_isSlot -/
def f_X0_isSlot (ka : kM) (j : Nat) : Int32 :=
  if (ka (j + 18) 4) = 0 then 1 else 0
set_option maxHeartbeats 4000000 in
set_option maxRecDepth 100000 in
theorem c_X0_isSlot (l : Launch) (D : va_G) (A : Nat → Nat) (C : Nat → ClassId) (ka mu : kM) (o : Int32) (sz : Nat) (hA : kinj A) (j : Nat) (hj : j < 8) : kMi l yX0_isSlot (.code yX0_isSlot cX0_isSlot 1 (some .boolean)) ({ frames := 0, cells := 0, slots := 0, locals := 0 }) D A C ka mu o sz [.ref (A (j + 18))] (f_X0_isSlot ka j) ka mu o := by
  refine kMi_of hA (by decide) (Nat.le_of_ble_eq_true rfl) (fun p e s m args below meth c G hr hlocks hP hS ls hl => ?_)
  have hl : lv_has ls 1 [(0, .ref (A (j + 18)))] := hl
  refine lv_aload_n G.1 G.2.1 dX0_isSlot_0 rfl (lv_at hl 0 rfl) ?_
  refine k0_geti G hP hj 4 (by decide) (by decide) kq_116 rfl dX0_isSlot_1 ?_
  refine lv_if_ne (tgt := 11) G.1 G.2.1 dX0_isSlot_4 (by decide) (fun c_4 => ?_) (fun c_4 => ?_)
  · refine lv_iconst (v := 0) G.1 G.2.1 dX0_isSlot_11 (by decide) ?_
    exact k_zret G hr hlocks hP hS (by decide) (by rw [f_X0_isSlot, if_neg c_4]) rfl rfl rfl dX0_isSlot_12
  · refine lv_iconst (v := 1) G.1 G.2.1 dX0_isSlot_7 (by decide) ?_
    refine lv_goto (tgt := 12) G.1 G.2.1 dX0_isSlot_8 (by decide) ?_
    exact k_zret G hr hlocks hP hS (by decide) (by rw [f_X0_isSlot, if_pos c_4]) rfl rfl rfl dX0_isSlot_12
/-! X0_spotOf -/
def f_X0_spotOf (ka : kM) (j : Nat) (p0 : Int32) : Int32 :=
  (((ka (j + 18) 5) + p0) &&& 7)
set_option maxHeartbeats 4000000 in
set_option maxRecDepth 100000 in
theorem c_X0_spotOf (l : Launch) (D : va_G) (A : Nat → Nat) (C : Nat → ClassId) (ka mu : kM) (o : Int32) (sz : Nat) (hA : kinj A) (j : Nat) (hj : j < 8) (p0 : Int32) : kMi l yX0_spotOf (.code yX0_spotOf cX0_spotOf 2 (some .int)) ({ frames := 0, cells := 0, slots := 0, locals := 0 }) D A C ka mu o sz [.ref (A (j + 18)), .int p0] (f_X0_spotOf ka j p0) ka mu o := by
  refine kMi_of hA (by decide) (Nat.le_of_ble_eq_true rfl) (fun p e s m args below meth c G hr hlocks hP hS ls hl => ?_)
  have hl : lv_has ls 2 [(0, .ref (A (j + 18))), (1, .int p0)] := hl
  refine lv_aload_n G.1 G.2.1 dX0_spotOf_0 rfl (lv_at hl 0 rfl) ?_
  refine k0_geti G hP hj 5 (by decide) (by decide) kq_117 rfl dX0_spotOf_1 ?_
  refine lv_iload_n G.1 G.2.1 dX0_spotOf_4 rfl (lv_at hl 1 rfl) ?_
  refine lv_iadd G.1 G.2.1 dX0_spotOf_5 ?_
  refine lv_bipush (v := 7) G.1 G.2.1 dX0_spotOf_6 (by decide) ?_
  refine lv_iand G.1 G.2.1 dX0_spotOf_8 ?_
  exact k_iret G hr hlocks hP hS (by rw [f_X0_spotOf]) rfl rfl rfl dX0_spotOf_9
/-! X0_put -/
def f_X0_put (ka : kM) (j : Nat) (p0 : Int32) (p1 : Int32) : Int32 × kM :=
  if (f_X0_isSlot ka j) = 0 then (if (ka (j + 18) 4) ≤ (ka (j + 18) 6) then (0, kup ka (j + 18) 9 ((ka (j + 18) 9) + 1)) else (1, kup (kup (kup ka (j + 26) (f_X0_spotOf ka j (ka (j + 18) 6)).toNatClampNeg p0) (j + 18) 6 (((kup ka (j + 26) (f_X0_spotOf ka j (ka (j + 18) 6)).toNatClampNeg p0) (j + 18) 6) + 1)) (j + 18) 8 (((kup (kup ka (j + 26) (f_X0_spotOf ka j (ka (j + 18) 6)).toNatClampNeg p0) (j + 18) 6 (((kup ka (j + 26) (f_X0_spotOf ka j (ka (j + 18) 6)).toNatClampNeg p0) (j + 18) 6) + 1)) (j + 18) 8) + 1))) else (1, kup (kup (kup (kup ka (j + 26) (0 : Int32).toNatClampNeg p0) (j + 18) 6 1) (j + 18) 7 p1) (j + 18) 8 (((kup (kup (kup ka (j + 26) (0 : Int32).toNatClampNeg p0) (j + 18) 6 1) (j + 18) 7 p1) (j + 18) 8) + 1))
set_option maxHeartbeats 4000000 in
set_option maxRecDepth 100000 in
theorem c_X0_put (l : Launch) (D : va_G) (A : Nat → Nat) (C : Nat → ClassId) (ka mu : kM) (o : Int32) (sz : Nat) (hA : kinj A) (j : Nat) (hj : j < 8) (p0 : Int32) (p1 : Int32) : kMi l yX0_put (.code yX0_put cX0_put 3 (some .boolean)) ({ frames := 1, cells := 0, slots := 0, locals := 21 }) D A C ka mu o sz [.ref (A (j + 18)), .int p0, .int p1] ((f_X0_put ka j p0 p1).1) ((f_X0_put ka j p0 p1).2) mu o := by
  refine kMi_of hA (by decide) (Nat.le_of_ble_eq_true rfl) (fun p e s m args below meth c G hr hlocks hP hS ls hl => ?_)
  have hl : lv_has ls 3 [(0, .ref (A (j + 18))), (1, .int p0), (2, .int p1)] := hl
  refine lv_aload_n G.1 G.2.1 dX0_put_0 rfl (lv_at hl 0 rfl) ?_
  refine k_Vi (As := []) (rest := []) G hP hS hl.1 kl_X0_29 yk_X0_isSlot (c_X0_isSlot l D A C _ _ _ _ G.2.2.2.2.2.2 j hj ) (kr0 G hP hj) (by decide) (by decide) rfl (Nat.le_of_ble_eq_true rfl) dX0_put_1 (fun H locs hP hS => ?_)
  refine lv_if_eq (tgt := 27) G.1 G.2.1 dX0_put_4 (by decide) (fun c_4 => ?_) (fun c_4 => ?_)
  · refine lv_aload_n G.1 G.2.1 dX0_put_27 rfl (lv_at hl 0 rfl) ?_
    refine k0_geti G hP hj 6 (by decide) (by decide) kq_118 rfl dX0_put_28 ?_
    refine lv_aload_n G.1 G.2.1 dX0_put_31 rfl (lv_at hl 0 rfl) ?_
    refine k0_geti G hP hj 4 (by decide) (by decide) kq_116 rfl dX0_put_32 ?_
    refine lv_icmp_ge (tgt := 65) G.1 G.2.1 dX0_put_35 (by decide) (fun c_35 => ?_) (fun c_35 => ?_)
    · refine lv_aload_n G.1 G.2.1 dX0_put_65 rfl (lv_at hl 0 rfl) ?_
      refine lv_dup G.1 G.2.1 dX0_put_66 rfl ?_
      refine k0_geti G hP hj 9 (by decide) (by decide) kq_122 rfl dX0_put_67 ?_
      refine lv_iconst (v := 1) G.1 G.2.1 dX0_put_70 (by decide) ?_
      refine lv_iadd G.1 G.2.1 dX0_put_71 ?_
      refine k0_puti G hP hS hj 9 (by decide) (by decide) kq_122 rfl rfl rfl rfl dX0_put_72 (fun H locs hP hS => ?_)
      refine lv_iconst (v := 0) G.1 G.2.1 dX0_put_75 (by decide) ?_
      exact k_zret G hr hlocks hP hS (by decide) (by rw [f_X0_put, if_pos c_4, if_pos c_35]) (by rw [f_X0_put, if_pos c_4, if_pos c_35]) rfl rfl dX0_put_76
    · refine lv_aload_n G.1 G.2.1 dX0_put_38 rfl (lv_at hl 0 rfl) ?_
      refine k0_getr G hP hj kq_109 dX0_put_39 ?_
      refine lv_aload_n G.1 G.2.1 dX0_put_42 rfl (lv_at hl 0 rfl) ?_
      refine lv_aload_n G.1 G.2.1 dX0_put_43 rfl (lv_at hl 0 rfl) ?_
      refine k0_geti G hP hj 6 (by decide) (by decide) kq_118 rfl dX0_put_44 ?_
      refine k_Vi (As := [.int (ka (j + 18) 6)]) (rest := [.ref (A (j + 26))]) G hP hS hl.1 kl_X0_39 yk_X0_spotOf (c_X0_spotOf l D A C _ _ _ _ G.2.2.2.2.2.2 j hj (ka (j + 18) 6) ) (kr0 G hP hj) (by decide) (by decide) rfl (Nat.le_of_ble_eq_true rfl) dX0_put_47 (fun H locs hP hS => ?_)
      refine lv_iload_n G.1 G.2.1 dX0_put_50 rfl (lv_at hl 1 rfl) ?_
      refine kK_ast (r := j + 26) G hP hS (kI_W hj) (by omega) (kin_and7 _) dX0_put_51 (fun H locs hP hS => ?_)
      refine lv_aload_n G.1 G.2.1 dX0_put_52 rfl (lv_at hl 0 rfl) ?_
      refine lv_dup G.1 G.2.1 dX0_put_53 rfl ?_
      refine k0_geti G hP hj 6 (by decide) (by decide) kq_118 rfl dX0_put_54 ?_
      refine lv_iconst (v := 1) G.1 G.2.1 dX0_put_57 (by decide) ?_
      refine lv_iadd G.1 G.2.1 dX0_put_58 ?_
      refine k0_puti G hP hS hj 6 (by decide) (by decide) kq_118 rfl rfl rfl rfl dX0_put_59 (fun H locs hP hS => ?_)
      refine lv_goto (tgt := 77) G.1 G.2.1 dX0_put_62 (by decide) ?_
      refine lv_aload_n G.1 G.2.1 dX0_put_77 rfl (lv_at hl 0 rfl) ?_
      refine lv_dup G.1 G.2.1 dX0_put_78 rfl ?_
      refine k0_geti G hP hj 8 (by decide) (by decide) kq_121 rfl dX0_put_79 ?_
      refine lv_iconst (v := 1) G.1 G.2.1 dX0_put_82 (by decide) ?_
      refine lv_iadd G.1 G.2.1 dX0_put_83 ?_
      refine k0_puti G hP hS hj 8 (by decide) (by decide) kq_121 rfl rfl rfl rfl dX0_put_84 (fun H locs hP hS => ?_)
      refine lv_iconst (v := 1) G.1 G.2.1 dX0_put_87 (by decide) ?_
      exact k_zret G hr hlocks hP hS (by decide) (by rw [f_X0_put, if_pos c_4, if_neg c_35]) (by rw [f_X0_put, if_pos c_4, if_neg c_35]) rfl rfl dX0_put_88
  · refine lv_aload_n G.1 G.2.1 dX0_put_7 rfl (lv_at hl 0 rfl) ?_
    refine k0_getr G hP hj kq_109 dX0_put_8 ?_
    refine lv_iconst (v := 0) G.1 G.2.1 dX0_put_11 (by decide) ?_
    refine lv_iload_n G.1 G.2.1 dX0_put_12 rfl (lv_at hl 1 rfl) ?_
    refine kK_ast (r := j + 26) G hP hS (kI_W hj) (by omega) (by unfold vp_in; decide) dX0_put_13 (fun H locs hP hS => ?_)
    refine lv_aload_n G.1 G.2.1 dX0_put_14 rfl (lv_at hl 0 rfl) ?_
    refine lv_iconst (v := 1) G.1 G.2.1 dX0_put_15 (by decide) ?_
    refine k0_puti G hP hS hj 6 (by decide) (by decide) kq_118 rfl rfl rfl rfl dX0_put_16 (fun H locs hP hS => ?_)
    refine lv_aload_n G.1 G.2.1 dX0_put_19 rfl (lv_at hl 0 rfl) ?_
    refine lv_iload_n G.1 G.2.1 dX0_put_20 rfl (lv_at hl 2 rfl) ?_
    refine k0_puti G hP hS hj 7 (by decide) (by decide) kq_120 rfl rfl rfl rfl dX0_put_21 (fun H locs hP hS => ?_)
    refine lv_goto (tgt := 77) G.1 G.2.1 dX0_put_24 (by decide) ?_
    refine lv_aload_n G.1 G.2.1 dX0_put_77 rfl (lv_at hl 0 rfl) ?_
    refine lv_dup G.1 G.2.1 dX0_put_78 rfl ?_
    refine k0_geti G hP hj 8 (by decide) (by decide) kq_121 rfl dX0_put_79 ?_
    refine lv_iconst (v := 1) G.1 G.2.1 dX0_put_82 (by decide) ?_
    refine lv_iadd G.1 G.2.1 dX0_put_83 ?_
    refine k0_puti G hP hS hj 8 (by decide) (by decide) kq_121 rfl rfl rfl rfl dX0_put_84 (fun H locs hP hS => ?_)
    refine lv_iconst (v := 1) G.1 G.2.1 dX0_put_87 (by decide) ?_
    exact k_zret G hr hlocks hP hS (by decide) (by rw [f_X0_put, if_neg c_4]) (by rw [f_X0_put, if_neg c_4]) rfl rfl dX0_put_88
/-! X0_dropTaken -/
def f_X0_dropTaken (ka : kM) (j : Nat) : kM :=
  if (f_X0_isSlot ka j) = 0 then (if (ka (j + 18) 6) ≤ 0 then ka else (kup (kup ka (j + 18) 5 (f_X0_spotOf ka j 1)) (j + 18) 6 (((kup ka (j + 18) 5 (f_X0_spotOf ka j 1)) (j + 18) 6) - 1))) else ka
set_option maxHeartbeats 4000000 in
set_option maxRecDepth 100000 in
theorem c_X0_dropTaken (l : Launch) (D : va_G) (A : Nat → Nat) (C : Nat → ClassId) (ka mu : kM) (o : Int32) (sz : Nat) (hA : kinj A) (j : Nat) (hj : j < 8) : kMv l yX0_dropTaken (.code yX0_dropTaken cX0_dropTaken 1 none) ({ frames := 1, cells := 0, slots := 0, locals := 21 }) D A C ka mu o sz [.ref (A (j + 18))]  (f_X0_dropTaken ka j) mu o := by
  refine kMv_of hA (by decide) (Nat.le_of_ble_eq_true rfl) (fun p e s m args below meth c G hr hlocks hP hS ls hl => ?_)
  have hl : lv_has ls 1 [(0, .ref (A (j + 18)))] := hl
  refine lv_aload_n G.1 G.2.1 dX0_dropTaken_0 rfl (lv_at hl 0 rfl) ?_
  refine k_Vi (As := []) (rest := []) G hP hS hl.1 kl_X0_29 yk_X0_isSlot (c_X0_isSlot l D A C _ _ _ _ G.2.2.2.2.2.2 j hj ) (kr0 G hP hj) (by decide) (by decide) rfl (Nat.le_of_ble_eq_true rfl) dX0_dropTaken_1 (fun H locs hP hS => ?_)
  refine lv_if_ne (tgt := 33) G.1 G.2.1 dX0_dropTaken_4 (by decide) (fun c_4 => ?_) (fun c_4 => ?_)
  · exact k_vret G hr hlocks hP hS (by rw [f_X0_dropTaken, if_neg c_4]) rfl rfl dX0_dropTaken_33
  · refine lv_aload_n G.1 G.2.1 dX0_dropTaken_7 rfl (lv_at hl 0 rfl) ?_
    refine k0_geti G hP hj 6 (by decide) (by decide) kq_118 rfl dX0_dropTaken_8 ?_
    refine lv_if_le (tgt := 33) G.1 G.2.1 dX0_dropTaken_11 (by decide) (fun c_11 => ?_) (fun c_11 => ?_)
    · exact k_vret G hr hlocks hP hS (by rw [f_X0_dropTaken, if_pos c_4, if_pos c_11]) rfl rfl dX0_dropTaken_33
    · refine lv_aload_n G.1 G.2.1 dX0_dropTaken_14 rfl (lv_at hl 0 rfl) ?_
      refine lv_aload_n G.1 G.2.1 dX0_dropTaken_15 rfl (lv_at hl 0 rfl) ?_
      refine lv_iconst (v := 1) G.1 G.2.1 dX0_dropTaken_16 (by decide) ?_
      refine k_Vi (As := [.int 1]) (rest := [.ref (A (j + 18))]) G hP hS hl.1 kl_X0_39 yk_X0_spotOf (c_X0_spotOf l D A C _ _ _ _ G.2.2.2.2.2.2 j hj 1 ) (kr0 G hP hj) (by decide) (by decide) rfl (Nat.le_of_ble_eq_true rfl) dX0_dropTaken_17 (fun H locs hP hS => ?_)
      refine k0_puti G hP hS hj 5 (by decide) (by decide) kq_117 rfl rfl rfl rfl dX0_dropTaken_20 (fun H locs hP hS => ?_)
      refine lv_aload_n G.1 G.2.1 dX0_dropTaken_23 rfl (lv_at hl 0 rfl) ?_
      refine lv_dup G.1 G.2.1 dX0_dropTaken_24 rfl ?_
      refine k0_geti G hP hj 6 (by decide) (by decide) kq_118 rfl dX0_dropTaken_25 ?_
      refine lv_iconst (v := 1) G.1 G.2.1 dX0_dropTaken_28 (by decide) ?_
      refine lv_isub G.1 G.2.1 dX0_dropTaken_29 ?_
      refine k0_puti G hP hS hj 6 (by decide) (by decide) kq_118 rfl rfl rfl rfl dX0_dropTaken_30 (fun H locs hP hS => ?_)
      exact k_vret G hr hlocks hP hS (by rw [f_X0_dropTaken, if_pos c_4, if_neg c_11]) rfl rfl dX0_dropTaken_33
/-! X0_wordAt -/
def f_X0_wordAt (ka : kM) (j : Nat) (p0 : Int32) : Int32 :=
  if p0 < 0 then 0 else if (ka (j + 18) 6) ≤ p0 then 0 else (ka (j + 26) (f_X0_spotOf ka j p0).toNatClampNeg)
set_option maxHeartbeats 4000000 in
set_option maxRecDepth 100000 in
theorem c_X0_wordAt (l : Launch) (D : va_G) (A : Nat → Nat) (C : Nat → ClassId) (ka mu : kM) (o : Int32) (sz : Nat) (hA : kinj A) (j : Nat) (hj : j < 8) (p0 : Int32) : kMi l yX0_wordAt (.code yX0_wordAt cX0_wordAt 2 (some .int)) ({ frames := 1, cells := 0, slots := 0, locals := 21 }) D A C ka mu o sz [.ref (A (j + 18)), .int p0] (f_X0_wordAt ka j p0) ka mu o := by
  refine kMi_of hA (by decide) (Nat.le_of_ble_eq_true rfl) (fun p e s m args below meth c G hr hlocks hP hS ls hl => ?_)
  have hl : lv_has ls 2 [(0, .ref (A (j + 18))), (1, .int p0)] := hl
  refine lv_iload_n G.1 G.2.1 dX0_wordAt_0 rfl (lv_at hl 1 rfl) ?_
  refine lv_if_lt (tgt := 25) G.1 G.2.1 dX0_wordAt_1 (by decide) (fun c_1 => ?_) (fun c_1 => ?_)
  · refine lv_iconst (v := 0) G.1 G.2.1 dX0_wordAt_25 (by decide) ?_
    exact k_iret G hr hlocks hP hS (by rw [f_X0_wordAt, if_pos c_1]) rfl rfl rfl dX0_wordAt_26
  · refine lv_iload_n G.1 G.2.1 dX0_wordAt_4 rfl (lv_at hl 1 rfl) ?_
    refine lv_aload_n G.1 G.2.1 dX0_wordAt_5 rfl (lv_at hl 0 rfl) ?_
    refine k0_geti G hP hj 6 (by decide) (by decide) kq_118 rfl dX0_wordAt_6 ?_
    refine lv_icmp_ge (tgt := 25) G.1 G.2.1 dX0_wordAt_9 (by decide) (fun c_9 => ?_) (fun c_9 => ?_)
    · refine lv_iconst (v := 0) G.1 G.2.1 dX0_wordAt_25 (by decide) ?_
      exact k_iret G hr hlocks hP hS (by rw [f_X0_wordAt, if_neg c_1, if_pos c_9]) rfl rfl rfl dX0_wordAt_26
    · refine lv_aload_n G.1 G.2.1 dX0_wordAt_12 rfl (lv_at hl 0 rfl) ?_
      refine k0_getr G hP hj kq_109 dX0_wordAt_13 ?_
      refine lv_aload_n G.1 G.2.1 dX0_wordAt_16 rfl (lv_at hl 0 rfl) ?_
      refine lv_iload_n G.1 G.2.1 dX0_wordAt_17 rfl (lv_at hl 1 rfl) ?_
      refine k_Vi (As := [.int p0]) (rest := [.ref (A (j + 26))]) G hP hS hl.1 kl_X0_39 yk_X0_spotOf (c_X0_spotOf l D A C _ _ _ _ G.2.2.2.2.2.2 j hj p0 ) (kr0 G hP hj) (by decide) (by decide) rfl (Nat.le_of_ble_eq_true rfl) dX0_wordAt_18 (fun H locs hP hS => ?_)
      refine kK_ald (r := j + 26) G hP (kI_W hj) (by omega) (kin_and7 _) dX0_wordAt_21 ?_
      refine lv_goto (tgt := 26) G.1 G.2.1 dX0_wordAt_22 (by decide) ?_
      exact k_iret G hr hlocks hP hS (by rw [f_X0_wordAt, if_neg c_1, if_neg c_9]) rfl rfl rfl dX0_wordAt_26
/-! X0_age -/
def f_X0_age (ka : kM) (j : Nat) (p0 : Int32) : Int32 :=
  if (f_X0_isSlot ka j) = 0 then 0 else if (ka (j + 18) 6) ≤ 0 then 0 else (if 1000000 < (p0 - (ka (j + 18) 7)) then 1000000 else p0 - (ka (j + 18) 7))
set_option maxHeartbeats 4000000 in
set_option maxRecDepth 100000 in
theorem c_X0_age (l : Launch) (D : va_G) (A : Nat → Nat) (C : Nat → ClassId) (ka mu : kM) (o : Int32) (sz : Nat) (hA : kinj A) (j : Nat) (hj : j < 8) (p0 : Int32) : kMi l yX0_age (.code yX0_age cX0_age 2 (some .int)) ({ frames := 2, cells := 0, slots := 0, locals := 41 }) D A C ka mu o sz [.ref (A (j + 18)), .int p0] (f_X0_age ka j p0) ka mu o := by
  refine kMi_of hA (by decide) (Nat.le_of_ble_eq_true rfl) (fun p e s m args below meth c G hr hlocks hP hS ls hl => ?_)
  have hl : lv_has ls 2 [(0, .ref (A (j + 18))), (1, .int p0)] := hl
  refine lv_aload_n G.1 G.2.1 dX0_age_0 rfl (lv_at hl 0 rfl) ?_
  refine k_Vi (As := []) (rest := []) G hP hS hl.1 kl_X0_29 yk_X0_isSlot (c_X0_isSlot l D A C _ _ _ _ G.2.2.2.2.2.2 j hj ) (kr0 G hP hj) (by decide) (by decide) rfl (Nat.le_of_ble_eq_true rfl) dX0_age_1 (fun H locs hP hS => ?_)
  refine lv_if_eq (tgt := 28) G.1 G.2.1 dX0_age_4 (by decide) (fun c_4 => ?_) (fun c_4 => ?_)
  · refine lv_iconst (v := 0) G.1 G.2.1 dX0_age_28 (by decide) ?_
    exact k_iret G hr hlocks hP hS (by rw [f_X0_age, if_pos c_4]) rfl rfl rfl dX0_age_29
  · refine lv_aload_n G.1 G.2.1 dX0_age_7 rfl (lv_at hl 0 rfl) ?_
    refine k0_geti G hP hj 6 (by decide) (by decide) kq_118 rfl dX0_age_8 ?_
    refine lv_if_le (tgt := 28) G.1 G.2.1 dX0_age_11 (by decide) (fun c_11 => ?_) (fun c_11 => ?_)
    · refine lv_iconst (v := 0) G.1 G.2.1 dX0_age_28 (by decide) ?_
      exact k_iret G hr hlocks hP hS (by rw [f_X0_age, if_neg c_4, if_pos c_11]) rfl rfl rfl dX0_age_29
    · refine lv_iload_n G.1 G.2.1 dX0_age_14 rfl (lv_at hl 1 rfl) ?_
      refine lv_aload_n G.1 G.2.1 dX0_age_15 rfl (lv_at hl 0 rfl) ?_
      refine k0_geti G hP hj 7 (by decide) (by decide) kq_120 rfl dX0_age_16 ?_
      refine lv_isub G.1 G.2.1 dX0_age_19 ?_
      refine lv_ldc (v := 1000000) G.1 G.2.1 G.2.2.2.1 (G.2.2.2.2.1 _ kq_447) dX0_age_20 ?_
      refine va_mmin G.1 G.2.1 (G.2.2.1.trans hl.1.symm) G.2.2.2.1 (G.2.2.2.2.1 _ kq_448) (G.2.2.2.2.1 _ kq_449) (G.2.2.2.2.1 _ kq_48) (G.2.2.2.2.1 _ kq_450) (by decide) (Nat.le_of_ble_eq_true rfl) (by decide) (by decide) dX0_age_22 ?_
      refine lv_goto (tgt := 29) G.1 G.2.1 dX0_age_25 (by decide) ?_
      exact k_iret G hr hlocks hP hS (by rw [f_X0_age, if_neg c_4, if_neg c_11]) rfl rfl rfl dX0_age_29
/-! X0_report -/
def f_X0_report (ka : kM) (j : Nat) (p0 : Int32) (p1 : Int32) : Int32 :=
  if p0 = 0 then (ka (j + 18) 6) else if p0 = 1 then (f_X0_wordAt ka j 0) else if p0 = 2 then (f_X0_age ka j p1) else if p0 = 3 then (ka (j + 18) 8) else (ka (j + 18) 9)
set_option maxHeartbeats 4000000 in
set_option maxRecDepth 100000 in
theorem c_X0_report (l : Launch) (D : va_G) (A : Nat → Nat) (C : Nat → ClassId) (ka mu : kM) (o : Int32) (sz : Nat) (hA : kinj A) (j : Nat) (hj : j < 8) (p0 : Int32) (p1 : Int32) : kMi l yX0_report (.code yX0_report cX0_report 3 (some .int)) ({ frames := 3, cells := 0, slots := 0, locals := 62 }) D A C ka mu o sz [.ref (A (j + 18)), .int p0, .int p1] (f_X0_report ka j p0 p1) ka mu o := by
  refine kMi_of hA (by decide) (Nat.le_of_ble_eq_true rfl) (fun p e s m args below meth c G hr hlocks hP hS ls hl => ?_)
  have hl : lv_has ls 3 [(0, .ref (A (j + 18))), (1, .int p0), (2, .int p1)] := hl
  refine lv_iload_n G.1 G.2.1 dX0_report_0 rfl (lv_at hl 1 rfl) ?_
  by_cases c_1_0 : p0 = 0
  · refine lv_tableIn (tgt := 32) G.1 G.2.1 dX0_report_1 (by rw [c_1_0]; decide) (by rw [c_1_0]; decide) (by rw [c_1_0]; rfl) (by decide) ?_
    refine lv_aload_n G.1 G.2.1 dX0_report_32 rfl (lv_at hl 0 rfl) ?_
    refine k0_geti G hP hj 6 (by decide) (by decide) kq_118 rfl dX0_report_33 ?_
    exact k_iret G hr hlocks hP hS (by rw [f_X0_report, if_pos c_1_0]) rfl rfl rfl dX0_report_36
  · by_cases c_1_1 : p0 = 1
    · refine lv_tableIn (tgt := 37) G.1 G.2.1 dX0_report_1 (by rw [c_1_1]; decide) (by rw [c_1_1]; decide) (by rw [c_1_1]; rfl) (by decide) ?_
      refine lv_aload_n G.1 G.2.1 dX0_report_37 rfl (lv_at hl 0 rfl) ?_
      refine lv_iconst (v := 0) G.1 G.2.1 dX0_report_38 (by decide) ?_
      refine k_Vi (As := [.int 0]) (rest := []) G hP hS hl.1 kl_X0_59 yk_X0_wordAt (c_X0_wordAt l D A C _ _ _ _ G.2.2.2.2.2.2 j hj 0 ) (kr0 G hP hj) (by decide) (by decide) rfl (Nat.le_of_ble_eq_true rfl) dX0_report_39 (fun H locs hP hS => ?_)
      exact k_iret G hr hlocks hP hS (by rw [f_X0_report, if_neg c_1_0, if_pos c_1_1]) rfl rfl rfl dX0_report_42
    · by_cases c_1_2 : p0 = 2
      · refine lv_tableIn (tgt := 43) G.1 G.2.1 dX0_report_1 (by rw [c_1_2]; decide) (by rw [c_1_2]; decide) (by rw [c_1_2]; rfl) (by decide) ?_
        refine lv_aload_n G.1 G.2.1 dX0_report_43 rfl (lv_at hl 0 rfl) ?_
        refine lv_iload_n G.1 G.2.1 dX0_report_44 rfl (lv_at hl 2 rfl) ?_
        refine k_Vi (As := [.int p1]) (rest := []) G hP hS hl.1 kl_X0_62 yk_X0_age (c_X0_age l D A C _ _ _ _ G.2.2.2.2.2.2 j hj p1 ) (kr0 G hP hj) (by decide) (by decide) rfl (Nat.le_of_ble_eq_true rfl) dX0_report_45 (fun H locs hP hS => ?_)
        exact k_iret G hr hlocks hP hS (by rw [f_X0_report, if_neg c_1_0, if_neg c_1_1, if_pos c_1_2]) rfl rfl rfl dX0_report_48
      · by_cases c_1_3 : p0 = 3
        · refine lv_tableIn (tgt := 49) G.1 G.2.1 dX0_report_1 (by rw [c_1_3]; decide) (by rw [c_1_3]; decide) (by rw [c_1_3]; rfl) (by decide) ?_
          refine lv_aload_n G.1 G.2.1 dX0_report_49 rfl (lv_at hl 0 rfl) ?_
          refine k0_geti G hP hj 8 (by decide) (by decide) kq_121 rfl dX0_report_50 ?_
          exact k_iret G hr hlocks hP hS (by rw [f_X0_report, if_neg c_1_0, if_neg c_1_1, if_neg c_1_2, if_pos c_1_3]) rfl rfl rfl dX0_report_53
        · refine lv_tableOut (tgt := 54) G.1 G.2.1 dX0_report_1 (by have q0 := lv_neT c_1_0 (a := 0) (by decide); have q1 := lv_neT c_1_1 (a := 1) (by decide); have q2 := lv_neT c_1_2 (a := 2) (by decide); have q3 := lv_neT c_1_3 (a := 3) (by decide); omega) (by decide) ?_
          refine lv_aload_n G.1 G.2.1 dX0_report_54 rfl (lv_at hl 0 rfl) ?_
          refine k0_geti G hP hj 9 (by decide) (by decide) kq_122 rfl dX0_report_55 ?_
          exact k_iret G hr hlocks hP hS (by rw [f_X0_report, if_neg c_1_0, if_neg c_1_1, if_neg c_1_2, if_neg c_1_3]) rfl rfl rfl dX0_report_58
