/-! J7_fill_53178 -/
def f_J7_fill_53178 (ka : kM) (p0 : Nat) (p1 : Int32) : kM :=
  (kup (kup (kup (kup ka (p0 + 12) (0 : Int32).toNatClampNeg p1) (p0 + 12) (1 : Int32).toNatClampNeg p1) (p0 + 12) (2 : Int32).toNatClampNeg p1) (p0 + 12) (3 : Int32).toNatClampNeg p1)
set_option maxHeartbeats 4000000 in
set_option maxRecDepth 100000 in
theorem c_J7_fill_53178 (l : Launch) (D : va_G) (A : Nat → Nat) (C : Nat → ClassId) (ka mu : kM) (o : Int32) (sz : Nat) (hA : kinj A) (p0 : Nat) (hp0 : p0 < 6) (p1 : Int32) : kMv l yJ7_fill_53178 (.code yJ7_fill_53178 cJ7_fill_53178 4 none) ({ frames := 0, cells := 0, slots := 0, locals := 0 }) D A C ka mu o sz [.ref (A (p0 + 12)), .int p1]  (f_J7_fill_53178 ka p0 p1) mu o := by
  refine kMv_of hA (by decide) (Nat.le_of_ble_eq_true rfl) (fun p e s m args below meth c G hr hlocks hP hS ls hl => ?_)
  have hl : lv_has ls 4 [(0, .ref (A (p0 + 12))), (1, .int p1)] := hl
  refine lv_iconst (v := 0) G.1 G.2.1 dJ7_fill_53178_0 (by decide) ?_
  refine lv_istore_n (lv' := [(2, .int 0), (0, .ref (A (p0 + 12))), (1, .int p1)]) G.1 G.2.1 dJ7_fill_53178_1 rfl hl (by decide) rfl (fun ls hl => ?_)
  refine lv_aload_n G.1 G.2.1 dJ7_fill_53178_2 rfl (lv_at hl 1 rfl) ?_
  refine kK_len (v := 4) (r := p0 + 12) G hP (kI_R hp0) (by omega) (by decide) dJ7_fill_53178_3 ?_
  refine lv_istore_n (lv' := [(3, .int 4), (2, .int 0), (0, .ref (A (p0 + 12))), (1, .int p1)]) G.1 G.2.1 dJ7_fill_53178_4 rfl hl (by decide) rfl (fun ls hl => ?_)
  refine lv_iload_n G.1 G.2.1 dJ7_fill_53178_5 rfl (lv_at hl 1 rfl) ?_
  refine lv_iload_n G.1 G.2.1 dJ7_fill_53178_6 rfl (lv_at hl 0 rfl) ?_
  refine lv_icmp_ge (tgt := 20) G.1 G.2.1 dJ7_fill_53178_7 (by decide) (fun c => absurd c (by decide)) (fun _ => ?_)
  refine lv_aload_n G.1 G.2.1 dJ7_fill_53178_10 rfl (lv_at hl 2 rfl) ?_
  refine lv_iload_n G.1 G.2.1 dJ7_fill_53178_11 rfl (lv_at hl 1 rfl) ?_
  refine lv_iload_n G.1 G.2.1 dJ7_fill_53178_12 rfl (lv_at hl 3 rfl) ?_
  refine kK_ast (r := p0 + 12) G hP hS (kI_R hp0) (by omega) (by unfold vp_in; decide) dJ7_fill_53178_13 (fun H locs hP hS => ?_)
  refine lv_iinc (v := 1) (lv' := [(2, .int 1), (3, .int 4), (0, .ref (A (p0 + 12))), (1, .int p1)]) G.1 G.2.1 dJ7_fill_53178_14 hl (k := 1) rfl (by decide) (by decide) rfl (fun ls hl => ?_)
  refine lv_goto (tgt := 5) G.1 G.2.1 dJ7_fill_53178_17 (by decide) ?_
  refine lv_iload_n G.1 G.2.1 dJ7_fill_53178_5 rfl (lv_at hl 0 rfl) ?_
  refine lv_iload_n G.1 G.2.1 dJ7_fill_53178_6 rfl (lv_at hl 1 rfl) ?_
  refine lv_icmp_ge (tgt := 20) G.1 G.2.1 dJ7_fill_53178_7 (by decide) (fun c => absurd c (by decide)) (fun _ => ?_)
  refine lv_aload_n G.1 G.2.1 dJ7_fill_53178_10 rfl (lv_at hl 2 rfl) ?_
  refine lv_iload_n G.1 G.2.1 dJ7_fill_53178_11 rfl (lv_at hl 0 rfl) ?_
  refine lv_iload_n G.1 G.2.1 dJ7_fill_53178_12 rfl (lv_at hl 3 rfl) ?_
  refine kK_ast (r := p0 + 12) G hP hS (kI_R hp0) (by omega) (by unfold vp_in; decide) dJ7_fill_53178_13 (fun H locs hP hS => ?_)
  refine lv_iinc (v := 2) (lv' := [(2, .int 2), (3, .int 4), (0, .ref (A (p0 + 12))), (1, .int p1)]) G.1 G.2.1 dJ7_fill_53178_14 hl (k := 0) rfl (by decide) (by decide) rfl (fun ls hl => ?_)
  refine lv_goto (tgt := 5) G.1 G.2.1 dJ7_fill_53178_17 (by decide) ?_
  refine lv_iload_n G.1 G.2.1 dJ7_fill_53178_5 rfl (lv_at hl 0 rfl) ?_
  refine lv_iload_n G.1 G.2.1 dJ7_fill_53178_6 rfl (lv_at hl 1 rfl) ?_
  refine lv_icmp_ge (tgt := 20) G.1 G.2.1 dJ7_fill_53178_7 (by decide) (fun c => absurd c (by decide)) (fun _ => ?_)
  refine lv_aload_n G.1 G.2.1 dJ7_fill_53178_10 rfl (lv_at hl 2 rfl) ?_
  refine lv_iload_n G.1 G.2.1 dJ7_fill_53178_11 rfl (lv_at hl 0 rfl) ?_
  refine lv_iload_n G.1 G.2.1 dJ7_fill_53178_12 rfl (lv_at hl 3 rfl) ?_
  refine kK_ast (r := p0 + 12) G hP hS (kI_R hp0) (by omega) (by unfold vp_in; decide) dJ7_fill_53178_13 (fun H locs hP hS => ?_)
  refine lv_iinc (v := 3) (lv' := [(2, .int 3), (3, .int 4), (0, .ref (A (p0 + 12))), (1, .int p1)]) G.1 G.2.1 dJ7_fill_53178_14 hl (k := 0) rfl (by decide) (by decide) rfl (fun ls hl => ?_)
  refine lv_goto (tgt := 5) G.1 G.2.1 dJ7_fill_53178_17 (by decide) ?_
  refine lv_iload_n G.1 G.2.1 dJ7_fill_53178_5 rfl (lv_at hl 0 rfl) ?_
  refine lv_iload_n G.1 G.2.1 dJ7_fill_53178_6 rfl (lv_at hl 1 rfl) ?_
  refine lv_icmp_ge (tgt := 20) G.1 G.2.1 dJ7_fill_53178_7 (by decide) (fun c => absurd c (by decide)) (fun _ => ?_)
  refine lv_aload_n G.1 G.2.1 dJ7_fill_53178_10 rfl (lv_at hl 2 rfl) ?_
  refine lv_iload_n G.1 G.2.1 dJ7_fill_53178_11 rfl (lv_at hl 0 rfl) ?_
  refine lv_iload_n G.1 G.2.1 dJ7_fill_53178_12 rfl (lv_at hl 3 rfl) ?_
  refine kK_ast (r := p0 + 12) G hP hS (kI_R hp0) (by omega) (by unfold vp_in; decide) dJ7_fill_53178_13 (fun H locs hP hS => ?_)
  refine lv_iinc (v := 4) (lv' := [(2, .int 4), (3, .int 4), (0, .ref (A (p0 + 12))), (1, .int p1)]) G.1 G.2.1 dJ7_fill_53178_14 hl (k := 0) rfl (by decide) (by decide) rfl (fun ls hl => ?_)
  refine lv_goto (tgt := 5) G.1 G.2.1 dJ7_fill_53178_17 (by decide) ?_
  refine lv_iload_n G.1 G.2.1 dJ7_fill_53178_5 rfl (lv_at hl 0 rfl) ?_
  refine lv_iload_n G.1 G.2.1 dJ7_fill_53178_6 rfl (lv_at hl 1 rfl) ?_
  refine lv_icmp_ge (tgt := 20) G.1 G.2.1 dJ7_fill_53178_7 (by decide) (fun _ => ?_) (fun c => absurd c (by decide))
  exact k_vret G hr hlocks hP hS (by rw [f_J7_fill_53178]) rfl rfl dJ7_fill_53178_20
/-! X1_tell -/
def f_X1_tell (ka : kM) (j : Nat) (p0 : Int32) (p1 : Int32) (p2 : Int32) (p3 : Int32) : kM :=
  (kup (kup (kup (kup (kup (kup ka (j + 6) 1 1) (j + 6) 2 p0) (j + 6) 3 p1) (j + 6) 4 p2) (j + 6) 5 p2) (j + 6) 7 p3)
set_option maxHeartbeats 4000000 in
set_option maxRecDepth 100000 in
theorem c_X1_tell (l : Launch) (D : va_G) (A : Nat → Nat) (C : Nat → ClassId) (ka mu : kM) (o : Int32) (sz : Nat) (hA : kinj A) (j : Nat) (hj : j < 6) (p0 : Int32) (p1 : Int32) (p2 : Int32) (p3 : Int32) : kMv l yX1_tell (.code yX1_tell cX1_tell 5 none) ({ frames := 0, cells := 0, slots := 0, locals := 0 }) D A C ka mu o sz [.ref (A (j + 6)), .int p0, .int p1, .int p2, .int p3]  (f_X1_tell ka j p0 p1 p2 p3) mu o := by
  refine kMv_of hA (by decide) (Nat.le_of_ble_eq_true rfl) (fun p e s m args below meth c G hr hlocks hP hS ls hl => ?_)
  have hl : lv_has ls 5 [(0, .ref (A (j + 6))), (1, .int p0), (2, .int p1), (3, .int p2), (4, .int p3)] := hl
  refine lv_aload_n G.1 G.2.1 dX1_tell_0 rfl (lv_at hl 0 rfl) ?_
  refine lv_iconst (v := 1) G.1 G.2.1 dX1_tell_1 (by decide) ?_
  refine k1_puti G hP hS hj 1 (by decide) (by decide) kq_67 rfl rfl rfl rfl dX1_tell_2 (fun H locs hP hS => ?_)
  refine lv_aload_n G.1 G.2.1 dX1_tell_5 rfl (lv_at hl 0 rfl) ?_
  refine lv_iload_n G.1 G.2.1 dX1_tell_6 rfl (lv_at hl 1 rfl) ?_
  refine k1_puti G hP hS hj 2 (by decide) (by decide) kq_69 rfl rfl rfl rfl dX1_tell_7 (fun H locs hP hS => ?_)
  refine lv_aload_n G.1 G.2.1 dX1_tell_10 rfl (lv_at hl 0 rfl) ?_
  refine lv_iload_n G.1 G.2.1 dX1_tell_11 rfl (lv_at hl 2 rfl) ?_
  refine k1_puti G hP hS hj 3 (by decide) (by decide) kq_71 rfl rfl rfl rfl dX1_tell_12 (fun H locs hP hS => ?_)
  refine lv_aload_n G.1 G.2.1 dX1_tell_15 rfl (lv_at hl 0 rfl) ?_
  refine lv_iload_n G.1 G.2.1 dX1_tell_16 rfl (lv_at hl 3 rfl) ?_
  refine k1_puti G hP hS hj 4 (by decide) (by decide) kq_72 rfl rfl rfl rfl dX1_tell_17 (fun H locs hP hS => ?_)
  refine lv_aload_n G.1 G.2.1 dX1_tell_20 rfl (lv_at hl 0 rfl) ?_
  refine lv_iload_n G.1 G.2.1 dX1_tell_21 rfl (lv_at hl 3 rfl) ?_
  refine k1_puti G hP hS hj 5 (by decide) (by decide) kq_73 rfl rfl rfl rfl dX1_tell_22 (fun H locs hP hS => ?_)
  refine lv_aload_n G.1 G.2.1 dX1_tell_25 rfl (lv_at hl 0 rfl) ?_
  refine lv_iload G.1 G.2.1 dX1_tell_26 (lv_at hl 4 rfl) ?_
  refine k1_puti G hP hS hj 7 (by decide) (by decide) kq_77 rfl rfl rfl rfl dX1_tell_28 (fun H locs hP hS => ?_)
  exact k_vret G hr hlocks hP hS (by rw [f_X1_tell]) rfl rfl dX1_tell_31
/-! X1_isTold -/
def f_X1_isTold (ka : kM) (j : Nat) : Int32 :=
  if (ka (j + 6) 1) = 0 then 0 else 1
set_option maxHeartbeats 4000000 in
set_option maxRecDepth 100000 in
theorem c_X1_isTold (l : Launch) (D : va_G) (A : Nat → Nat) (C : Nat → ClassId) (ka mu : kM) (o : Int32) (sz : Nat) (hA : kinj A) (j : Nat) (hj : j < 6) : kMi l yX1_isTold (.code yX1_isTold cX1_isTold 1 (some .boolean)) ({ frames := 0, cells := 0, slots := 0, locals := 0 }) D A C ka mu o sz [.ref (A (j + 6))] (f_X1_isTold ka j) ka mu o := by
  refine kMi_of hA (by decide) (Nat.le_of_ble_eq_true rfl) (fun p e s m args below meth c G hr hlocks hP hS ls hl => ?_)
  have hl : lv_has ls 1 [(0, .ref (A (j + 6)))] := hl
  refine lv_aload_n G.1 G.2.1 dX1_isTold_0 rfl (lv_at hl 0 rfl) ?_
  refine k1_geti G hP hj 1 (by decide) (by decide) kq_67 rfl dX1_isTold_1 ?_
  refine lv_if_eq (tgt := 11) G.1 G.2.1 dX1_isTold_4 (by decide) (fun c_4 => ?_) (fun c_4 => ?_)
  · refine lv_iconst (v := 0) G.1 G.2.1 dX1_isTold_11 (by decide) ?_
    exact k_zret G hr hlocks hP hS (by decide) (by rw [f_X1_isTold, if_pos c_4]) rfl rfl rfl dX1_isTold_12
  · refine lv_iconst (v := 1) G.1 G.2.1 dX1_isTold_7 (by decide) ?_
    refine lv_goto (tgt := 12) G.1 G.2.1 dX1_isTold_8 (by decide) ?_
    exact k_zret G hr hlocks hP hS (by decide) (by rw [f_X1_isTold, if_neg c_4]) rfl rfl rfl dX1_isTold_12
/-! X1_holds -/
def f_X1_holds (ka : kM) (j : Nat) (p0 : Int32) : Int32 :=
  if p0 < 0 then 0 else if (ka (j + 6) 3) ≤ p0 then 0 else 1
set_option maxHeartbeats 4000000 in
set_option maxRecDepth 100000 in
theorem c_X1_holds (l : Launch) (D : va_G) (A : Nat → Nat) (C : Nat → ClassId) (ka mu : kM) (o : Int32) (sz : Nat) (hA : kinj A) (j : Nat) (hj : j < 6) (p0 : Int32) : kMi l yX1_holds (.code yX1_holds cX1_holds 2 (some .boolean)) ({ frames := 0, cells := 0, slots := 0, locals := 0 }) D A C ka mu o sz [.ref (A (j + 6)), .int p0] (f_X1_holds ka j p0) ka mu o := by
  refine kMi_of hA (by decide) (Nat.le_of_ble_eq_true rfl) (fun p e s m args below meth c G hr hlocks hP hS ls hl => ?_)
  have hl : lv_has ls 2 [(0, .ref (A (j + 6))), (1, .int p0)] := hl
  refine lv_iload_n G.1 G.2.1 dX1_holds_0 rfl (lv_at hl 1 rfl) ?_
  refine lv_if_lt (tgt := 16) G.1 G.2.1 dX1_holds_1 (by decide) (fun c_1 => ?_) (fun c_1 => ?_)
  · refine lv_iconst (v := 0) G.1 G.2.1 dX1_holds_16 (by decide) ?_
    exact k_zret G hr hlocks hP hS (by decide) (by rw [f_X1_holds, if_pos c_1]) rfl rfl rfl dX1_holds_17
  · refine lv_iload_n G.1 G.2.1 dX1_holds_4 rfl (lv_at hl 1 rfl) ?_
    refine lv_aload_n G.1 G.2.1 dX1_holds_5 rfl (lv_at hl 0 rfl) ?_
    refine k1_geti G hP hj 3 (by decide) (by decide) kq_71 rfl dX1_holds_6 ?_
    refine lv_icmp_ge (tgt := 16) G.1 G.2.1 dX1_holds_9 (by decide) (fun c_9 => ?_) (fun c_9 => ?_)
    · refine lv_iconst (v := 0) G.1 G.2.1 dX1_holds_16 (by decide) ?_
      exact k_zret G hr hlocks hP hS (by decide) (by rw [f_X1_holds, if_neg c_1, if_pos c_9]) rfl rfl rfl dX1_holds_17
    · refine lv_iconst (v := 1) G.1 G.2.1 dX1_holds_12 (by decide) ?_
      refine lv_goto (tgt := 17) G.1 G.2.1 dX1_holds_13 (by decide) ?_
      exact k_zret G hr hlocks hP hS (by decide) (by rw [f_X1_holds, if_neg c_1, if_neg c_9]) rfl rfl rfl dX1_holds_17
/-! X1_meets -/
def f_X1_meets (ka : kM) (j : Nat) (p0 : Int32) (p1 : Int32) : Int32 :=
  if (f_X1_isTold ka j) = 0 then 0 else if ((ka (j + 6) 2) + (ka (j + 6) 3)) ≤ p0 then 0 else if (p0 + p1) ≤ (ka (j + 6) 2) then 0 else 1
set_option maxHeartbeats 4000000 in
set_option maxRecDepth 100000 in
theorem c_X1_meets (l : Launch) (D : va_G) (A : Nat → Nat) (C : Nat → ClassId) (ka mu : kM) (o : Int32) (sz : Nat) (hA : kinj A) (j : Nat) (hj : j < 6) (p0 : Int32) (p1 : Int32) : kMi l yX1_meets (.code yX1_meets cX1_meets 3 (some .boolean)) ({ frames := 1, cells := 0, slots := 0, locals := 20 }) D A C ka mu o sz [.ref (A (j + 6)), .int p0, .int p1] (f_X1_meets ka j p0 p1) ka mu o := by
  refine kMi_of hA (by decide) (Nat.le_of_ble_eq_true rfl) (fun p e s m args below meth c G hr hlocks hP hS ls hl => ?_)
  have hl : lv_has ls 3 [(0, .ref (A (j + 6))), (1, .int p0), (2, .int p1)] := hl
  refine lv_aload_n G.1 G.2.1 dX1_meets_0 rfl (lv_at hl 0 rfl) ?_
  refine k_Vi (As := []) (rest := []) G hP hS hl.1 kl_X1_34 yk_X1_isTold (c_X1_isTold l D A C _ _ _ _ G.2.2.2.2.2.2 j hj ) (kr1 G hP hj) (by decide) (by decide) rfl (Nat.le_of_ble_eq_true rfl) dX1_meets_1 (fun H locs hP hS => ?_)
  refine lv_if_eq (tgt := 34) G.1 G.2.1 dX1_meets_4 (by decide) (fun c_4 => ?_) (fun c_4 => ?_)
  · refine lv_iconst (v := 0) G.1 G.2.1 dX1_meets_34 (by decide) ?_
    exact k_zret G hr hlocks hP hS (by decide) (by rw [f_X1_meets, if_pos c_4]) rfl rfl rfl dX1_meets_35
  · refine lv_iload_n G.1 G.2.1 dX1_meets_7 rfl (lv_at hl 1 rfl) ?_
    refine lv_aload_n G.1 G.2.1 dX1_meets_8 rfl (lv_at hl 0 rfl) ?_
    refine k1_geti G hP hj 2 (by decide) (by decide) kq_69 rfl dX1_meets_9 ?_
    refine lv_aload_n G.1 G.2.1 dX1_meets_12 rfl (lv_at hl 0 rfl) ?_
    refine k1_geti G hP hj 3 (by decide) (by decide) kq_71 rfl dX1_meets_13 ?_
    refine lv_iadd G.1 G.2.1 dX1_meets_16 ?_
    refine lv_icmp_ge (tgt := 34) G.1 G.2.1 dX1_meets_17 (by decide) (fun c_17 => ?_) (fun c_17 => ?_)
    · refine lv_iconst (v := 0) G.1 G.2.1 dX1_meets_34 (by decide) ?_
      exact k_zret G hr hlocks hP hS (by decide) (by rw [f_X1_meets, if_neg c_4, if_pos c_17]) rfl rfl rfl dX1_meets_35
    · refine lv_aload_n G.1 G.2.1 dX1_meets_20 rfl (lv_at hl 0 rfl) ?_
      refine k1_geti G hP hj 2 (by decide) (by decide) kq_69 rfl dX1_meets_21 ?_
      refine lv_iload_n G.1 G.2.1 dX1_meets_24 rfl (lv_at hl 1 rfl) ?_
      refine lv_iload_n G.1 G.2.1 dX1_meets_25 rfl (lv_at hl 2 rfl) ?_
      refine lv_iadd G.1 G.2.1 dX1_meets_26 ?_
      refine lv_icmp_ge (tgt := 34) G.1 G.2.1 dX1_meets_27 (by decide) (fun c_27 => ?_) (fun c_27 => ?_)
      · refine lv_iconst (v := 0) G.1 G.2.1 dX1_meets_34 (by decide) ?_
        exact k_zret G hr hlocks hP hS (by decide) (by rw [f_X1_meets, if_neg c_4, if_neg c_17, if_pos c_27]) rfl rfl rfl dX1_meets_35
      · refine lv_iconst (v := 1) G.1 G.2.1 dX1_meets_30 (by decide) ?_
        refine lv_goto (tgt := 35) G.1 G.2.1 dX1_meets_31 (by decide) ?_
        exact k_zret G hr hlocks hP hS (by decide) (by rw [f_X1_meets, if_neg c_4, if_neg c_17, if_neg c_27]) rfl rfl rfl dX1_meets_35
/-! X1_jumpIf -/
def f_X1_jumpIf (ka : kM) (j : Nat) (p0 : Int32) (p1 : Int32) : kM :=
  if p0 = 0 then ka else (kup ka (j + 6) 5 ((ka (j + 6) 5) + p1))
set_option maxHeartbeats 4000000 in
set_option maxRecDepth 100000 in
theorem c_X1_jumpIf (l : Launch) (D : va_G) (A : Nat → Nat) (C : Nat → ClassId) (ka mu : kM) (o : Int32) (sz : Nat) (hA : kinj A) (j : Nat) (hj : j < 6) (p0 : Int32) (p1 : Int32) : kMv l yX1_jumpIf (.code yX1_jumpIf cX1_jumpIf 3 none) ({ frames := 0, cells := 0, slots := 0, locals := 0 }) D A C ka mu o sz [.ref (A (j + 6)), .int p0, .int p1]  (f_X1_jumpIf ka j p0 p1) mu o := by
  refine kMv_of hA (by decide) (Nat.le_of_ble_eq_true rfl) (fun p e s m args below meth c G hr hlocks hP hS ls hl => ?_)
  have hl : lv_has ls 3 [(0, .ref (A (j + 6))), (1, .int p0), (2, .int p1)] := hl
  refine lv_iload_n G.1 G.2.1 dX1_jumpIf_0 rfl (lv_at hl 1 rfl) ?_
  refine lv_if_eq (tgt := 14) G.1 G.2.1 dX1_jumpIf_1 (by decide) (fun c_1 => ?_) (fun c_1 => ?_)
  · exact k_vret G hr hlocks hP hS (by rw [f_X1_jumpIf, if_pos c_1]) rfl rfl dX1_jumpIf_14
  · refine lv_aload_n G.1 G.2.1 dX1_jumpIf_4 rfl (lv_at hl 0 rfl) ?_
    refine lv_dup G.1 G.2.1 dX1_jumpIf_5 rfl ?_
    refine k1_geti G hP hj 5 (by decide) (by decide) kq_73 rfl dX1_jumpIf_6 ?_
    refine lv_iload_n G.1 G.2.1 dX1_jumpIf_9 rfl (lv_at hl 2 rfl) ?_
    refine lv_iadd G.1 G.2.1 dX1_jumpIf_10 ?_
    refine k1_puti G hP hS hj 5 (by decide) (by decide) kq_73 rfl rfl rfl rfl dX1_jumpIf_11 (fun H locs hP hS => ?_)
    exact k_vret G hr hlocks hP hS (by rw [f_X1_jumpIf, if_neg c_1]) rfl rfl dX1_jumpIf_14
/-! X1_report -/
def f_X1_report (ka : kM) (j : Nat) (p0 : Int32) : Int32 :=
  if p0 = 0 then (ka (j + 6) 1) else if p0 = 1 then (ka (j + 6) 5) else if p0 = 2 then (if p0 < 2 then 0 else if (5 : Int32) < p0 then 0 else (ka (j + 12) (p0 - 2).toNatClampNeg)) else if p0 = 3 then (if p0 < 2 then 0 else if (5 : Int32) < p0 then 0 else (ka (j + 12) (p0 - 2).toNatClampNeg)) else if p0 = 4 then (if p0 < 2 then 0 else if (5 : Int32) < p0 then 0 else (ka (j + 12) (p0 - 2).toNatClampNeg)) else if p0 = 5 then (if p0 < 2 then 0 else if (5 : Int32) < p0 then 0 else (ka (j + 12) (p0 - 2).toNatClampNeg)) else if p0 = 6 then (ka (j + 6) 6) else if p0 = 7 then (ka (j + 6) 7) else if p0 = 8 then (ka (j + 6) 8) else if p0 = 9 then (ka (j + 6) 9) else if p0 < 2 then 0 else if (5 : Int32) < p0 then 0 else (ka (j + 12) (p0 - 2).toNatClampNeg)
set_option maxHeartbeats 4000000 in
set_option maxRecDepth 100000 in
theorem c_X1_report (l : Launch) (D : va_G) (A : Nat → Nat) (C : Nat → ClassId) (ka mu : kM) (o : Int32) (sz : Nat) (hA : kinj A) (j : Nat) (hj : j < 6) (p0 : Int32) : kMi l yX1_report (.code yX1_report cX1_report 2 (some .int)) ({ frames := 0, cells := 0, slots := 0, locals := 0 }) D A C ka mu o sz [.ref (A (j + 6)), .int p0] (f_X1_report ka j p0) ka mu o := by
  refine kMi_of hA (by decide) (Nat.le_of_ble_eq_true rfl) (fun p e s m args below meth c G hr hlocks hP hS ls hl => ?_)
  have hl : lv_has ls 2 [(0, .ref (A (j + 6))), (1, .int p0)] := hl
  refine lv_iload_n G.1 G.2.1 dX1_report_0 rfl (lv_at hl 1 rfl) ?_
  by_cases c_1_0 : p0 = 0
  · refine lv_tableIn (tgt := 56) G.1 G.2.1 dX1_report_1 (by rw [c_1_0]; decide) (by rw [c_1_0]; decide) (by rw [c_1_0]; rfl) (by decide) ?_
    refine lv_aload_n G.1 G.2.1 dX1_report_56 rfl (lv_at hl 0 rfl) ?_
    refine k1_geti G hP hj 1 (by decide) (by decide) kq_67 rfl dX1_report_57 ?_
    exact k_iret G hr hlocks hP hS (by rw [f_X1_report, if_pos c_1_0]) rfl rfl rfl dX1_report_60
  · by_cases c_1_1 : p0 = 1
    · refine lv_tableIn (tgt := 61) G.1 G.2.1 dX1_report_1 (by rw [c_1_1]; decide) (by rw [c_1_1]; decide) (by rw [c_1_1]; rfl) (by decide) ?_
      refine lv_aload_n G.1 G.2.1 dX1_report_61 rfl (lv_at hl 0 rfl) ?_
      refine k1_geti G hP hj 5 (by decide) (by decide) kq_73 rfl dX1_report_62 ?_
      exact k_iret G hr hlocks hP hS (by rw [f_X1_report, if_neg c_1_0, if_pos c_1_1]) rfl rfl rfl dX1_report_65
    · by_cases c_1_2 : p0 = 2
      · refine lv_tableIn (tgt := 86) G.1 G.2.1 dX1_report_1 (by rw [c_1_2]; decide) (by rw [c_1_2]; decide) (by rw [c_1_2]; rfl) (by decide) ?_
        refine lv_iload_n G.1 G.2.1 dX1_report_86 rfl (lv_at hl 1 rfl) ?_
        refine lv_iconst (v := 2) G.1 G.2.1 dX1_report_87 (by decide) ?_
        refine lv_icmp_lt (tgt := 107) G.1 G.2.1 dX1_report_88 (by decide) (fun c_88 => ?_) (fun c_88 => ?_)
        · refine lv_iconst (v := 0) G.1 G.2.1 dX1_report_107 (by decide) ?_
          exact k_iret G hr hlocks hP hS (by rw [f_X1_report, if_neg c_1_0, if_neg c_1_1, if_pos c_1_2, if_pos c_88]) rfl rfl rfl dX1_report_108
        · refine lv_iload_n G.1 G.2.1 dX1_report_91 rfl (lv_at hl 1 rfl) ?_
          refine lv_iconst (v := 5) G.1 G.2.1 dX1_report_92 (by decide) ?_
          refine lv_icmp_gt (tgt := 107) G.1 G.2.1 dX1_report_93 (by decide) (fun c_93 => ?_) (fun c_93 => ?_)
          · refine lv_iconst (v := 0) G.1 G.2.1 dX1_report_107 (by decide) ?_
            exact k_iret G hr hlocks hP hS (by rw [f_X1_report, if_neg c_1_0, if_neg c_1_1, if_pos c_1_2, if_neg c_88, if_pos c_93]) rfl rfl rfl dX1_report_108
          · refine lv_aload_n G.1 G.2.1 dX1_report_96 rfl (lv_at hl 0 rfl) ?_
            refine k1_getr G hP hj kq_65 dX1_report_97 ?_
            refine lv_iload_n G.1 G.2.1 dX1_report_100 rfl (lv_at hl 1 rfl) ?_
            refine lv_iconst (v := 2) G.1 G.2.1 dX1_report_101 (by decide) ?_
            refine lv_isub G.1 G.2.1 dX1_report_102 ?_
            refine kK_ald (r := j + 12) G hP (kI_R hj) (by omega) (kin_report c_88 c_93) dX1_report_103 ?_
            refine lv_goto (tgt := 108) G.1 G.2.1 dX1_report_104 (by decide) ?_
            exact k_iret G hr hlocks hP hS (by rw [f_X1_report, if_neg c_1_0, if_neg c_1_1, if_pos c_1_2, if_neg c_88, if_neg c_93]) rfl rfl rfl dX1_report_108
      · by_cases c_1_3 : p0 = 3
        · refine lv_tableIn (tgt := 86) G.1 G.2.1 dX1_report_1 (by rw [c_1_3]; decide) (by rw [c_1_3]; decide) (by rw [c_1_3]; rfl) (by decide) ?_
          refine lv_iload_n G.1 G.2.1 dX1_report_86 rfl (lv_at hl 1 rfl) ?_
          refine lv_iconst (v := 2) G.1 G.2.1 dX1_report_87 (by decide) ?_
          refine lv_icmp_lt (tgt := 107) G.1 G.2.1 dX1_report_88 (by decide) (fun c_88 => ?_) (fun c_88 => ?_)
          · refine lv_iconst (v := 0) G.1 G.2.1 dX1_report_107 (by decide) ?_
            exact k_iret G hr hlocks hP hS (by rw [f_X1_report, if_neg c_1_0, if_neg c_1_1, if_neg c_1_2, if_pos c_1_3, if_pos c_88]) rfl rfl rfl dX1_report_108
          · refine lv_iload_n G.1 G.2.1 dX1_report_91 rfl (lv_at hl 1 rfl) ?_
            refine lv_iconst (v := 5) G.1 G.2.1 dX1_report_92 (by decide) ?_
            refine lv_icmp_gt (tgt := 107) G.1 G.2.1 dX1_report_93 (by decide) (fun c_93 => ?_) (fun c_93 => ?_)
            · refine lv_iconst (v := 0) G.1 G.2.1 dX1_report_107 (by decide) ?_
              exact k_iret G hr hlocks hP hS (by rw [f_X1_report, if_neg c_1_0, if_neg c_1_1, if_neg c_1_2, if_pos c_1_3, if_neg c_88, if_pos c_93]) rfl rfl rfl dX1_report_108
            · refine lv_aload_n G.1 G.2.1 dX1_report_96 rfl (lv_at hl 0 rfl) ?_
              refine k1_getr G hP hj kq_65 dX1_report_97 ?_
              refine lv_iload_n G.1 G.2.1 dX1_report_100 rfl (lv_at hl 1 rfl) ?_
              refine lv_iconst (v := 2) G.1 G.2.1 dX1_report_101 (by decide) ?_
              refine lv_isub G.1 G.2.1 dX1_report_102 ?_
              refine kK_ald (r := j + 12) G hP (kI_R hj) (by omega) (kin_report c_88 c_93) dX1_report_103 ?_
              refine lv_goto (tgt := 108) G.1 G.2.1 dX1_report_104 (by decide) ?_
              exact k_iret G hr hlocks hP hS (by rw [f_X1_report, if_neg c_1_0, if_neg c_1_1, if_neg c_1_2, if_pos c_1_3, if_neg c_88, if_neg c_93]) rfl rfl rfl dX1_report_108
        · by_cases c_1_4 : p0 = 4
          · refine lv_tableIn (tgt := 86) G.1 G.2.1 dX1_report_1 (by rw [c_1_4]; decide) (by rw [c_1_4]; decide) (by rw [c_1_4]; rfl) (by decide) ?_
            refine lv_iload_n G.1 G.2.1 dX1_report_86 rfl (lv_at hl 1 rfl) ?_
            refine lv_iconst (v := 2) G.1 G.2.1 dX1_report_87 (by decide) ?_
            refine lv_icmp_lt (tgt := 107) G.1 G.2.1 dX1_report_88 (by decide) (fun c_88 => ?_) (fun c_88 => ?_)
            · refine lv_iconst (v := 0) G.1 G.2.1 dX1_report_107 (by decide) ?_
              exact k_iret G hr hlocks hP hS (by rw [f_X1_report, if_neg c_1_0, if_neg c_1_1, if_neg c_1_2, if_neg c_1_3, if_pos c_1_4, if_pos c_88]) rfl rfl rfl dX1_report_108
            · refine lv_iload_n G.1 G.2.1 dX1_report_91 rfl (lv_at hl 1 rfl) ?_
              refine lv_iconst (v := 5) G.1 G.2.1 dX1_report_92 (by decide) ?_
              refine lv_icmp_gt (tgt := 107) G.1 G.2.1 dX1_report_93 (by decide) (fun c_93 => ?_) (fun c_93 => ?_)
              · refine lv_iconst (v := 0) G.1 G.2.1 dX1_report_107 (by decide) ?_
                exact k_iret G hr hlocks hP hS (by rw [f_X1_report, if_neg c_1_0, if_neg c_1_1, if_neg c_1_2, if_neg c_1_3, if_pos c_1_4, if_neg c_88, if_pos c_93]) rfl rfl rfl dX1_report_108
              · refine lv_aload_n G.1 G.2.1 dX1_report_96 rfl (lv_at hl 0 rfl) ?_
                refine k1_getr G hP hj kq_65 dX1_report_97 ?_
                refine lv_iload_n G.1 G.2.1 dX1_report_100 rfl (lv_at hl 1 rfl) ?_
                refine lv_iconst (v := 2) G.1 G.2.1 dX1_report_101 (by decide) ?_
                refine lv_isub G.1 G.2.1 dX1_report_102 ?_
                refine kK_ald (r := j + 12) G hP (kI_R hj) (by omega) (kin_report c_88 c_93) dX1_report_103 ?_
                refine lv_goto (tgt := 108) G.1 G.2.1 dX1_report_104 (by decide) ?_
                exact k_iret G hr hlocks hP hS (by rw [f_X1_report, if_neg c_1_0, if_neg c_1_1, if_neg c_1_2, if_neg c_1_3, if_pos c_1_4, if_neg c_88, if_neg c_93]) rfl rfl rfl dX1_report_108
          · by_cases c_1_5 : p0 = 5
            · refine lv_tableIn (tgt := 86) G.1 G.2.1 dX1_report_1 (by rw [c_1_5]; decide) (by rw [c_1_5]; decide) (by rw [c_1_5]; rfl) (by decide) ?_
              refine lv_iload_n G.1 G.2.1 dX1_report_86 rfl (lv_at hl 1 rfl) ?_
              refine lv_iconst (v := 2) G.1 G.2.1 dX1_report_87 (by decide) ?_
              refine lv_icmp_lt (tgt := 107) G.1 G.2.1 dX1_report_88 (by decide) (fun c_88 => ?_) (fun c_88 => ?_)
              · refine lv_iconst (v := 0) G.1 G.2.1 dX1_report_107 (by decide) ?_
                exact k_iret G hr hlocks hP hS (by rw [f_X1_report, if_neg c_1_0, if_neg c_1_1, if_neg c_1_2, if_neg c_1_3, if_neg c_1_4, if_pos c_1_5, if_pos c_88]) rfl rfl rfl dX1_report_108
              · refine lv_iload_n G.1 G.2.1 dX1_report_91 rfl (lv_at hl 1 rfl) ?_
                refine lv_iconst (v := 5) G.1 G.2.1 dX1_report_92 (by decide) ?_
                refine lv_icmp_gt (tgt := 107) G.1 G.2.1 dX1_report_93 (by decide) (fun c_93 => ?_) (fun c_93 => ?_)
                · refine lv_iconst (v := 0) G.1 G.2.1 dX1_report_107 (by decide) ?_
                  exact k_iret G hr hlocks hP hS (by rw [f_X1_report, if_neg c_1_0, if_neg c_1_1, if_neg c_1_2, if_neg c_1_3, if_neg c_1_4, if_pos c_1_5, if_neg c_88, if_pos c_93]) rfl rfl rfl dX1_report_108
                · refine lv_aload_n G.1 G.2.1 dX1_report_96 rfl (lv_at hl 0 rfl) ?_
                  refine k1_getr G hP hj kq_65 dX1_report_97 ?_
                  refine lv_iload_n G.1 G.2.1 dX1_report_100 rfl (lv_at hl 1 rfl) ?_
                  refine lv_iconst (v := 2) G.1 G.2.1 dX1_report_101 (by decide) ?_
                  refine lv_isub G.1 G.2.1 dX1_report_102 ?_
                  refine kK_ald (r := j + 12) G hP (kI_R hj) (by omega) (kin_report c_88 c_93) dX1_report_103 ?_
                  refine lv_goto (tgt := 108) G.1 G.2.1 dX1_report_104 (by decide) ?_
                  exact k_iret G hr hlocks hP hS (by rw [f_X1_report, if_neg c_1_0, if_neg c_1_1, if_neg c_1_2, if_neg c_1_3, if_neg c_1_4, if_pos c_1_5, if_neg c_88, if_neg c_93]) rfl rfl rfl dX1_report_108
            · by_cases c_1_6 : p0 = 6
              · refine lv_tableIn (tgt := 66) G.1 G.2.1 dX1_report_1 (by rw [c_1_6]; decide) (by rw [c_1_6]; decide) (by rw [c_1_6]; rfl) (by decide) ?_
                refine lv_aload_n G.1 G.2.1 dX1_report_66 rfl (lv_at hl 0 rfl) ?_
                refine k1_geti G hP hj 6 (by decide) (by decide) kq_75 rfl dX1_report_67 ?_
                exact k_iret G hr hlocks hP hS (by rw [f_X1_report, if_neg c_1_0, if_neg c_1_1, if_neg c_1_2, if_neg c_1_3, if_neg c_1_4, if_neg c_1_5, if_pos c_1_6]) rfl rfl rfl dX1_report_70
              · by_cases c_1_7 : p0 = 7
                · refine lv_tableIn (tgt := 71) G.1 G.2.1 dX1_report_1 (by rw [c_1_7]; decide) (by rw [c_1_7]; decide) (by rw [c_1_7]; rfl) (by decide) ?_
                  refine lv_aload_n G.1 G.2.1 dX1_report_71 rfl (lv_at hl 0 rfl) ?_
                  refine k1_geti G hP hj 7 (by decide) (by decide) kq_77 rfl dX1_report_72 ?_
                  exact k_iret G hr hlocks hP hS (by rw [f_X1_report, if_neg c_1_0, if_neg c_1_1, if_neg c_1_2, if_neg c_1_3, if_neg c_1_4, if_neg c_1_5, if_neg c_1_6, if_pos c_1_7]) rfl rfl rfl dX1_report_75
                · by_cases c_1_8 : p0 = 8
                  · refine lv_tableIn (tgt := 76) G.1 G.2.1 dX1_report_1 (by rw [c_1_8]; decide) (by rw [c_1_8]; decide) (by rw [c_1_8]; rfl) (by decide) ?_
                    refine lv_aload_n G.1 G.2.1 dX1_report_76 rfl (lv_at hl 0 rfl) ?_
                    refine k1_geti G hP hj 8 (by decide) (by decide) kq_78 rfl dX1_report_77 ?_
                    exact k_iret G hr hlocks hP hS (by rw [f_X1_report, if_neg c_1_0, if_neg c_1_1, if_neg c_1_2, if_neg c_1_3, if_neg c_1_4, if_neg c_1_5, if_neg c_1_6, if_neg c_1_7, if_pos c_1_8]) rfl rfl rfl dX1_report_80
                  · by_cases c_1_9 : p0 = 9
                    · refine lv_tableIn (tgt := 81) G.1 G.2.1 dX1_report_1 (by rw [c_1_9]; decide) (by rw [c_1_9]; decide) (by rw [c_1_9]; rfl) (by decide) ?_
                      refine lv_aload_n G.1 G.2.1 dX1_report_81 rfl (lv_at hl 0 rfl) ?_
                      refine k1_geti G hP hj 9 (by decide) (by decide) kq_79 rfl dX1_report_82 ?_
                      exact k_iret G hr hlocks hP hS (by rw [f_X1_report, if_neg c_1_0, if_neg c_1_1, if_neg c_1_2, if_neg c_1_3, if_neg c_1_4, if_neg c_1_5, if_neg c_1_6, if_neg c_1_7, if_neg c_1_8, if_pos c_1_9]) rfl rfl rfl dX1_report_85
                    · refine lv_tableOut (tgt := 86) G.1 G.2.1 dX1_report_1 (by have q0 := lv_neT c_1_0 (a := 0) (by decide); have q1 := lv_neT c_1_1 (a := 1) (by decide); have q2 := lv_neT c_1_2 (a := 2) (by decide); have q3 := lv_neT c_1_3 (a := 3) (by decide); have q4 := lv_neT c_1_4 (a := 4) (by decide); have q5 := lv_neT c_1_5 (a := 5) (by decide); have q6 := lv_neT c_1_6 (a := 6) (by decide); have q7 := lv_neT c_1_7 (a := 7) (by decide); have q8 := lv_neT c_1_8 (a := 8) (by decide); have q9 := lv_neT c_1_9 (a := 9) (by decide); omega) (by decide) ?_
                      refine lv_iload_n G.1 G.2.1 dX1_report_86 rfl (lv_at hl 1 rfl) ?_
                      refine lv_iconst (v := 2) G.1 G.2.1 dX1_report_87 (by decide) ?_
                      refine lv_icmp_lt (tgt := 107) G.1 G.2.1 dX1_report_88 (by decide) (fun c_88 => ?_) (fun c_88 => ?_)
                      · refine lv_iconst (v := 0) G.1 G.2.1 dX1_report_107 (by decide) ?_
                        exact k_iret G hr hlocks hP hS (by rw [f_X1_report, if_neg c_1_0, if_neg c_1_1, if_neg c_1_2, if_neg c_1_3, if_neg c_1_4, if_neg c_1_5, if_neg c_1_6, if_neg c_1_7, if_neg c_1_8, if_neg c_1_9, if_pos c_88]) rfl rfl rfl dX1_report_108
                      · refine lv_iload_n G.1 G.2.1 dX1_report_91 rfl (lv_at hl 1 rfl) ?_
                        refine lv_iconst (v := 5) G.1 G.2.1 dX1_report_92 (by decide) ?_
                        refine lv_icmp_gt (tgt := 107) G.1 G.2.1 dX1_report_93 (by decide) (fun c_93 => ?_) (fun c_93 => ?_)
                        · refine lv_iconst (v := 0) G.1 G.2.1 dX1_report_107 (by decide) ?_
                          exact k_iret G hr hlocks hP hS (by rw [f_X1_report, if_neg c_1_0, if_neg c_1_1, if_neg c_1_2, if_neg c_1_3, if_neg c_1_4, if_neg c_1_5, if_neg c_1_6, if_neg c_1_7, if_neg c_1_8, if_neg c_1_9, if_neg c_88, if_pos c_93]) rfl rfl rfl dX1_report_108
                        · refine lv_aload_n G.1 G.2.1 dX1_report_96 rfl (lv_at hl 0 rfl) ?_
                          refine k1_getr G hP hj kq_65 dX1_report_97 ?_
                          refine lv_iload_n G.1 G.2.1 dX1_report_100 rfl (lv_at hl 1 rfl) ?_
                          refine lv_iconst (v := 2) G.1 G.2.1 dX1_report_101 (by decide) ?_
                          refine lv_isub G.1 G.2.1 dX1_report_102 ?_
                          refine kK_ald (r := j + 12) G hP (kI_R hj) (by omega) (kin_report c_88 c_93) dX1_report_103 ?_
                          refine lv_goto (tgt := 108) G.1 G.2.1 dX1_report_104 (by decide) ?_
                          exact k_iret G hr hlocks hP hS (by rw [f_X1_report, if_neg c_1_0, if_neg c_1_1, if_neg c_1_2, if_neg c_1_3, if_neg c_1_4, if_neg c_1_5, if_neg c_1_6, if_neg c_1_7, if_neg c_1_8, if_neg c_1_9, if_neg c_88, if_neg c_93]) rfl rfl rfl dX1_report_108
/-! X1_restartAfter -/
def f_X1_restartAfter (ka : kM) (j : Nat) (p0 : Int32) : Int32 × kM :=
  if ((kup (kup ka (j + 6) 8 p0) (j + 6) 9 (((kup ka (j + 6) 8 p0) (j + 6) 9) + 1)) (j + 6) 7) = 0 then (0, kup (kup (kup ka (j + 6) 8 p0) (j + 6) 9 (((kup ka (j + 6) 8 p0) (j + 6) 9) + 1)) (j + 6) 1 3) else (1, kup (f_J7_fill_53178 (kup (kup (kup ka (j + 6) 8 p0) (j + 6) 9 (((kup ka (j + 6) 8 p0) (j + 6) 9) + 1)) (j + 6) 7 (((kup (kup ka (j + 6) 8 p0) (j + 6) 9 (((kup ka (j + 6) 8 p0) (j + 6) 9) + 1)) (j + 6) 7) - 1)) j 0) (j + 6) 5 ((f_J7_fill_53178 (kup (kup (kup ka (j + 6) 8 p0) (j + 6) 9 (((kup ka (j + 6) 8 p0) (j + 6) 9) + 1)) (j + 6) 7 (((kup (kup ka (j + 6) 8 p0) (j + 6) 9 (((kup ka (j + 6) 8 p0) (j + 6) 9) + 1)) (j + 6) 7) - 1)) j 0) (j + 6) 4))
set_option maxHeartbeats 4000000 in
set_option maxRecDepth 100000 in
theorem c_X1_restartAfter (l : Launch) (D : va_G) (A : Nat → Nat) (C : Nat → ClassId) (ka mu : kM) (o : Int32) (sz : Nat) (hA : kinj A) (j : Nat) (hj : j < 6) (p0 : Int32) : kMi l yX1_restartAfter (.code yX1_restartAfter cX1_restartAfter 2 (some .boolean)) ({ frames := 1, cells := 0, slots := 0, locals := 23 }) D A C ka mu o sz [.ref (A (j + 6)), .int p0] ((f_X1_restartAfter ka j p0).1) ((f_X1_restartAfter ka j p0).2) mu o := by
  refine kMi_of hA (by decide) (Nat.le_of_ble_eq_true rfl) (fun p e s m args below meth c G hr hlocks hP hS ls hl => ?_)
  have hl : lv_has ls 2 [(0, .ref (A (j + 6))), (1, .int p0)] := hl
  refine lv_aload_n G.1 G.2.1 dX1_restartAfter_0 rfl (lv_at hl 0 rfl) ?_
  refine lv_iload_n G.1 G.2.1 dX1_restartAfter_1 rfl (lv_at hl 1 rfl) ?_
  refine k1_puti G hP hS hj 8 (by decide) (by decide) kq_78 rfl rfl rfl rfl dX1_restartAfter_2 (fun H locs hP hS => ?_)
  refine lv_aload_n G.1 G.2.1 dX1_restartAfter_5 rfl (lv_at hl 0 rfl) ?_
  refine lv_dup G.1 G.2.1 dX1_restartAfter_6 rfl ?_
  refine k1_geti G hP hj 9 (by decide) (by decide) kq_79 rfl dX1_restartAfter_7 ?_
  refine lv_iconst (v := 1) G.1 G.2.1 dX1_restartAfter_10 (by decide) ?_
  refine lv_iadd G.1 G.2.1 dX1_restartAfter_11 ?_
  refine k1_puti G hP hS hj 9 (by decide) (by decide) kq_79 rfl rfl rfl rfl dX1_restartAfter_12 (fun H locs hP hS => ?_)
  refine lv_aload_n G.1 G.2.1 dX1_restartAfter_15 rfl (lv_at hl 0 rfl) ?_
  refine k1_geti G hP hj 7 (by decide) (by decide) kq_77 rfl dX1_restartAfter_16 ?_
  refine lv_if_ne (tgt := 29) G.1 G.2.1 dX1_restartAfter_19 (by decide) (fun c_19 => ?_) (fun c_19 => ?_)
  · refine lv_aload_n G.1 G.2.1 dX1_restartAfter_29 rfl (lv_at hl 0 rfl) ?_
    refine lv_dup G.1 G.2.1 dX1_restartAfter_30 rfl ?_
    refine k1_geti G hP hj 7 (by decide) (by decide) kq_77 rfl dX1_restartAfter_31 ?_
    refine lv_iconst (v := 1) G.1 G.2.1 dX1_restartAfter_34 (by decide) ?_
    refine lv_isub G.1 G.2.1 dX1_restartAfter_35 ?_
    refine k1_puti G hP hS hj 7 (by decide) (by decide) kq_77 rfl rfl rfl rfl dX1_restartAfter_36 (fun H locs hP hS => ?_)
    refine lv_aload_n G.1 G.2.1 dX1_restartAfter_39 rfl (lv_at hl 0 rfl) ?_
    refine k1_getr G hP hj kq_65 dX1_restartAfter_40 ?_
    refine lv_iconst (v := 0) G.1 G.2.1 dX1_restartAfter_43 (by decide) ?_
    refine k_Sv (As := [.ref (A (j + 12)), .int 0]) (rest := []) G hP hS hl.1 kl_X1_44 yk_J7_fill_53178 (c_J7_fill_53178 l D A C _ _ _ _ G.2.2.2.2.2.2 j hj 0 )  (by decide) (by decide) rfl (Nat.le_of_ble_eq_true rfl) dX1_restartAfter_44 (fun H locs hP hS => ?_)
    refine lv_aload_n G.1 G.2.1 dX1_restartAfter_47 rfl (lv_at hl 0 rfl) ?_
    refine lv_aload_n G.1 G.2.1 dX1_restartAfter_48 rfl (lv_at hl 0 rfl) ?_
    refine k1_geti G hP hj 4 (by decide) (by decide) kq_72 rfl dX1_restartAfter_49 ?_
    refine k1_puti G hP hS hj 5 (by decide) (by decide) kq_73 rfl rfl rfl rfl dX1_restartAfter_52 (fun H locs hP hS => ?_)
    refine lv_iconst (v := 1) G.1 G.2.1 dX1_restartAfter_55 (by decide) ?_
    exact k_zret G hr hlocks hP hS (by decide) (by rw [f_X1_restartAfter, if_neg c_19]) (by rw [f_X1_restartAfter, if_neg c_19]) rfl rfl dX1_restartAfter_56
  · refine lv_aload_n G.1 G.2.1 dX1_restartAfter_22 rfl (lv_at hl 0 rfl) ?_
    refine lv_iconst (v := 3) G.1 G.2.1 dX1_restartAfter_23 (by decide) ?_
    refine k1_puti G hP hS hj 1 (by decide) (by decide) kq_67 rfl rfl rfl rfl dX1_restartAfter_24 (fun H locs hP hS => ?_)
    refine lv_iconst (v := 0) G.1 G.2.1 dX1_restartAfter_27 (by decide) ?_
    exact k_zret G hr hlocks hP hS (by decide) (by rw [f_X1_restartAfter, if_pos c_19]) (by rw [f_X1_restartAfter, if_pos c_19]) rfl rfl dX1_restartAfter_28
