/-! X3_thrown -/
def f_X3_thrown (mu : kM) : Int32 :=
  (mu 34 0)
set_option maxHeartbeats 4000000 in
set_option maxRecDepth 100000 in
theorem c_X3_thrown (l : Launch) (D : va_G) (A : Nat → Nat) (C : Nat → ClassId) (ka mu : kM) (o : Int32) (sz : Nat) (hA : kinj A)  : kMi l yX3_thrown (.code yX3_thrown cX3_thrown 1 (some .int)) ({ frames := 0, cells := 0, slots := 0, locals := 0 }) D A C ka mu o sz [.ref (A 34)] (f_X3_thrown mu) ka mu o := by
  refine kMi_of hA (by decide) (Nat.le_of_ble_eq_true rfl) (fun p e s m args below meth c G hr hlocks hP hS ls hl => ?_)
  have hl : lv_has ls 1 [(0, .ref (A 34))] := hl
  refine lv_aload_n G.1 G.2.1 dX3_thrown_0 rfl (lv_at hl 0 rfl) ?_
  refine k3_geti G hP 0 (by unfold k3i; decide) (by decide) kq_509 rfl dX3_thrown_1 ?_
  exact k_iret G hr hlocks hP hS (by rw [f_X3_thrown]) rfl rfl rfl dX3_thrown_4
/-! X3_isTold -/
def f_X3_isTold (mu : kM) (p0 : Int32) : Int32 :=
  if p0 < 0 then 0 else if (6 : Int32) ≤ p0 then 0 else if (mu 39 p0.toNatClampNeg) ≤ 0 then 0 else 1
set_option maxHeartbeats 4000000 in
set_option maxRecDepth 100000 in
theorem c_X3_isTold (l : Launch) (D : va_G) (A : Nat → Nat) (C : Nat → ClassId) (ka mu : kM) (o : Int32) (sz : Nat) (hA : kinj A) (p0 : Int32) : kMi l yX3_isTold (.code yX3_isTold cX3_isTold 2 (some .boolean)) ({ frames := 0, cells := 0, slots := 0, locals := 0 }) D A C ka mu o sz [.ref (A 34), .int p0] (f_X3_isTold mu p0) ka mu o := by
  refine kMi_of hA (by decide) (Nat.le_of_ble_eq_true rfl) (fun p e s m args below meth c G hr hlocks hP hS ls hl => ?_)
  have hl : lv_has ls 2 [(0, .ref (A 34)), (1, .int p0)] := hl
  refine lv_iload_n G.1 G.2.1 dX3_isTold_0 rfl (lv_at hl 1 rfl) ?_
  refine lv_if_lt (tgt := 23) G.1 G.2.1 dX3_isTold_1 (by decide) (fun c_1 => ?_) (fun c_1 => ?_)
  · refine lv_iconst (v := 0) G.1 G.2.1 dX3_isTold_23 (by decide) ?_
    exact k_zret G hr hlocks hP hS (by decide) (by rw [f_X3_isTold, if_pos c_1]) rfl rfl rfl dX3_isTold_24
  · refine lv_iload_n G.1 G.2.1 dX3_isTold_4 rfl (lv_at hl 1 rfl) ?_
    refine lv_bipush (v := 6) G.1 G.2.1 dX3_isTold_5 (by decide) ?_
    refine lv_icmp_ge (tgt := 23) G.1 G.2.1 dX3_isTold_7 (by decide) (fun c_7 => ?_) (fun c_7 => ?_)
    · refine lv_iconst (v := 0) G.1 G.2.1 dX3_isTold_23 (by decide) ?_
      exact k_zret G hr hlocks hP hS (by decide) (by rw [f_X3_isTold, if_neg c_1, if_pos c_7]) rfl rfl rfl dX3_isTold_24
    · refine lv_aload_n G.1 G.2.1 dX3_isTold_10 rfl (lv_at hl 0 rfl) ?_
      refine k3_getr G hP 5 39 (by decide) (fun _ _ => rfl) kq_514 rfl dX3_isTold_11 ?_
      refine lv_iload_n G.1 G.2.1 dX3_isTold_14 rfl (lv_at hl 1 rfl) ?_
      refine kM_ald (r := 39) G hP kI_39 (by decide) (kin_of (n := 6) (by decide) c_1 c_7) dX3_isTold_15 ?_
      refine lv_if_le (tgt := 23) G.1 G.2.1 dX3_isTold_16 (by decide) (fun c_16 => ?_) (fun c_16 => ?_)
      · refine lv_iconst (v := 0) G.1 G.2.1 dX3_isTold_23 (by decide) ?_
        exact k_zret G hr hlocks hP hS (by decide) (by rw [f_X3_isTold, if_neg c_1, if_neg c_7, if_pos c_16]) rfl rfl rfl dX3_isTold_24
      · refine lv_iconst (v := 1) G.1 G.2.1 dX3_isTold_19 (by decide) ?_
        refine lv_goto (tgt := 24) G.1 G.2.1 dX3_isTold_20 (by decide) ?_
        exact k_zret G hr hlocks hP hS (by decide) (by rw [f_X3_isTold, if_neg c_1, if_neg c_7, if_neg c_16]) rfl rfl rfl dX3_isTold_24
/-! X3_noWord -/
def f_X3_noWord (mu : kM) (p0 : Int32) (p1 : Int32) : Int32 :=
  if p1 < 0 then 1 else if p1 < (mu 37 p0.toNatClampNeg) then 0 else 1
set_option maxHeartbeats 4000000 in
set_option maxRecDepth 100000 in
theorem c_X3_noWord (l : Launch) (D : va_G) (A : Nat → Nat) (C : Nat → ClassId) (ka mu : kM) (o : Int32) (sz : Nat) (hA : kinj A) (p0 : Int32) (p1 : Int32) (hp : vp_in p0 6) : kMi l yX3_noWord (.code yX3_noWord cX3_noWord 3 (some .boolean)) ({ frames := 0, cells := 0, slots := 0, locals := 0 }) D A C ka mu o sz [.ref (A 34), .int p0, .int p1] (f_X3_noWord mu p0 p1) ka mu o := by
  refine kMi_of hA (by decide) (Nat.le_of_ble_eq_true rfl) (fun p e s m args below meth c G hr hlocks hP hS ls hl => ?_)
  have hl : lv_has ls 3 [(0, .ref (A 34)), (1, .int p0), (2, .int p1)] := hl
  refine lv_iload_n G.1 G.2.1 dX3_noWord_0 rfl (lv_at hl 2 rfl) ?_
  refine lv_if_lt (tgt := 14) G.1 G.2.1 dX3_noWord_1 (by decide) (fun c_1 => ?_) (fun c_1 => ?_)
  · refine lv_iconst (v := 1) G.1 G.2.1 dX3_noWord_14 (by decide) ?_
    refine lv_goto (tgt := 19) G.1 G.2.1 dX3_noWord_15 (by decide) ?_
    exact k_zret G hr hlocks hP hS (by decide) (by rw [f_X3_noWord, if_pos c_1]) rfl rfl rfl dX3_noWord_19
  · refine lv_iload_n G.1 G.2.1 dX3_noWord_4 rfl (lv_at hl 2 rfl) ?_
    refine lv_aload_n G.1 G.2.1 dX3_noWord_5 rfl (lv_at hl 0 rfl) ?_
    refine k3_getr G hP 3 37 (by decide) (fun _ _ => rfl) kq_512 rfl dX3_noWord_6 ?_
    refine lv_iload_n G.1 G.2.1 dX3_noWord_9 rfl (lv_at hl 1 rfl) ?_
    refine kM_ald (r := 37) G hP kI_37 (by decide) hp dX3_noWord_10 ?_
    refine lv_icmp_lt (tgt := 18) G.1 G.2.1 dX3_noWord_11 (by decide) (fun c_11 => ?_) (fun c_11 => ?_)
    · refine lv_iconst (v := 0) G.1 G.2.1 dX3_noWord_18 (by decide) ?_
      exact k_zret G hr hlocks hP hS (by decide) (by rw [f_X3_noWord, if_neg c_1, if_pos c_11]) rfl rfl rfl dX3_noWord_19
    · refine lv_iconst (v := 1) G.1 G.2.1 dX3_noWord_14 (by decide) ?_
      refine lv_goto (tgt := 19) G.1 G.2.1 dX3_noWord_15 (by decide) ?_
      exact k_zret G hr hlocks hP hS (by decide) (by rw [f_X3_noWord, if_neg c_1, if_neg c_11]) rfl rfl rfl dX3_noWord_19
/-! X3_noChannel -/
def f_X3_noChannel (mu : kM) (p0 : Int32) : Int32 :=
  if p0 < 0 then 1 else if (7 : Int32) < p0 then 1 else if (mu 48 p0.toNatClampNeg) = 0 then 1 else 0
set_option maxHeartbeats 4000000 in
set_option maxRecDepth 100000 in
theorem c_X3_noChannel (l : Launch) (D : va_G) (A : Nat → Nat) (C : Nat → ClassId) (ka mu : kM) (o : Int32) (sz : Nat) (hA : kinj A) (p0 : Int32) : kMi l yX3_noChannel (.code yX3_noChannel cX3_noChannel 2 (some .boolean)) ({ frames := 0, cells := 0, slots := 0, locals := 0 }) D A C ka mu o sz [.ref (A 34), .int p0] (f_X3_noChannel mu p0) ka mu o := by
  refine kMi_of hA (by decide) (Nat.le_of_ble_eq_true rfl) (fun p e s m args below meth c G hr hlocks hP hS ls hl => ?_)
  have hl : lv_has ls 2 [(0, .ref (A 34)), (1, .int p0)] := hl
  refine lv_iload_n G.1 G.2.1 dX3_noChannel_0 rfl (lv_at hl 1 rfl) ?_
  refine lv_if_lt (tgt := 19) G.1 G.2.1 dX3_noChannel_1 (by decide) (fun c_1 => ?_) (fun c_1 => ?_)
  · refine lv_iconst (v := 1) G.1 G.2.1 dX3_noChannel_19 (by decide) ?_
    refine lv_goto (tgt := 24) G.1 G.2.1 dX3_noChannel_20 (by decide) ?_
    exact k_zret G hr hlocks hP hS (by decide) (by rw [f_X3_noChannel, if_pos c_1]) rfl rfl rfl dX3_noChannel_24
  · refine lv_iload_n G.1 G.2.1 dX3_noChannel_4 rfl (lv_at hl 1 rfl) ?_
    refine lv_bipush (v := 7) G.1 G.2.1 dX3_noChannel_5 (by decide) ?_
    refine lv_icmp_gt (tgt := 19) G.1 G.2.1 dX3_noChannel_7 (by decide) (fun c_7 => ?_) (fun c_7 => ?_)
    · refine lv_iconst (v := 1) G.1 G.2.1 dX3_noChannel_19 (by decide) ?_
      refine lv_goto (tgt := 24) G.1 G.2.1 dX3_noChannel_20 (by decide) ?_
      exact k_zret G hr hlocks hP hS (by decide) (by rw [f_X3_noChannel, if_neg c_1, if_pos c_7]) rfl rfl rfl dX3_noChannel_24
    · refine lv_aload_n G.1 G.2.1 dX3_noChannel_10 rfl (lv_at hl 0 rfl) ?_
      refine k3_getr G hP 15 48 (by decide) (fun _ _ => rfl) kq_524 rfl dX3_noChannel_11 ?_
      refine lv_iload_n G.1 G.2.1 dX3_noChannel_14 rfl (lv_at hl 1 rfl) ?_
      refine kZ_ald G hP (kin_le (n := 8) (by decide) c_1 c_7) dX3_noChannel_15 ?_
      refine lv_if_ne (tgt := 23) G.1 G.2.1 dX3_noChannel_16 (by decide) (fun c_16 => ?_) (fun c_16 => ?_)
      · refine lv_iconst (v := 0) G.1 G.2.1 dX3_noChannel_23 (by decide) ?_
        exact k_zret G hr hlocks hP hS (by decide) (by rw [f_X3_noChannel, if_neg c_1, if_neg c_7, if_neg c_16]) rfl rfl rfl dX3_noChannel_24
      · refine lv_iconst (v := 1) G.1 G.2.1 dX3_noChannel_19 (by decide) ?_
        refine lv_goto (tgt := 24) G.1 G.2.1 dX3_noChannel_20 (by decide) ?_
        exact k_zret G hr hlocks hP hS (by decide) (by rw [f_X3_noChannel, if_neg c_1, if_neg c_7, if_pos c_16]) rfl rfl rfl dX3_noChannel_24
/-! X3_ticks -/
def f_X3_ticks (mu : kM) : Int32 × kM :=
  ((kup mu 34 0 0) 34 28, kup mu 34 0 0)
set_option maxHeartbeats 4000000 in
set_option maxRecDepth 100000 in
theorem c_X3_ticks (l : Launch) (D : va_G) (A : Nat → Nat) (C : Nat → ClassId) (ka mu : kM) (o : Int32) (sz : Nat) (hA : kinj A)  : kMi l yX3_ticks (.code yX3_ticks cX3_ticks 1 (some .int)) ({ frames := 0, cells := 0, slots := 0, locals := 0 }) D A C ka mu o sz [.ref (A 34)] ((f_X3_ticks mu).1) ka ((f_X3_ticks mu).2) o := by
  refine kMi_of hA (by decide) (Nat.le_of_ble_eq_true rfl) (fun p e s m args below meth c G hr hlocks hP hS ls hl => ?_)
  have hl : lv_has ls 1 [(0, .ref (A 34))] := hl
  refine lv_aload_n G.1 G.2.1 dX3_ticks_0 rfl (lv_at hl 0 rfl) ?_
  refine lv_iconst (v := 0) G.1 G.2.1 dX3_ticks_1 (by decide) ?_
  refine k3_puti G hP hS 0 (by unfold k3i; decide) (by decide) kq_509 rfl rfl rfl rfl dX3_ticks_2 (fun H locs hP hS => ?_)
  refine lv_aload_n G.1 G.2.1 dX3_ticks_5 rfl (lv_at hl 0 rfl) ?_
  refine k3_geti G hP 28 (by unfold k3i; decide) (by decide) kq_537 rfl dX3_ticks_6 ?_
  exact k_iret G hr hlocks hP hS (by rw [f_X3_ticks]) rfl (by rw [f_X3_ticks]) rfl dX3_ticks_9
