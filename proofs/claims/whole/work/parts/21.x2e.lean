/-! X2_poke -/
def f_X2_poke (ka : kM) (p0 : Int32) (p1 : Int32) (p2 : Int32) : Nat × Int32 × kM :=
  if f_X2_refuseIfSealed ka = 0 then (if (f_X2_addressOf ka p0 p1).1 = 0 then (0, ka 1 ((f_X2_addressOf ka p0 p1).2).toNatClampNeg, kup ka 1 ((f_X2_addressOf ka p0 p1).2).toNatClampNeg p2) else ((f_X2_addressOf ka p0 p1).1, 0, ka)) else (f_X2_refuseIfSealed ka, 0, ka)
set_option maxHeartbeats 4000000 in
set_option maxRecDepth 100000 in
theorem c_X2_poke (l : Launch) (D : va_G) (A : Nat → Nat) (C : Nat → ClassId) (ka mu : kM) (o : Int32) (sz : Nat) (hA : kinj A) (p0 : Int32) (p1 : Int32) (p2 : Int32) (hl0 : l.stackTraces = false) (hI : kInv ka) : kXi l yX2_poke (.code yX2_poke cX2_poke 6 (some .int)) ({ frames := 8, cells := 3, slots := 18, locals := 138 }) D A C ka mu o sz [.ref (A 0), .int p0, .int p1, .int p2] ((f_X2_poke ka p0 p1 p2).1) ((f_X2_poke ka p0 p1 p2).2.1) ((f_X2_poke ka p0 p1 p2).2.2) mu o := by
  refine kXi_of hA (by decide) (Nat.le_of_ble_eq_true rfl) (fun p e s m args below meth c G hr hlocks hx hP hS ls hl => ?_)
  have hl : lv_has ls 6 [(0, .ref (A 0)), (1, .int p0), (2, .int p1), (3, .int p2)] := hl
  refine lv_aload_n G.1 G.2.1 dX2_poke_0 rfl (lv_at hl 0 rfl) ?_
  refine k_XVv (As := []) (rest := []) G hP hS hl.1 kl_X2_33 yk_X2_refuseIfSealed (c_X2_refuseIfSealed l D A C _ _ _ _ G.2.2.2.2.2.2  hl0 ) (kr2 G hP) (by decide) (by decide) (by decide) rfl (Nat.le_of_ble_eq_true rfl) hx hlocks dX2_poke_1 (fun c_1 => ⟨by rw [f_X2_poke, if_neg c_1], rfl, rfl, rfl⟩) (fun c_1 H locs hP hS => ?_)
  refine lv_aload_n G.1 G.2.1 dX2_poke_4 rfl (lv_at hl 0 rfl) ?_
  refine lv_iload_n G.1 G.2.1 dX2_poke_5 rfl (lv_at hl 1 rfl) ?_
  refine lv_iload_n G.1 G.2.1 dX2_poke_6 rfl (lv_at hl 2 rfl) ?_
  refine k_XVi (As := [.int p0, .int p1]) (rest := []) G hP hS hl.1 kl_X2_85 yk_X2_addressOf (c_X2_addressOf l D A C _ _ _ _ G.2.2.2.2.2.2 p0 p1 hl0 ) (kr2 G hP) (by decide) (by decide) (by decide) rfl (Nat.le_of_ble_eq_true rfl) hx hlocks dX2_poke_7 (fun c_7 => ⟨by rw [f_X2_poke, if_pos c_1, if_neg c_7], rfl, rfl, rfl⟩) (fun c_7 H locs hP hS => ?_)
  refine lv_istore (lv' := [(4, .int ((f_X2_addressOf ka p0 p1).2)), (0, .ref (A 0)), (1, .int p0), (2, .int p1), (3, .int p2)]) G.1 G.2.1 dX2_poke_10 hl (by decide) rfl (fun ls hl => ?_)
  refine lv_aload_n G.1 G.2.1 dX2_poke_12 rfl (lv_at hl 1 rfl) ?_
  refine k2_getr G hP 0 (by decide) kq_144 rfl dX2_poke_13 ?_
  refine lv_iload G.1 G.2.1 dX2_poke_16 (lv_at hl 0 rfl) ?_
  refine kK_ald (r := 1) G hP kI_1 (by omega) (kin_addr hI c_7) dX2_poke_18 ?_
  refine lv_istore (lv' := [(5, .int (ka 1 ((f_X2_addressOf ka p0 p1).2).toNatClampNeg)), (4, .int ((f_X2_addressOf ka p0 p1).2)), (0, .ref (A 0)), (1, .int p0), (2, .int p1), (3, .int p2)]) G.1 G.2.1 dX2_poke_19 hl (by decide) rfl (fun ls hl => ?_)
  refine lv_aload_n G.1 G.2.1 dX2_poke_21 rfl (lv_at hl 2 rfl) ?_
  refine k2_getr G hP 0 (by decide) kq_144 rfl dX2_poke_22 ?_
  refine lv_iload G.1 G.2.1 dX2_poke_25 (lv_at hl 1 rfl) ?_
  refine lv_iload_n G.1 G.2.1 dX2_poke_27 rfl (lv_at hl 5 rfl) ?_
  refine kK_ast (r := 1) G hP hS kI_1 (by omega) (kin_addr hI c_7) dX2_poke_28 (fun H locs hP hS => ?_)
  refine lv_iload G.1 G.2.1 dX2_poke_29 (lv_at hl 0 rfl) ?_
  refine W.widen (k := 3) (n := 18) (by decide) (by decide) ?_
  exact k_xiret G hr hlocks hP hS (by rw [f_X2_poke, if_pos c_1, if_pos c_7]) (by rw [f_X2_poke, if_pos c_1, if_pos c_7]) (by rw [f_X2_poke, if_pos c_1, if_pos c_7]) rfl rfl dX2_poke_31
/-! X2_peek -/
def f_X2_peek (ka : kM) (p0 : Int32) (p1 : Int32) : Nat × Int32 :=
  if (f_X2_addressOf ka p0 p1).1 = 0 then (0, ka 1 ((f_X2_addressOf ka p0 p1).2).toNatClampNeg) else ((f_X2_addressOf ka p0 p1).1, 0)
set_option maxHeartbeats 4000000 in
set_option maxRecDepth 100000 in
theorem c_X2_peek (l : Launch) (D : va_G) (A : Nat → Nat) (C : Nat → ClassId) (ka mu : kM) (o : Int32) (sz : Nat) (hA : kinj A) (p0 : Int32) (p1 : Int32) (hl0 : l.stackTraces = false) (hI : kInv ka) : kXi l yX2_peek (.code yX2_peek cX2_peek 3 (some .int)) ({ frames := 8, cells := 2, slots := 12, locals := 138 }) D A C ka mu o sz [.ref (A 0), .int p0, .int p1] ((f_X2_peek ka p0 p1).1) ((f_X2_peek ka p0 p1).2) ka mu o := by
  refine kXi_of hA (by decide) (Nat.le_of_ble_eq_true rfl) (fun p e s m args below meth c G hr hlocks hx hP hS ls hl => ?_)
  have hl : lv_has ls 3 [(0, .ref (A 0)), (1, .int p0), (2, .int p1)] := hl
  refine lv_aload_n G.1 G.2.1 dX2_peek_0 rfl (lv_at hl 0 rfl) ?_
  refine k2_getr G hP 0 (by decide) kq_144 rfl dX2_peek_1 ?_
  refine lv_aload_n G.1 G.2.1 dX2_peek_4 rfl (lv_at hl 0 rfl) ?_
  refine lv_iload_n G.1 G.2.1 dX2_peek_5 rfl (lv_at hl 1 rfl) ?_
  refine lv_iload_n G.1 G.2.1 dX2_peek_6 rfl (lv_at hl 2 rfl) ?_
  refine k_XVi (As := [.int p0, .int p1]) (rest := [.ref (A 1)]) G hP hS hl.1 kl_X2_85 yk_X2_addressOf (c_X2_addressOf l D A C _ _ _ _ G.2.2.2.2.2.2 p0 p1 hl0 ) (kr2 G hP) (by decide) (by decide) (by decide) rfl (Nat.le_of_ble_eq_true rfl) hx hlocks dX2_peek_7 (fun c_7 => ⟨by rw [f_X2_peek, if_neg c_7], rfl, rfl, rfl⟩) (fun c_7 H locs hP hS => ?_)
  refine kK_ald (r := 1) G hP kI_1 (by omega) (kin_addr hI c_7) dX2_peek_10 ?_
  refine W.widen (k := 2) (n := 12) (by decide) (by decide) ?_
  exact k_xiret G hr hlocks hP hS (by rw [f_X2_peek, if_pos c_7]) (by rw [f_X2_peek, if_pos c_7]) rfl rfl rfl dX2_peek_11
/-! X2_sharesWord -/
def f_X2_sharesWord_lp (ka : kM) (p0 p1 : Int32) : Nat → Int32 → Int32
  | 0, _ => 0
  | n + 1, i => if f_X1_meets ka i.toNatClampNeg p0 p1 = 0 then f_X2_sharesWord_lp ka p0 p1 n (i + 1) else 1
def f_X2_sharesWord (ka : kM) (p0 p1 : Int32) : Int32 := f_X2_sharesWord_lp ka p0 p1 6 0
set_option maxHeartbeats 4000000 in
set_option maxRecDepth 100000 in
theorem w_X2_sharesWord (l : Launch) (D : va_G) (A : Nat → Nat) (C : Nat → ClassId) (ka mu : kM) (o : Int32) {p : Program} {e : Env} {s : State} {m : MethodId} {args : Array Value} {below : List Frame} {meth : Method} {c : Code} (G : kCtx D A C p s m args c cX2_sharesWord 4 RX2) (hr : meth.sig.returnType = some .boolean) (hlocks : meth.locks = false) (p0 p1 : Int32) :
    ∀ (n : Nat) (i : Int32) (H : Heap) (locs : List Loc) (ls : Array Slot), 0 ≤ i.toInt → i.toInt + n = 6 → kP D A C ka mu o H → kS A s H locs → lv_has ls 4 [(3, .int i), (0, .ref (A 0)), (1, .int p0), (2, .int p1)] → W p l e ({ frames := 2, cells := 0, slots := 0, locals := 42 }) s m args below meth c H locs 0 0 (kZi D A C below args s 0 0 (f_X2_sharesWord_lp ka p0 p1 n i) ka mu o) (F0 m 2 ls []) := by
  intro n
  induction n with
  | zero =>
    intro i H locs ls hi0 hi1 hP hS hl
    refine lv_iload_n G.1 G.2.1 dX2_sharesWord_2 rfl (lv_at hl 0 rfl) ?_
    refine lv_bipush (v := 6) G.1 G.2.1 dX2_sharesWord_3 (by decide) ?_
    refine lv_icmp_ge (tgt := 30) G.1 G.2.1 dX2_sharesWord_5 (by decide) (fun _ => ?_) (fun c => absurd (by rw [ki_le, show (6 : Int32).toInt = 6 from rfl]; omega) c)
    refine lv_iconst (v := 0) G.1 G.2.1 dX2_sharesWord_30 (by decide) ?_
    exact k_zret G hr hlocks hP hS (by decide) (by rw [f_X2_sharesWord_lp]) rfl rfl rfl dX2_sharesWord_31
  | succ n ih =>
    intro i H locs ls hi0 hi1 hP hS hl
    refine lv_iload_n G.1 G.2.1 dX2_sharesWord_2 rfl (lv_at hl 0 rfl) ?_
    refine lv_bipush (v := 6) G.1 G.2.1 dX2_sharesWord_3 (by decide) ?_
    refine lv_icmp_ge (tgt := 30) G.1 G.2.1 dX2_sharesWord_5 (by decide) (fun c => absurd c (by rw [ki_le, show (6 : Int32).toInt = 6 from rfl]; omega)) (fun _ => ?_)
    refine lv_aload_n G.1 G.2.1 dX2_sharesWord_8 rfl (lv_at hl 1 rfl) ?_
    refine k2_getr G hP 1 (by decide) kq_145 rfl dX2_sharesWord_9 ?_
    refine lv_iload_n G.1 G.2.1 dX2_sharesWord_12 rfl (lv_at hl 0 rfl) ?_
    have hin_13 : vp_in i 6 := (by rw [vp_in_iff]; omega)
    refine kP_ald G hP hin_13 dX2_sharesWord_13 ?_
    have hj_13 : i.toNatClampNeg < 6 := kx_lt hin_13
    refine lv_iload_n G.1 G.2.1 dX2_sharesWord_14 rfl (lv_at hl 2 rfl) ?_
    refine lv_iload_n G.1 G.2.1 dX2_sharesWord_15 rfl (lv_at hl 3 rfl) ?_
    refine k_Ni (As := [.int p0, .int p1]) (rest := []) G hP hS hl.1 kl_X2_135 yk_X1_meets (c_X1_meets l D A C _ _ _ _ G.2.2.2.2.2.2 i.toNatClampNeg hj_13 p0 p1 ) (kr1 G hP hj_13) (by decide) (by decide) rfl (Nat.le_of_ble_eq_true rfl) dX2_sharesWord_16 (fun H locs hP hS => ?_)
    refine lv_if_eq (tgt := 24) G.1 G.2.1 dX2_sharesWord_19 (by decide) (fun c_19 => ?_) (fun c_19 => ?_)
    · refine lv_iinc (v := i + 1) (lv' := [(3, .int (i + 1)), (0, .ref (A 0)), (1, .int p0), (2, .int p1)]) G.1 G.2.1 dX2_sharesWord_24 hl (k := 0) rfl rfl (by decide) rfl (fun ls hl => ?_)
      refine lv_goto (tgt := 2) G.1 G.2.1 dX2_sharesWord_27 (by decide) ?_
      rw [show f_X2_sharesWord_lp ka p0 p1 (n + 1) i = f_X2_sharesWord_lp ka p0 p1 n (i + 1) by rw [f_X2_sharesWord_lp, if_pos c_19]]
      have hi2 : (i + 1).toInt = i.toInt + 1 := ki_add1 (by omega)
      exact ih (i + 1) _ _ _ (by omega) (by omega) hP hS (lv_sub hl [0, 1, 2, 3] rfl)
    · refine lv_iconst (v := 1) G.1 G.2.1 dX2_sharesWord_22 (by decide) ?_
      exact k_zret G hr hlocks hP hS (by decide) (by rw [f_X2_sharesWord_lp, if_neg c_19]) rfl rfl rfl dX2_sharesWord_23
set_option maxHeartbeats 4000000 in
set_option maxRecDepth 100000 in
theorem c_X2_sharesWord (l : Launch) (D : va_G) (A : Nat → Nat) (C : Nat → ClassId) (ka mu : kM) (o : Int32) (sz : Nat) (hA : kinj A) (p0 : Int32) (p1 : Int32) : kMi l yX2_sharesWord (.code yX2_sharesWord cX2_sharesWord 4 (some .boolean)) ({ frames := 2, cells := 0, slots := 0, locals := 42 }) D A C ka mu o sz [.ref (A 0), .int p0, .int p1] (f_X2_sharesWord ka p0 p1) ka mu o := by
  refine kMi_of hA (by decide) (Nat.le_of_ble_eq_true rfl) (fun p e s m args below meth c G hr hlocks hP hS ls hl => ?_)
  have hl : lv_has ls 4 [(0, .ref (A 0)), (1, .int p0), (2, .int p1)] := hl
  refine lv_iconst (v := 0) G.1 G.2.1 dX2_sharesWord_0 (by decide) ?_
  refine lv_istore_n (lv' := [(3, .int 0), (0, .ref (A 0)), (1, .int p0), (2, .int p1)]) G.1 G.2.1 dX2_sharesWord_1 rfl hl (by decide) rfl (fun ls hl => ?_)
  exact w_X2_sharesWord l D A C ka mu o G hr hlocks p0 p1 6 0 _ _ _ (by decide) (by decide) hP hS (lv_sub hl [0, 1, 2, 3] rfl)
/-! X2_partition -/
def f_X2_partition (ka : kM) (p0 : Int32) (p1 : Int32) (p2 : Int32) (p3 : Int32) (p4 : Int32) : Nat × kM :=
  if f_X2_refuseIfSealed ka = 0 then (if p0 < 0 then (2, ka) else if (6 : Int32) ≤ p0 then (2, ka) else if (f_X1_isTold ka p0.toNatClampNeg) = 0 then (if (f_X2_isInMemory ka p1 p2) = 0 then (2, ka) else if (f_X2_sharesWord ka p1 p2) = 0 then (if p3 < 0 then (2, ka) else if p2 ≤ p3 then (2, ka) else if p4 < 0 then (2, ka) else if p4 ≤ 100 then (0, f_X1_tell ka p0.toNatClampNeg p1 p2 p3 p4) else (2, ka)) else (2, ka)) else (2, ka)) else (f_X2_refuseIfSealed ka, ka)
set_option maxHeartbeats 4000000 in
set_option maxRecDepth 100000 in
theorem c_X2_partition (l : Launch) (D : va_G) (A : Nat → Nat) (C : Nat → ClassId) (ka mu : kM) (o : Int32) (sz : Nat) (hA : kinj A) (p0 : Int32) (p1 : Int32) (p2 : Int32) (p3 : Int32) (p4 : Int32) (hl0 : l.stackTraces = false) : kXv l yX2_partition (.code yX2_partition cX2_partition 6 none) ({ frames := 7, cells := 2, slots := 12, locals := 115 }) D A C ka mu o sz [.ref (A 0), .int p0, .int p1, .int p2, .int p3, .int p4] ((f_X2_partition ka p0 p1 p2 p3 p4).1) ((f_X2_partition ka p0 p1 p2 p3 p4).2) mu o := by
  refine kXv_of hA (by decide) (Nat.le_of_ble_eq_true rfl) (fun p e s m args below meth c G hr hlocks hx hP hS ls hl => ?_)
  have hl : lv_has ls 6 [(0, .ref (A 0)), (1, .int p0), (2, .int p1), (3, .int p2), (4, .int p3), (5, .int p4)] := hl
  refine lv_aload_n G.1 G.2.1 dX2_partition_0 rfl (lv_at hl 0 rfl) ?_
  refine k_XVv (As := []) (rest := []) G hP hS hl.1 kl_X2_33 yk_X2_refuseIfSealed (c_X2_refuseIfSealed l D A C _ _ _ _ G.2.2.2.2.2.2  hl0 ) (kr2 G hP) (by decide) (by decide) (by decide) rfl (Nat.le_of_ble_eq_true rfl) hx hlocks dX2_partition_1 (fun c_1 => ⟨by rw [f_X2_partition, if_neg c_1], rfl, rfl, rfl⟩) (fun c_1 H locs hP hS => ?_)
  refine lv_iload_n G.1 G.2.1 dX2_partition_4 rfl (lv_at hl 1 rfl) ?_
  refine lv_if_lt (tgt := 26) G.1 G.2.1 dX2_partition_5 (by decide) (fun c_5 => ?_) (fun c_5 => ?_)
  · exact k_throw2 (is := 42) (text := "no such partition, or told already") G hl0 hlocks hP hS hl.1 (by decide +kernel) dX2_partition_26 dX2_partition_29 dX2_partition_30 dX2_partition_32 dX2_partition_35 hx (by decide) (by decide) (by decide) (by decide) (by decide) (by decide) (by rw [f_X2_partition, if_pos c_1, if_pos c_5]) rfl rfl rfl
  · refine lv_iload_n G.1 G.2.1 dX2_partition_8 rfl (lv_at hl 1 rfl) ?_
    refine lv_bipush (v := 6) G.1 G.2.1 dX2_partition_9 (by decide) ?_
    refine lv_icmp_ge (tgt := 26) G.1 G.2.1 dX2_partition_11 (by decide) (fun c_11 => ?_) (fun c_11 => ?_)
    · exact k_throw2 (is := 42) (text := "no such partition, or told already") G hl0 hlocks hP hS hl.1 (by decide +kernel) dX2_partition_26 dX2_partition_29 dX2_partition_30 dX2_partition_32 dX2_partition_35 hx (by decide) (by decide) (by decide) (by decide) (by decide) (by decide) (by rw [f_X2_partition, if_pos c_1, if_neg c_5, if_pos c_11]) rfl rfl rfl
    · refine lv_aload_n G.1 G.2.1 dX2_partition_14 rfl (lv_at hl 0 rfl) ?_
      refine k2_getr G hP 1 (by decide) kq_145 rfl dX2_partition_15 ?_
      refine lv_iload_n G.1 G.2.1 dX2_partition_18 rfl (lv_at hl 1 rfl) ?_
      have hin_19 : vp_in p0 6 := (kin_of (n := 6) (by decide) c_5 c_11)
      refine kP_ald G hP hin_19 dX2_partition_19 ?_
      have hj_19 : p0.toNatClampNeg < 6 := kx_lt hin_19
      refine k_Ni (As := []) (rest := []) G hP hS hl.1 kl_X2_36 yk_X1_isTold (c_X1_isTold l D A C _ _ _ _ G.2.2.2.2.2.2 p0.toNatClampNeg hj_19 ) (kr1 G hP hj_19) (by decide) (by decide) rfl (Nat.le_of_ble_eq_true rfl) dX2_partition_20 (fun H locs hP hS => ?_)
      refine lv_if_eq (tgt := 36) G.1 G.2.1 dX2_partition_23 (by decide) (fun c_23 => ?_) (fun c_23 => ?_)
      · refine lv_iload_n G.1 G.2.1 dX2_partition_36 rfl (lv_at hl 2 rfl) ?_
        refine lv_iload_n G.1 G.2.1 dX2_partition_37 rfl (lv_at hl 3 rfl) ?_
        refine k_Si (As := [.int p1, .int p2]) (rest := []) G hP hS hl.1 kl_X2_47 yk_X2_isInMemory (c_X2_isInMemory l D A C _ _ _ _ G.2.2.2.2.2.2 p1 p2 )  (by decide) (by decide) rfl (Nat.le_of_ble_eq_true rfl) dX2_partition_38 (fun H locs hP hS => ?_)
        refine lv_if_eq (tgt := 53) G.1 G.2.1 dX2_partition_41 (by decide) (fun c_41 => ?_) (fun c_41 => ?_)
        · exact k_throw2 (is := 54) (text := "region not in memory, or not free") G hl0 hlocks hP hS hl.1 (by decide +kernel) dX2_partition_53 dX2_partition_56 dX2_partition_57 dX2_partition_59 dX2_partition_62 hx (by decide) (by decide) (by decide) (by decide) (by decide) (by decide) (by rw [f_X2_partition, if_pos c_1, if_neg c_5, if_neg c_11, if_pos c_23, if_pos c_41]) rfl rfl rfl
        · refine lv_aload_n G.1 G.2.1 dX2_partition_44 rfl (lv_at hl 0 rfl) ?_
          refine lv_iload_n G.1 G.2.1 dX2_partition_45 rfl (lv_at hl 2 rfl) ?_
          refine lv_iload_n G.1 G.2.1 dX2_partition_46 rfl (lv_at hl 3 rfl) ?_
          refine k_Vi (As := [.int p1, .int p2]) (rest := []) G hP hS hl.1 kl_X2_51 yk_X2_sharesWord (c_X2_sharesWord l D A C _ _ _ _ G.2.2.2.2.2.2 p1 p2 ) (kr2 G hP) (by decide) (by decide) rfl (Nat.le_of_ble_eq_true rfl) dX2_partition_47 (fun H locs hP hS => ?_)
          refine lv_if_eq (tgt := 63) G.1 G.2.1 dX2_partition_50 (by decide) (fun c_50 => ?_) (fun c_50 => ?_)
          · refine lv_iload G.1 G.2.1 dX2_partition_63 (lv_at hl 4 rfl) ?_
            refine lv_if_lt (tgt := 86) G.1 G.2.1 dX2_partition_65 (by decide) (fun c_65 => ?_) (fun c_65 => ?_)
            · exact k_throw2 (is := 56) (text := "entry not in the region, or restarts not 0 to 100") G hl0 hlocks hP hS hl.1 (by decide +kernel) dX2_partition_86 dX2_partition_89 dX2_partition_90 dX2_partition_92 dX2_partition_95 hx (by decide) (by decide) (by decide) (by decide) (by decide) (by decide) (by rw [f_X2_partition, if_pos c_1, if_neg c_5, if_neg c_11, if_pos c_23, if_neg c_41, if_pos c_50, if_pos c_65]) rfl rfl rfl
            · refine lv_iload G.1 G.2.1 dX2_partition_68 (lv_at hl 4 rfl) ?_
              refine lv_iload_n G.1 G.2.1 dX2_partition_70 rfl (lv_at hl 3 rfl) ?_
              refine lv_icmp_ge (tgt := 86) G.1 G.2.1 dX2_partition_71 (by decide) (fun c_71 => ?_) (fun c_71 => ?_)
              · exact k_throw2 (is := 56) (text := "entry not in the region, or restarts not 0 to 100") G hl0 hlocks hP hS hl.1 (by decide +kernel) dX2_partition_86 dX2_partition_89 dX2_partition_90 dX2_partition_92 dX2_partition_95 hx (by decide) (by decide) (by decide) (by decide) (by decide) (by decide) (by rw [f_X2_partition, if_pos c_1, if_neg c_5, if_neg c_11, if_pos c_23, if_neg c_41, if_pos c_50, if_neg c_65, if_pos c_71]) rfl rfl rfl
              · refine lv_iload G.1 G.2.1 dX2_partition_74 (lv_at hl 5 rfl) ?_
                refine lv_if_lt (tgt := 86) G.1 G.2.1 dX2_partition_76 (by decide) (fun c_76 => ?_) (fun c_76 => ?_)
                · exact k_throw2 (is := 56) (text := "entry not in the region, or restarts not 0 to 100") G hl0 hlocks hP hS hl.1 (by decide +kernel) dX2_partition_86 dX2_partition_89 dX2_partition_90 dX2_partition_92 dX2_partition_95 hx (by decide) (by decide) (by decide) (by decide) (by decide) (by decide) (by rw [f_X2_partition, if_pos c_1, if_neg c_5, if_neg c_11, if_pos c_23, if_neg c_41, if_pos c_50, if_neg c_65, if_neg c_71, if_pos c_76]) rfl rfl rfl
                · refine lv_iload G.1 G.2.1 dX2_partition_79 (lv_at hl 5 rfl) ?_
                  refine lv_bipush (v := 100) G.1 G.2.1 dX2_partition_81 (by decide) ?_
                  refine lv_icmp_le (tgt := 96) G.1 G.2.1 dX2_partition_83 (by decide) (fun c_83 => ?_) (fun c_83 => ?_)
                  · refine lv_aload_n G.1 G.2.1 dX2_partition_96 rfl (lv_at hl 0 rfl) ?_
                    refine k2_getr G hP 1 (by decide) kq_145 rfl dX2_partition_97 ?_
                    refine lv_iload_n G.1 G.2.1 dX2_partition_100 rfl (lv_at hl 1 rfl) ?_
                    have hin_101 : vp_in p0 6 := (kin_of (n := 6) (by decide) c_5 c_11)
                    refine kP_ald G hP hin_101 dX2_partition_101 ?_
                    have hj_101 : p0.toNatClampNeg < 6 := kx_lt hin_101
                    refine lv_iload_n G.1 G.2.1 dX2_partition_102 rfl (lv_at hl 2 rfl) ?_
                    refine lv_iload_n G.1 G.2.1 dX2_partition_103 rfl (lv_at hl 3 rfl) ?_
                    refine lv_iload G.1 G.2.1 dX2_partition_104 (lv_at hl 4 rfl) ?_
                    refine lv_iload G.1 G.2.1 dX2_partition_106 (lv_at hl 5 rfl) ?_
                    refine k_Nv (As := [.int p1, .int p2, .int p3, .int p4]) (rest := []) G hP hS hl.1 kl_X2_58 yk_X1_tell (c_X1_tell l D A C _ _ _ _ G.2.2.2.2.2.2 p0.toNatClampNeg hj_101 p1 p2 p3 p4 ) (kr1 G hP hj_101) (by decide) (by decide) rfl (Nat.le_of_ble_eq_true rfl) dX2_partition_108 (fun H locs hP hS => ?_)
                    refine W.widen (k := 2) (n := 12) (by decide) (by decide) ?_
                    exact k_xvret G hr hlocks hP hS (by rw [f_X2_partition, if_pos c_1, if_neg c_5, if_neg c_11, if_pos c_23, if_neg c_41, if_pos c_50, if_neg c_65, if_neg c_71, if_neg c_76, if_pos c_83]) (by rw [f_X2_partition, if_pos c_1, if_neg c_5, if_neg c_11, if_pos c_23, if_neg c_41, if_pos c_50, if_neg c_65, if_neg c_71, if_neg c_76, if_pos c_83]) rfl rfl dX2_partition_111
                  · exact k_throw2 (is := 56) (text := "entry not in the region, or restarts not 0 to 100") G hl0 hlocks hP hS hl.1 (by decide +kernel) dX2_partition_86 dX2_partition_89 dX2_partition_90 dX2_partition_92 dX2_partition_95 hx (by decide) (by decide) (by decide) (by decide) (by decide) (by decide) (by rw [f_X2_partition, if_pos c_1, if_neg c_5, if_neg c_11, if_pos c_23, if_neg c_41, if_pos c_50, if_neg c_65, if_neg c_71, if_neg c_76, if_neg c_83]) rfl rfl rfl
          · exact k_throw2 (is := 54) (text := "region not in memory, or not free") G hl0 hlocks hP hS hl.1 (by decide +kernel) dX2_partition_53 dX2_partition_56 dX2_partition_57 dX2_partition_59 dX2_partition_62 hx (by decide) (by decide) (by decide) (by decide) (by decide) (by decide) (by rw [f_X2_partition, if_pos c_1, if_neg c_5, if_neg c_11, if_pos c_23, if_neg c_41, if_neg c_50]) rfl rfl rfl
      · exact k_throw2 (is := 42) (text := "no such partition, or told already") G hl0 hlocks hP hS hl.1 (by decide +kernel) dX2_partition_26 dX2_partition_29 dX2_partition_30 dX2_partition_32 dX2_partition_35 hx (by decide) (by decide) (by decide) (by decide) (by decide) (by decide) (by rw [f_X2_partition, if_pos c_1, if_neg c_5, if_neg c_11, if_neg c_23]) rfl rfl rfl
/-! X2_step -/
def f_X2_step_lp : Nat → kM → Int32 → Int32 × kM
  | 0, ka, b => (b, ka)
  | n + 1, ka, b => if (f_X2_goOneTick ka).1 = 0 then f_X2_step_lp n (f_X2_goOneTick ka).2 b else f_X2_step_lp n (f_X2_goOneTick ka).2 (b + 1)
def f_X2_step (ka : kM) (p0 : Int32) : Nat × Int32 × kM := if (ka 0 7) = 0 then (1, 0, ka) else if p0 < 0 then (2, 0, ka) else if p0 ≤ 5000 then (0, (f_X2_step_lp p0.toNatClampNeg ka 0).1, (f_X2_step_lp p0.toNatClampNeg ka 0).2) else (2, 0, ka)
set_option maxHeartbeats 4000000 in
set_option maxRecDepth 100000 in
theorem w_X2_step (l : Launch) (D : va_G) (A : Nat → Nat) (C : Nat → ClassId) (ka0 mu : kM) (o : Int32) {p : Program} {e : Env} {s : State} {m : MethodId} {args : Array Value} {below : List Frame} {meth : Method} {c : Code} (G : kCtx D A C p s m args c cX2_step 4 RX2) (hr : meth.sig.returnType = some .int) (hlocks : meth.locks = false) (p0 : Int32) (hp0 : p0.toInt ≤ 5000) :
    ∀ (n : Nat) (ka : kM) (t b : Int32) (H : Heap) (locs : List Loc) (ls : Array Slot), 0 ≤ t.toInt → t.toInt + n = p0.toInt → kInv ka → kP D A C ka mu o H → kS A s H locs → lv_has ls 4 [(3, .int t), (2, .int b), (0, .ref (A 0)), (1, .int p0)] → W p l e ({ frames := 7, cells := 1, slots := 6, locals := 161 }) s m args below meth c H locs 0 0 (kYi D A C below args s ka0 mu o 1 6 0 (f_X2_step_lp n ka b).1 (f_X2_step_lp n ka b).2 mu o) (F0 m 42 ls []) := by
  intro n
  induction n with
  | zero =>
    intro ka t b H locs ls hi0 hi1 hI hP hS hl
    refine lv_iload_n G.1 G.2.1 dX2_step_42 rfl (lv_at hl 0 rfl) ?_
    refine lv_iload_n G.1 G.2.1 dX2_step_43 rfl (lv_at hl 3 rfl) ?_
    refine lv_icmp_ge (tgt := 63) G.1 G.2.1 dX2_step_44 (by decide) (fun _ => ?_) (fun c => absurd (by rw [ki_le]; omega) c)
    refine lv_iload_n G.1 G.2.1 dX2_step_63 rfl (lv_at hl 1 rfl) ?_
    refine W.widen (k := 1) (n := 6) (by decide) (by decide) ?_
    exact k_xiret G hr hlocks hP hS rfl (by rw [f_X2_step_lp]) (by rw [f_X2_step_lp]) rfl rfl dX2_step_64
  | succ n ih =>
    intro ka t b H locs ls hi0 hi1 hI hP hS hl
    refine lv_iload_n G.1 G.2.1 dX2_step_42 rfl (lv_at hl 0 rfl) ?_
    refine lv_iload_n G.1 G.2.1 dX2_step_43 rfl (lv_at hl 3 rfl) ?_
    refine lv_icmp_ge (tgt := 63) G.1 G.2.1 dX2_step_44 (by decide) (fun c => absurd c (by rw [ki_le]; omega)) (fun _ => ?_)
    refine lv_aload_n G.1 G.2.1 dX2_step_47 rfl (lv_at hl 2 rfl) ?_
    refine k_Vi (As := []) (rest := []) G hP hS hl.1 kl_X2_101 yk_X2_goOneTick (c_X2_goOneTick l D A C _ _ _ _ G.2.2.2.2.2.2  hI) (kr2 G hP) (by decide) (by decide) rfl (Nat.le_of_ble_eq_true rfl) dX2_step_48 (fun H locs hP hS => ?_)
    refine lv_if_eq (tgt := 57) G.1 G.2.1 dX2_step_51 (by decide) (fun c_51 => ?_) (fun c_51 => ?_)
    · refine lv_iinc (v := t + 1) (lv' := [(3, .int (t + 1)), (2, .int b), (0, .ref (A 0)), (1, .int p0)]) G.1 G.2.1 dX2_step_57 hl (k := 0) rfl rfl (by decide) rfl (fun ls hl => ?_)
      refine lv_goto (tgt := 42) G.1 G.2.1 dX2_step_60 (by decide) ?_
      rw [show f_X2_step_lp (n + 1) ka b = f_X2_step_lp n (f_X2_goOneTick ka).2 b by rw [f_X2_step_lp, if_pos c_51]]
      have hi2 : (t + 1).toInt = t.toInt + 1 := ki_add1 (by omega)
      exact ih _ (t + 1) _ _ _ _ (by omega) (by omega) (inv_tick hI) hP hS (lv_sub hl [0, 1, 2, 3] rfl)
    · refine lv_iinc (v := b + 1) (lv' := [(2, .int (b + 1)), (3, .int t), (0, .ref (A 0)), (1, .int p0)]) G.1 G.2.1 dX2_step_54 hl (k := 1) rfl rfl (by decide) rfl (fun ls hl => ?_)
      refine lv_iinc (v := t + 1) (lv' := [(3, .int (t + 1)), (2, .int (b + 1)), (0, .ref (A 0)), (1, .int p0)]) G.1 G.2.1 dX2_step_57 hl (k := 1) rfl rfl (by decide) rfl (fun ls hl => ?_)
      refine lv_goto (tgt := 42) G.1 G.2.1 dX2_step_60 (by decide) ?_
      rw [show f_X2_step_lp (n + 1) ka b = f_X2_step_lp n (f_X2_goOneTick ka).2 (b + 1) by rw [f_X2_step_lp, if_neg c_51]]
      have hi2 : (t + 1).toInt = t.toInt + 1 := ki_add1 (by omega)
      exact ih _ (t + 1) _ _ _ _ (by omega) (by omega) (inv_tick hI) hP hS (lv_sub hl [0, 1, 2, 3] rfl)
set_option maxHeartbeats 4000000 in
set_option maxRecDepth 100000 in
theorem c_X2_step (l : Launch) (D : va_G) (A : Nat → Nat) (C : Nat → ClassId) (ka mu : kM) (o : Int32) (sz : Nat) (hA : kinj A) (p0 : Int32) (hl0 : l.stackTraces = false) (hI : kInv ka) : kXi l yX2_step (.code yX2_step cX2_step 4 (some .int)) ({ frames := 7, cells := 1, slots := 6, locals := 161 }) D A C ka mu o sz [.ref (A 0), .int p0] ((f_X2_step ka p0).1) ((f_X2_step ka p0).2.1) ((f_X2_step ka p0).2.2) mu o := by
  refine kXi_of hA (by decide) (Nat.le_of_ble_eq_true rfl) (fun p e s m args below meth c G hr hlocks hx hP hS ls hl => ?_)
  have hl : lv_has ls 4 [(0, .ref (A 0)), (1, .int p0)] := hl
  refine lv_aload_n G.1 G.2.1 dX2_step_0 rfl (lv_at hl 0 rfl) ?_
  refine k2_geti G hP 7 (by decide) (by decide) kq_151 rfl dX2_step_1 ?_
  refine lv_if_ne (tgt := 17) G.1 G.2.1 dX2_step_4 (by decide) (fun c_4 => ?_) (fun c_4 => ?_)
  · refine lv_iload_n G.1 G.2.1 dX2_step_17 rfl (lv_at hl 1 rfl) ?_
    refine lv_if_lt (tgt := 28) G.1 G.2.1 dX2_step_18 (by decide) (fun c_18 => ?_) (fun c_18 => ?_)
    · exact k_throw2 (is := 99) (text := "ticks not 0 to 5000") G hl0 hlocks hP hS hl.1 (by decide +kernel) dX2_step_28 dX2_step_31 dX2_step_32 dX2_step_34 dX2_step_37 hx (by decide) (by decide) (by decide) (by decide) (by decide) (by decide) (by rw [f_X2_step, if_neg c_4, if_pos c_18]) rfl rfl rfl
    · refine lv_iload_n G.1 G.2.1 dX2_step_21 rfl (lv_at hl 1 rfl) ?_
      refine lv_sipush (v := 5000) G.1 G.2.1 dX2_step_22 (by decide) ?_
      refine lv_icmp_le (tgt := 38) G.1 G.2.1 dX2_step_25 (by decide) (fun c_25 => ?_) (fun c_25 => ?_)
      · refine lv_iconst (v := 0) G.1 G.2.1 dX2_step_38 (by decide) ?_
        refine lv_istore_n (lv' := [(2, .int 0), (0, .ref (A 0)), (1, .int p0)]) G.1 G.2.1 dX2_step_39 rfl hl (by decide) rfl (fun ls hl => ?_)
        refine lv_iconst (v := 0) G.1 G.2.1 dX2_step_40 (by decide) ?_
        refine lv_istore_n (lv' := [(3, .int 0), (2, .int 0), (0, .ref (A 0)), (1, .int p0)]) G.1 G.2.1 dX2_step_41 rfl hl (by decide) rfl (fun ls hl => ?_)
        obtain ⟨hp1, hp2, hp3⟩ := kstep_in c_18 c_25
        have hf : f_X2_step ka p0 = (0, (f_X2_step_lp p0.toNatClampNeg ka 0).1, (f_X2_step_lp p0.toNatClampNeg ka 0).2) := by rw [f_X2_step, if_neg c_4, if_neg c_18, if_pos c_25]
        rw [hf]
        exact w_X2_step l D A C ka mu o G hr hlocks p0 hp1 p0.toNatClampNeg ka 0 0 _ _ _ (by decide) (by rw [hp2]; rw [show (0 : Int32).toInt = 0 from rfl]; omega) hI hP hS (lv_sub hl [0, 1, 2, 3] rfl)
      · exact k_throw2 (is := 99) (text := "ticks not 0 to 5000") G hl0 hlocks hP hS hl.1 (by decide +kernel) dX2_step_28 dX2_step_31 dX2_step_32 dX2_step_34 dX2_step_37 hx (by decide) (by decide) (by decide) (by decide) (by decide) (by decide) (by rw [f_X2_step, if_neg c_4, if_neg c_18, if_neg c_25]) rfl rfl rfl
  · exact k_throw1 (is := 97) (text := "not sealed") G hl0 hlocks hP hS hl.1 (by decide +kernel) dX2_step_7 dX2_step_10 dX2_step_11 dX2_step_13 dX2_step_16 hx (by decide) (by decide) (by decide) (by decide) (by decide) (by decide) (by rw [f_X2_step, if_pos c_4]) rfl rfl rfl
