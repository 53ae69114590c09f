/-! X3_send -/
def f_X3_send (mu : kM) (p0 : Int32) (p1 : Int32) (p2 : Int32) (p3 : Int32) : kM :=
  if p3 < 0 then (kup mu 34 29 3) else if (7 : Int32) < p3 then (kup mu 34 29 3) else if (mu 48 p3.toNatClampNeg) = 0 then (kup mu 34 29 3) else if (mu 49 p3.toNatClampNeg) = p0 then (if (mu 51 p3.toNatClampNeg) = 0 then (kup (kup (kup (kup (kup mu 52 ((8 : Int32) * p3).toNatClampNeg (mu 41 (((4 : Int32) * p0) + p1).toNatClampNeg)) 53 p3.toNatClampNeg 1) 54 p3.toNatClampNeg 0) 55 p3.toNatClampNeg (((kup (kup (kup mu 52 ((8 : Int32) * p3).toNatClampNeg (mu 41 (((4 : Int32) * p0) + p1).toNatClampNeg)) 53 p3.toNatClampNeg 1) 54 p3.toNatClampNeg 0) 55 p3.toNatClampNeg) + 1)) 41 (((4 : Int32) * p0) + p2).toNatClampNeg 1) else if (mu 53 p3.toNatClampNeg) = (mu 51 p3.toNatClampNeg) then (kup (kup mu 56 p3.toNatClampNeg ((mu 56 p3.toNatClampNeg) + 1)) 41 (((4 : Int32) * p0) + p2).toNatClampNeg 0) else (kup (kup (kup (kup mu 52 (((8 : Int32) * p3) + (mu 53 p3.toNatClampNeg)).toNatClampNeg (mu 41 (((4 : Int32) * p0) + p1).toNatClampNeg)) 53 p3.toNatClampNeg (((kup mu 52 (((8 : Int32) * p3) + (mu 53 p3.toNatClampNeg)).toNatClampNeg (mu 41 (((4 : Int32) * p0) + p1).toNatClampNeg)) 53 p3.toNatClampNeg) + 1)) 55 p3.toNatClampNeg (((kup (kup mu 52 (((8 : Int32) * p3) + (mu 53 p3.toNatClampNeg)).toNatClampNeg (mu 41 (((4 : Int32) * p0) + p1).toNatClampNeg)) 53 p3.toNatClampNeg (((kup mu 52 (((8 : Int32) * p3) + (mu 53 p3.toNatClampNeg)).toNatClampNeg (mu 41 (((4 : Int32) * p0) + p1).toNatClampNeg)) 53 p3.toNatClampNeg) + 1)) 55 p3.toNatClampNeg) + 1)) 41 (((4 : Int32) * p0) + p2).toNatClampNeg 1)) else (kup mu 34 29 3)
set_option maxHeartbeats 4000000 in
set_option maxRecDepth 100000 in
theorem c_X3_send (l : Launch) (D : va_G) (A : Nat → Nat) (C : Nat → ClassId) (ka mu : kM) (o : Int32) (sz : Nat) (hA : kinj A) (p0 : Int32) (p1 : Int32) (p2 : Int32) (p3 : Int32) (hp : vp_in p0 6) (ha : vp_in p1 4) (hb : vp_in p2 4) (hC : mC mu) : kMv l yX3_send (.code yX3_send cX3_send 5 none) ({ frames := 0, cells := 0, slots := 0, locals := 0 }) D A C ka mu o sz [.ref (A 34), .int p0, .int p1, .int p2, .int p3]  ka (f_X3_send mu p0 p1 p2 p3) o := by
  refine kMv_of hA (by decide) (Nat.le_of_ble_eq_true rfl) (fun p e s m args below meth c G hr hlocks hP hS ls hl => ?_)
  have hl : lv_has ls 5 [(0, .ref (A 34)), (1, .int p0), (2, .int p1), (3, .int p2), (4, .int p3)] := hl
  refine lv_iload G.1 G.2.1 dX3_send_0 (lv_at hl 4 rfl) ?_
  refine lv_if_lt (tgt := 33) G.1 G.2.1 dX3_send_2 (by decide) (fun c_2 => ?_) (fun c_2 => ?_)
  · refine lv_aload_n G.1 G.2.1 dX3_send_33 rfl (lv_at hl 0 rfl) ?_
    refine lv_iconst (v := 3) G.1 G.2.1 dX3_send_34 (by decide) ?_
    refine k3_puti G hP hS 29 (by unfold k3i; decide) (by decide) kq_538 rfl rfl rfl rfl dX3_send_35 (fun H locs hP hS => ?_)
    exact k_vret G hr hlocks hP hS rfl (by rw [f_X3_send, if_pos c_2]) rfl dX3_send_38
  · refine lv_iload G.1 G.2.1 dX3_send_5 (lv_at hl 4 rfl) ?_
    refine lv_bipush (v := 7) G.1 G.2.1 dX3_send_7 (by decide) ?_
    refine lv_icmp_gt (tgt := 33) G.1 G.2.1 dX3_send_9 (by decide) (fun c_9 => ?_) (fun c_9 => ?_)
    · refine lv_aload_n G.1 G.2.1 dX3_send_33 rfl (lv_at hl 0 rfl) ?_
      refine lv_iconst (v := 3) G.1 G.2.1 dX3_send_34 (by decide) ?_
      refine k3_puti G hP hS 29 (by unfold k3i; decide) (by decide) kq_538 rfl rfl rfl rfl dX3_send_35 (fun H locs hP hS => ?_)
      exact k_vret G hr hlocks hP hS rfl (by rw [f_X3_send, if_neg c_2, if_pos c_9]) rfl dX3_send_38
    · refine lv_aload_n G.1 G.2.1 dX3_send_12 rfl (lv_at hl 0 rfl) ?_
      refine k3_getr G hP 15 48 (by decide) (fun _ _ => rfl) kq_524 rfl dX3_send_13 ?_
      refine lv_iload G.1 G.2.1 dX3_send_16 (lv_at hl 4 rfl) ?_
      refine kZ_ald G hP (kin_le (n := 8) (by decide) c_2 c_9) dX3_send_18 ?_
      refine lv_if_eq (tgt := 33) G.1 G.2.1 dX3_send_19 (by decide) (fun c_19 => ?_) (fun c_19 => ?_)
      · refine lv_aload_n G.1 G.2.1 dX3_send_33 rfl (lv_at hl 0 rfl) ?_
        refine lv_iconst (v := 3) G.1 G.2.1 dX3_send_34 (by decide) ?_
        refine k3_puti G hP hS 29 (by unfold k3i; decide) (by decide) kq_538 rfl rfl rfl rfl dX3_send_35 (fun H locs hP hS => ?_)
        exact k_vret G hr hlocks hP hS rfl (by rw [f_X3_send, if_neg c_2, if_neg c_9, if_pos c_19]) rfl dX3_send_38
      · refine lv_aload_n G.1 G.2.1 dX3_send_22 rfl (lv_at hl 0 rfl) ?_
        refine k3_getr G hP 16 49 (by decide) (fun _ _ => rfl) kq_525 rfl dX3_send_23 ?_
        refine lv_iload G.1 G.2.1 dX3_send_26 (lv_at hl 4 rfl) ?_
        refine kM_ald (r := 49) G hP kI_49 (by decide) (kin_le (n := 8) (by decide) c_2 c_9) dX3_send_28 ?_
        refine lv_iload_n G.1 G.2.1 dX3_send_29 rfl (lv_at hl 1 rfl) ?_
        refine lv_icmp_eq (tgt := 39) G.1 G.2.1 dX3_send_30 (by decide) (fun c_30 => ?_) (fun c_30 => ?_)
        · refine lv_aload_n G.1 G.2.1 dX3_send_39 rfl (lv_at hl 0 rfl) ?_
          refine k3_getr G hP 18 51 (by decide) (fun _ _ => rfl) kq_527 rfl dX3_send_40 ?_
          refine lv_iload G.1 G.2.1 dX3_send_43 (lv_at hl 4 rfl) ?_
          refine kM_ald (r := 51) G hP kI_51 (by decide) (kin_le (n := 8) (by decide) c_2 c_9) dX3_send_45 ?_
          refine lv_if_ne (tgt := 110) G.1 G.2.1 dX3_send_46 (by decide) (fun c_46 => ?_) (fun c_46 => ?_)
          · refine lv_aload_n G.1 G.2.1 dX3_send_110 rfl (lv_at hl 0 rfl) ?_
            refine k3_getr G hP 20 53 (by decide) (fun _ _ => rfl) kq_529 rfl dX3_send_111 ?_
            refine lv_iload G.1 G.2.1 dX3_send_114 (lv_at hl 4 rfl) ?_
            refine kM_ald (r := 53) G hP kI_53 (by decide) (kin_le (n := 8) (by decide) c_2 c_9) dX3_send_116 ?_
            refine lv_aload_n G.1 G.2.1 dX3_send_117 rfl (lv_at hl 0 rfl) ?_
            refine k3_getr G hP 18 51 (by decide) (fun _ _ => rfl) kq_527 rfl dX3_send_118 ?_
            refine lv_iload G.1 G.2.1 dX3_send_121 (lv_at hl 4 rfl) ?_
            refine kM_ald (r := 51) G hP kI_51 (by decide) (kin_le (n := 8) (by decide) c_2 c_9) dX3_send_123 ?_
            refine lv_icmp_ne (tgt := 152) G.1 G.2.1 dX3_send_124 (by decide) (fun c_124 => ?_) (fun c_124 => ?_)
            · refine lv_aload_n G.1 G.2.1 dX3_send_152 rfl (lv_at hl 0 rfl) ?_
              refine k3_getr G hP 19 52 (by decide) (fun _ _ => rfl) kq_528 rfl dX3_send_153 ?_
              refine lv_bipush (v := 8) G.1 G.2.1 dX3_send_156 (by decide) ?_
              refine lv_iload G.1 G.2.1 dX3_send_158 (lv_at hl 4 rfl) ?_
              refine lv_imul G.1 G.2.1 dX3_send_160 ?_
              refine lv_aload_n G.1 G.2.1 dX3_send_161 rfl (lv_at hl 0 rfl) ?_
              refine k3_getr G hP 20 53 (by decide) (fun _ _ => rfl) kq_529 rfl dX3_send_162 ?_
              refine lv_iload G.1 G.2.1 dX3_send_165 (lv_at hl 4 rfl) ?_
              refine kM_ald (r := 53) G hP kI_53 (by decide) (kin_le (n := 8) (by decide) c_2 c_9) dX3_send_167 ?_
              refine lv_iadd G.1 G.2.1 dX3_send_168 ?_
              refine lv_aload_n G.1 G.2.1 dX3_send_169 rfl (lv_at hl 0 rfl) ?_
              refine k3_getr G hP 7 41 (by decide) (fun _ _ => rfl) kq_516 rfl dX3_send_170 ?_
              refine lv_iconst (v := 4) G.1 G.2.1 dX3_send_173 (by decide) ?_
              refine lv_iload_n G.1 G.2.1 dX3_send_174 rfl (lv_at hl 1 rfl) ?_
              refine lv_imul G.1 G.2.1 dX3_send_175 ?_
              refine lv_iload_n G.1 G.2.1 dX3_send_176 rfl (lv_at hl 2 rfl) ?_
              refine lv_iadd G.1 G.2.1 dX3_send_177 ?_
              refine kM_ald (r := 41) G hP kI_41 (by decide) (kin4 hp ha) dX3_send_178 ?_
              refine kM_ast (r := 52) G hP hS kI_52 (by decide) (kin8k (kin_le (n := 8) (by decide) c_2 c_9) (m_room hC (kin_le (n := 8) (by decide) c_2 c_9) c_46 c_124)) dX3_send_179 (fun H locs hP hS => ?_)
              refine lv_aload_n G.1 G.2.1 dX3_send_180 rfl (lv_at hl 0 rfl) ?_
              refine k3_getr G hP 20 53 (by decide) (fun _ _ => rfl) kq_529 rfl dX3_send_181 ?_
              refine lv_iload G.1 G.2.1 dX3_send_184 (lv_at hl 4 rfl) ?_
              refine lv_dup2_11 G.1 G.2.1 dX3_send_186 rfl rfl ?_
              refine kM_ald (r := 53) G hP kI_53 (by decide) (kin_le (n := 8) (by decide) c_2 c_9) dX3_send_187 ?_
              refine lv_iconst (v := 1) G.1 G.2.1 dX3_send_188 (by decide) ?_
              refine lv_iadd G.1 G.2.1 dX3_send_189 ?_
              refine kM_ast (r := 53) G hP hS kI_53 (by decide) (kin_le (n := 8) (by decide) c_2 c_9) dX3_send_190 (fun H locs hP hS => ?_)
              refine lv_aload_n G.1 G.2.1 dX3_send_191 rfl (lv_at hl 0 rfl) ?_
              refine k3_getr G hP 22 55 (by decide) (fun _ _ => rfl) kq_531 rfl dX3_send_192 ?_
              refine lv_iload G.1 G.2.1 dX3_send_195 (lv_at hl 4 rfl) ?_
              refine lv_dup2_11 G.1 G.2.1 dX3_send_197 rfl rfl ?_
              refine kM_ald (r := 55) G hP kI_55 (by decide) (kin_le (n := 8) (by decide) c_2 c_9) dX3_send_198 ?_
              refine lv_iconst (v := 1) G.1 G.2.1 dX3_send_199 (by decide) ?_
              refine lv_iadd G.1 G.2.1 dX3_send_200 ?_
              refine kM_ast (r := 55) G hP hS kI_55 (by decide) (kin_le (n := 8) (by decide) c_2 c_9) dX3_send_201 (fun H locs hP hS => ?_)
              refine lv_aload_n G.1 G.2.1 dX3_send_202 rfl (lv_at hl 0 rfl) ?_
              refine k3_getr G hP 7 41 (by decide) (fun _ _ => rfl) kq_516 rfl dX3_send_203 ?_
              refine lv_iconst (v := 4) G.1 G.2.1 dX3_send_206 (by decide) ?_
              refine lv_iload_n G.1 G.2.1 dX3_send_207 rfl (lv_at hl 1 rfl) ?_
              refine lv_imul G.1 G.2.1 dX3_send_208 ?_
              refine lv_iload_n G.1 G.2.1 dX3_send_209 rfl (lv_at hl 3 rfl) ?_
              refine lv_iadd G.1 G.2.1 dX3_send_210 ?_
              refine lv_iconst (v := 1) G.1 G.2.1 dX3_send_211 (by decide) ?_
              refine kM_ast (r := 41) G hP hS kI_41 (by decide) (kin4 hp hb) dX3_send_212 (fun H locs hP hS => ?_)
              exact k_vret G hr hlocks hP hS rfl (by rw [f_X3_send, if_neg c_2, if_neg c_9, if_neg c_19, if_pos c_30, if_neg c_46, if_neg c_124]) rfl dX3_send_213
            · refine lv_aload_n G.1 G.2.1 dX3_send_127 rfl (lv_at hl 0 rfl) ?_
              refine k3_getr G hP 23 56 (by decide) (fun _ _ => rfl) kq_532 rfl dX3_send_128 ?_
              refine lv_iload G.1 G.2.1 dX3_send_131 (lv_at hl 4 rfl) ?_
              refine lv_dup2_11 G.1 G.2.1 dX3_send_133 rfl rfl ?_
              refine kM_ald (r := 56) G hP kI_56 (by decide) (kin_le (n := 8) (by decide) c_2 c_9) dX3_send_134 ?_
              refine lv_iconst (v := 1) G.1 G.2.1 dX3_send_135 (by decide) ?_
              refine lv_iadd G.1 G.2.1 dX3_send_136 ?_
              refine kM_ast (r := 56) G hP hS kI_56 (by decide) (kin_le (n := 8) (by decide) c_2 c_9) dX3_send_137 (fun H locs hP hS => ?_)
              refine lv_aload_n G.1 G.2.1 dX3_send_138 rfl (lv_at hl 0 rfl) ?_
              refine k3_getr G hP 7 41 (by decide) (fun _ _ => rfl) kq_516 rfl dX3_send_139 ?_
              refine lv_iconst (v := 4) G.1 G.2.1 dX3_send_142 (by decide) ?_
              refine lv_iload_n G.1 G.2.1 dX3_send_143 rfl (lv_at hl 1 rfl) ?_
              refine lv_imul G.1 G.2.1 dX3_send_144 ?_
              refine lv_iload_n G.1 G.2.1 dX3_send_145 rfl (lv_at hl 3 rfl) ?_
              refine lv_iadd G.1 G.2.1 dX3_send_146 ?_
              refine lv_iconst (v := 0) G.1 G.2.1 dX3_send_147 (by decide) ?_
              refine kM_ast (r := 41) G hP hS kI_41 (by decide) (kin4 hp hb) dX3_send_148 (fun H locs hP hS => ?_)
              refine lv_goto (tgt := 213) G.1 G.2.1 dX3_send_149 (by decide) ?_
              exact k_vret G hr hlocks hP hS rfl (by rw [f_X3_send, if_neg c_2, if_neg c_9, if_neg c_19, if_pos c_30, if_neg c_46, if_pos c_124]) rfl dX3_send_213
          · refine lv_aload_n G.1 G.2.1 dX3_send_49 rfl (lv_at hl 0 rfl) ?_
            refine k3_getr G hP 19 52 (by decide) (fun _ _ => rfl) kq_528 rfl dX3_send_50 ?_
            refine lv_bipush (v := 8) G.1 G.2.1 dX3_send_53 (by decide) ?_
            refine lv_iload G.1 G.2.1 dX3_send_55 (lv_at hl 4 rfl) ?_
            refine lv_imul G.1 G.2.1 dX3_send_57 ?_
            refine lv_aload_n G.1 G.2.1 dX3_send_58 rfl (lv_at hl 0 rfl) ?_
            refine k3_getr G hP 7 41 (by decide) (fun _ _ => rfl) kq_516 rfl dX3_send_59 ?_
            refine lv_iconst (v := 4) G.1 G.2.1 dX3_send_62 (by decide) ?_
            refine lv_iload_n G.1 G.2.1 dX3_send_63 rfl (lv_at hl 1 rfl) ?_
            refine lv_imul G.1 G.2.1 dX3_send_64 ?_
            refine lv_iload_n G.1 G.2.1 dX3_send_65 rfl (lv_at hl 2 rfl) ?_
            refine lv_iadd G.1 G.2.1 dX3_send_66 ?_
            refine kM_ald (r := 41) G hP kI_41 (by decide) (kin4 hp ha) dX3_send_67 ?_
            refine kM_ast (r := 52) G hP hS kI_52 (by decide) (kin8 (kin_le (n := 8) (by decide) c_2 c_9)) dX3_send_68 (fun H locs hP hS => ?_)
            refine lv_aload_n G.1 G.2.1 dX3_send_69 rfl (lv_at hl 0 rfl) ?_
            refine k3_getr G hP 20 53 (by decide) (fun _ _ => rfl) kq_529 rfl dX3_send_70 ?_
            refine lv_iload G.1 G.2.1 dX3_send_73 (lv_at hl 4 rfl) ?_
            refine lv_iconst (v := 1) G.1 G.2.1 dX3_send_75 (by decide) ?_
            refine kM_ast (r := 53) G hP hS kI_53 (by decide) (kin_le (n := 8) (by decide) c_2 c_9) dX3_send_76 (fun H locs hP hS => ?_)
            refine lv_aload_n G.1 G.2.1 dX3_send_77 rfl (lv_at hl 0 rfl) ?_
            refine k3_getr G hP 21 54 (by decide) (fun _ _ => rfl) kq_530 rfl dX3_send_78 ?_
            refine lv_iload G.1 G.2.1 dX3_send_81 (lv_at hl 4 rfl) ?_
            refine lv_iconst (v := 0) G.1 G.2.1 dX3_send_83 (by decide) ?_
            refine kM_ast (r := 54) G hP hS kI_54 (by decide) (kin_le (n := 8) (by decide) c_2 c_9) dX3_send_84 (fun H locs hP hS => ?_)
            refine lv_aload_n G.1 G.2.1 dX3_send_85 rfl (lv_at hl 0 rfl) ?_
            refine k3_getr G hP 22 55 (by decide) (fun _ _ => rfl) kq_531 rfl dX3_send_86 ?_
            refine lv_iload G.1 G.2.1 dX3_send_89 (lv_at hl 4 rfl) ?_
            refine lv_dup2_11 G.1 G.2.1 dX3_send_91 rfl rfl ?_
            refine kM_ald (r := 55) G hP kI_55 (by decide) (kin_le (n := 8) (by decide) c_2 c_9) dX3_send_92 ?_
            refine lv_iconst (v := 1) G.1 G.2.1 dX3_send_93 (by decide) ?_
            refine lv_iadd G.1 G.2.1 dX3_send_94 ?_
            refine kM_ast (r := 55) G hP hS kI_55 (by decide) (kin_le (n := 8) (by decide) c_2 c_9) dX3_send_95 (fun H locs hP hS => ?_)
            refine lv_aload_n G.1 G.2.1 dX3_send_96 rfl (lv_at hl 0 rfl) ?_
            refine k3_getr G hP 7 41 (by decide) (fun _ _ => rfl) kq_516 rfl dX3_send_97 ?_
            refine lv_iconst (v := 4) G.1 G.2.1 dX3_send_100 (by decide) ?_
            refine lv_iload_n G.1 G.2.1 dX3_send_101 rfl (lv_at hl 1 rfl) ?_
            refine lv_imul G.1 G.2.1 dX3_send_102 ?_
            refine lv_iload_n G.1 G.2.1 dX3_send_103 rfl (lv_at hl 3 rfl) ?_
            refine lv_iadd G.1 G.2.1 dX3_send_104 ?_
            refine lv_iconst (v := 1) G.1 G.2.1 dX3_send_105 (by decide) ?_
            refine kM_ast (r := 41) G hP hS kI_41 (by decide) (kin4 hp hb) dX3_send_106 (fun H locs hP hS => ?_)
            refine lv_goto (tgt := 213) G.1 G.2.1 dX3_send_107 (by decide) ?_
            exact k_vret G hr hlocks hP hS rfl (by rw [f_X3_send, if_neg c_2, if_neg c_9, if_neg c_19, if_pos c_30, if_pos c_46]) rfl dX3_send_213
        · refine lv_aload_n G.1 G.2.1 dX3_send_33 rfl (lv_at hl 0 rfl) ?_
          refine lv_iconst (v := 3) G.1 G.2.1 dX3_send_34 (by decide) ?_
          refine k3_puti G hP hS 29 (by unfold k3i; decide) (by decide) kq_538 rfl rfl rfl rfl dX3_send_35 (fun H locs hP hS => ?_)
          exact k_vret G hr hlocks hP hS rfl (by rw [f_X3_send, if_neg c_2, if_neg c_9, if_neg c_19, if_neg c_30]) rfl dX3_send_38
/-! X3_window -/
def f_X3_window (mu : kM) (p0 : Int32) (p1 : Int32) : Int32 × kM :=
  if (mu 34 24) = 0 then (if p0 = (-1) then (if p1 < 1 then (0, kup mu 34 0 2) else if (100 : Int32) < p1 then (0, kup mu 34 0 2) else if (mu 34 12) = 12 then (0, kup mu 34 0 2) else (((kup (kup (kup mu 34 0 0) 46 ((kup mu 34 0 0) 34 12).toNatClampNeg p0) 47 ((kup (kup mu 34 0 0) 46 ((kup mu 34 0 0) 34 12).toNatClampNeg p0) 34 12).toNatClampNeg p1) 34 12) + 1, kup (kup (kup (kup mu 34 0 0) 46 ((kup mu 34 0 0) 34 12).toNatClampNeg p0) 47 ((kup (kup mu 34 0 0) 46 ((kup mu 34 0 0) 34 12).toNatClampNeg p0) 34 12).toNatClampNeg p1) 34 12 (((kup (kup (kup mu 34 0 0) 46 ((kup mu 34 0 0) 34 12).toNatClampNeg p0) 47 ((kup (kup mu 34 0 0) 46 ((kup mu 34 0 0) 34 12).toNatClampNeg p0) 34 12).toNatClampNeg p1) 34 12) + 1))) else if (f_X3_isTold mu p0) = 0 then (0, kup mu 34 0 2) else if p1 < 1 then (0, kup mu 34 0 2) else if (100 : Int32) < p1 then (0, kup mu 34 0 2) else if (mu 34 12) = 12 then (0, kup mu 34 0 2) else (((kup (kup (kup mu 34 0 0) 46 ((kup mu 34 0 0) 34 12).toNatClampNeg p0) 47 ((kup (kup mu 34 0 0) 46 ((kup mu 34 0 0) 34 12).toNatClampNeg p0) 34 12).toNatClampNeg p1) 34 12) + 1, kup (kup (kup (kup mu 34 0 0) 46 ((kup mu 34 0 0) 34 12).toNatClampNeg p0) 47 ((kup (kup mu 34 0 0) 46 ((kup mu 34 0 0) 34 12).toNatClampNeg p0) 34 12).toNatClampNeg p1) 34 12 (((kup (kup (kup mu 34 0 0) 46 ((kup mu 34 0 0) 34 12).toNatClampNeg p0) 47 ((kup (kup mu 34 0 0) 46 ((kup mu 34 0 0) 34 12).toNatClampNeg p0) 34 12).toNatClampNeg p1) 34 12) + 1))) else (0, kup mu 34 0 1)
set_option maxHeartbeats 4000000 in
set_option maxRecDepth 100000 in
theorem c_X3_window (l : Launch) (D : va_G) (A : Nat → Nat) (C : Nat → ClassId) (ka mu : kM) (o : Int32) (sz : Nat) (hA : kinj A) (p0 : Int32) (p1 : Int32) (hI : mInv mu) : kMi l yX3_window (.code yX3_window cX3_window 3 (some .int)) ({ frames := 1, cells := 0, slots := 0, locals := 21 }) D A C ka mu o sz [.ref (A 34), .int p0, .int p1] ((f_X3_window mu p0 p1).1) ka ((f_X3_window mu p0 p1).2) o := by
  refine kMi_of hA (by decide) (Nat.le_of_ble_eq_true rfl) (fun p e s m args below meth c G hr hlocks hP hS ls hl => ?_)
  have hl : lv_has ls 3 [(0, .ref (A 34)), (1, .int p0), (2, .int p1)] := hl
  refine lv_aload_n G.1 G.2.1 dX3_window_0 rfl (lv_at hl 0 rfl) ?_
  refine lv_aload_n G.1 G.2.1 dX3_window_1 rfl (lv_at hl 0 rfl) ?_
  refine k3_geti G hP 24 (by unfold k3i; decide) (by decide) kq_533 rfl dX3_window_2 ?_
  refine lv_if_eq (tgt := 12) G.1 G.2.1 dX3_window_5 (by decide) (fun c_5 => ?_) (fun c_5 => ?_)
  · refine lv_iload_n G.1 G.2.1 dX3_window_12 rfl (lv_at hl 1 rfl) ?_
    refine lv_iconst (v := (-1)) G.1 G.2.1 dX3_window_13 (by decide) ?_
    refine lv_icmp_eq (tgt := 25) G.1 G.2.1 dX3_window_14 (by decide) (fun c_14 => ?_) (fun c_14 => ?_)
    · refine lv_iload_n G.1 G.2.1 dX3_window_25 rfl (lv_at hl 2 rfl) ?_
      refine lv_iconst (v := 1) G.1 G.2.1 dX3_window_26 (by decide) ?_
      refine lv_icmp_lt (tgt := 45) G.1 G.2.1 dX3_window_27 (by decide) (fun c_27 => ?_) (fun c_27 => ?_)
      · refine lv_iconst (v := 2) G.1 G.2.1 dX3_window_45 (by decide) ?_
        refine lv_goto (tgt := 50) G.1 G.2.1 dX3_window_46 (by decide) ?_
        refine k3_puti G hP hS 0 (by unfold k3i; decide) (by decide) kq_509 rfl rfl rfl rfl dX3_window_50 (fun H locs hP hS => ?_)
        refine lv_aload_n G.1 G.2.1 dX3_window_53 rfl (lv_at hl 0 rfl) ?_
        refine k3_getw (v := 2) G hP 0 (by unfold k3i; decide) (by decide) kq_509 rfl (by rw [kup_at]) dX3_window_54 ?_
        refine lv_if_le (tgt := 62) G.1 G.2.1 dX3_window_57 (by decide) (fun c => absurd c (by decide)) (fun _ => ?_)
        refine lv_iconst (v := 0) G.1 G.2.1 dX3_window_60 (by decide) ?_
        exact k_iret G hr hlocks hP hS (by rw [f_X3_window, if_pos c_5, if_pos c_14, if_pos c_27]) rfl (by rw [f_X3_window, if_pos c_5, if_pos c_14, if_pos c_27]) rfl dX3_window_61
      · refine lv_iload_n G.1 G.2.1 dX3_window_30 rfl (lv_at hl 2 rfl) ?_
        refine lv_bipush (v := 100) G.1 G.2.1 dX3_window_31 (by decide) ?_
        refine lv_icmp_gt (tgt := 45) G.1 G.2.1 dX3_window_33 (by decide) (fun c_33 => ?_) (fun c_33 => ?_)
        · refine lv_iconst (v := 2) G.1 G.2.1 dX3_window_45 (by decide) ?_
          refine lv_goto (tgt := 50) G.1 G.2.1 dX3_window_46 (by decide) ?_
          refine k3_puti G hP hS 0 (by unfold k3i; decide) (by decide) kq_509 rfl rfl rfl rfl dX3_window_50 (fun H locs hP hS => ?_)
          refine lv_aload_n G.1 G.2.1 dX3_window_53 rfl (lv_at hl 0 rfl) ?_
          refine k3_getw (v := 2) G hP 0 (by unfold k3i; decide) (by decide) kq_509 rfl (by rw [kup_at]) dX3_window_54 ?_
          refine lv_if_le (tgt := 62) G.1 G.2.1 dX3_window_57 (by decide) (fun c => absurd c (by decide)) (fun _ => ?_)
          refine lv_iconst (v := 0) G.1 G.2.1 dX3_window_60 (by decide) ?_
          exact k_iret G hr hlocks hP hS (by rw [f_X3_window, if_pos c_5, if_pos c_14, if_neg c_27, if_pos c_33]) rfl (by rw [f_X3_window, if_pos c_5, if_pos c_14, if_neg c_27, if_pos c_33]) rfl dX3_window_61
        · refine lv_aload_n G.1 G.2.1 dX3_window_36 rfl (lv_at hl 0 rfl) ?_
          refine k3_geti G hP 12 (by unfold k3i; decide) (by decide) kq_521 rfl dX3_window_37 ?_
          refine lv_bipush (v := 12) G.1 G.2.1 dX3_window_40 (by decide) ?_
          refine lv_icmp_ne (tgt := 49) G.1 G.2.1 dX3_window_42 (by decide) (fun c_42 => ?_) (fun c_42 => ?_)
          · refine lv_iconst (v := 0) G.1 G.2.1 dX3_window_49 (by decide) ?_
            refine k3_puti G hP hS 0 (by unfold k3i; decide) (by decide) kq_509 rfl rfl rfl rfl dX3_window_50 (fun H locs hP hS => ?_)
            refine lv_aload_n G.1 G.2.1 dX3_window_53 rfl (lv_at hl 0 rfl) ?_
            refine k3_getw (v := 0) G hP 0 (by unfold k3i; decide) (by decide) kq_509 rfl (by rw [kup_at]) dX3_window_54 ?_
            refine lv_if_le (tgt := 62) G.1 G.2.1 dX3_window_57 (by decide) (fun _ => ?_) (fun c => absurd c (by decide))
            refine lv_aload_n G.1 G.2.1 dX3_window_62 rfl (lv_at hl 0 rfl) ?_
            refine k3_getr G hP 13 46 (by decide) (fun _ _ => rfl) kq_522 rfl dX3_window_63 ?_
            refine lv_aload_n G.1 G.2.1 dX3_window_66 rfl (lv_at hl 0 rfl) ?_
            refine k3_geti G hP 12 (by unfold k3i; decide) (by decide) kq_521 rfl dX3_window_67 ?_
            refine lv_iload_n G.1 G.2.1 dX3_window_70 rfl (lv_at hl 1 rfl) ?_
            refine kM_ast (r := 46) G hP hS kI_46 (by decide) (by rw [kup_j (by decide)]; exact m_win hI c_42) dX3_window_71 (fun H locs hP hS => ?_)
            refine lv_aload_n G.1 G.2.1 dX3_window_72 rfl (lv_at hl 0 rfl) ?_
            refine k3_getr G hP 14 47 (by decide) (fun _ _ => rfl) kq_523 rfl dX3_window_73 ?_
            refine lv_aload_n G.1 G.2.1 dX3_window_76 rfl (lv_at hl 0 rfl) ?_
            refine k3_geti G hP 12 (by unfold k3i; decide) (by decide) kq_521 rfl dX3_window_77 ?_
            refine lv_iload_n G.1 G.2.1 dX3_window_80 rfl (lv_at hl 2 rfl) ?_
            refine kM_ast (r := 47) G hP hS kI_47 (by decide) (by rw [kup_r (by decide), kup_j (by decide)]; exact m_win hI c_42) dX3_window_81 (fun H locs hP hS => ?_)
            refine lv_aload_n G.1 G.2.1 dX3_window_82 rfl (lv_at hl 0 rfl) ?_
            refine lv_dup G.1 G.2.1 dX3_window_83 rfl ?_
            refine k3_geti G hP 12 (by unfold k3i; decide) (by decide) kq_521 rfl dX3_window_84 ?_
            refine lv_iconst (v := 1) G.1 G.2.1 dX3_window_87 (by decide) ?_
            refine lv_iadd G.1 G.2.1 dX3_window_88 ?_
            refine k3_puti G hP hS 12 (by unfold k3i; decide) (by decide) kq_521 rfl rfl rfl rfl dX3_window_89 (fun H locs hP hS => ?_)
            refine lv_aload_n G.1 G.2.1 dX3_window_92 rfl (lv_at hl 0 rfl) ?_
            refine k3_getw (v := ((kup (kup (kup mu 34 0 0) 46 ((kup mu 34 0 0) 34 12).toNatClampNeg p0) 47 ((kup (kup mu 34 0 0) 46 ((kup mu 34 0 0) 34 12).toNatClampNeg p0) 34 12).toNatClampNeg p1) 34 12) + 1) G hP 12 (by unfold k3i; decide) (by decide) kq_521 rfl (by rw [kup_at]) dX3_window_93 ?_
            exact k_iret G hr hlocks hP hS (by rw [f_X3_window, if_pos c_5, if_pos c_14, if_neg c_27, if_neg c_33, if_neg c_42]) rfl (by rw [f_X3_window, if_pos c_5, if_pos c_14, if_neg c_27, if_neg c_33, if_neg c_42]) rfl dX3_window_96
          · refine lv_iconst (v := 2) G.1 G.2.1 dX3_window_45 (by decide) ?_
            refine lv_goto (tgt := 50) G.1 G.2.1 dX3_window_46 (by decide) ?_
            refine k3_puti G hP hS 0 (by unfold k3i; decide) (by decide) kq_509 rfl rfl rfl rfl dX3_window_50 (fun H locs hP hS => ?_)
            refine lv_aload_n G.1 G.2.1 dX3_window_53 rfl (lv_at hl 0 rfl) ?_
            refine k3_getw (v := 2) G hP 0 (by unfold k3i; decide) (by decide) kq_509 rfl (by rw [kup_at]) dX3_window_54 ?_
            refine lv_if_le (tgt := 62) G.1 G.2.1 dX3_window_57 (by decide) (fun c => absurd c (by decide)) (fun _ => ?_)
            refine lv_iconst (v := 0) G.1 G.2.1 dX3_window_60 (by decide) ?_
            exact k_iret G hr hlocks hP hS (by rw [f_X3_window, if_pos c_5, if_pos c_14, if_neg c_27, if_neg c_33, if_pos c_42]) rfl (by rw [f_X3_window, if_pos c_5, if_pos c_14, if_neg c_27, if_neg c_33, if_pos c_42]) rfl dX3_window_61
    · refine lv_aload_n G.1 G.2.1 dX3_window_17 rfl (lv_at hl 0 rfl) ?_
      refine lv_iload_n G.1 G.2.1 dX3_window_18 rfl (lv_at hl 1 rfl) ?_
      refine k_Vi (As := [.int p0]) (rest := [.ref (A 34)]) G hP hS hl.1 kl_X3_81 yk_X3_isTold (c_X3_isTold l D A C _ _ _ _ G.2.2.2.2.2.2 p0 ) (kr3 G hP) (by decide) (by decide) rfl (Nat.le_of_ble_eq_true rfl) dX3_window_19 (fun H locs hP hS => ?_)
      refine lv_if_eq (tgt := 45) G.1 G.2.1 dX3_window_22 (by decide) (fun c_22 => ?_) (fun c_22 => ?_)
      · refine lv_iconst (v := 2) G.1 G.2.1 dX3_window_45 (by decide) ?_
        refine lv_goto (tgt := 50) G.1 G.2.1 dX3_window_46 (by decide) ?_
        refine k3_puti G hP hS 0 (by unfold k3i; decide) (by decide) kq_509 rfl rfl rfl rfl dX3_window_50 (fun H locs hP hS => ?_)
        refine lv_aload_n G.1 G.2.1 dX3_window_53 rfl (lv_at hl 0 rfl) ?_
        refine k3_getw (v := 2) G hP 0 (by unfold k3i; decide) (by decide) kq_509 rfl (by rw [kup_at]) dX3_window_54 ?_
        refine lv_if_le (tgt := 62) G.1 G.2.1 dX3_window_57 (by decide) (fun c => absurd c (by decide)) (fun _ => ?_)
        refine lv_iconst (v := 0) G.1 G.2.1 dX3_window_60 (by decide) ?_
        exact k_iret G hr hlocks hP hS (by rw [f_X3_window, if_pos c_5, if_neg c_14, if_pos c_22]) rfl (by rw [f_X3_window, if_pos c_5, if_neg c_14, if_pos c_22]) rfl dX3_window_61
      · refine lv_iload_n G.1 G.2.1 dX3_window_25 rfl (lv_at hl 2 rfl) ?_
        refine lv_iconst (v := 1) G.1 G.2.1 dX3_window_26 (by decide) ?_
        refine lv_icmp_lt (tgt := 45) G.1 G.2.1 dX3_window_27 (by decide) (fun c_27 => ?_) (fun c_27 => ?_)
        · refine lv_iconst (v := 2) G.1 G.2.1 dX3_window_45 (by decide) ?_
          refine lv_goto (tgt := 50) G.1 G.2.1 dX3_window_46 (by decide) ?_
          refine k3_puti G hP hS 0 (by unfold k3i; decide) (by decide) kq_509 rfl rfl rfl rfl dX3_window_50 (fun H locs hP hS => ?_)
          refine lv_aload_n G.1 G.2.1 dX3_window_53 rfl (lv_at hl 0 rfl) ?_
          refine k3_getw (v := 2) G hP 0 (by unfold k3i; decide) (by decide) kq_509 rfl (by rw [kup_at]) dX3_window_54 ?_
          refine lv_if_le (tgt := 62) G.1 G.2.1 dX3_window_57 (by decide) (fun c => absurd c (by decide)) (fun _ => ?_)
          refine lv_iconst (v := 0) G.1 G.2.1 dX3_window_60 (by decide) ?_
          exact k_iret G hr hlocks hP hS (by rw [f_X3_window, if_pos c_5, if_neg c_14, if_neg c_22, if_pos c_27]) rfl (by rw [f_X3_window, if_pos c_5, if_neg c_14, if_neg c_22, if_pos c_27]) rfl dX3_window_61
        · refine lv_iload_n G.1 G.2.1 dX3_window_30 rfl (lv_at hl 2 rfl) ?_
          refine lv_bipush (v := 100) G.1 G.2.1 dX3_window_31 (by decide) ?_
          refine lv_icmp_gt (tgt := 45) G.1 G.2.1 dX3_window_33 (by decide) (fun c_33 => ?_) (fun c_33 => ?_)
          · refine lv_iconst (v := 2) G.1 G.2.1 dX3_window_45 (by decide) ?_
            refine lv_goto (tgt := 50) G.1 G.2.1 dX3_window_46 (by decide) ?_
            refine k3_puti G hP hS 0 (by unfold k3i; decide) (by decide) kq_509 rfl rfl rfl rfl dX3_window_50 (fun H locs hP hS => ?_)
            refine lv_aload_n G.1 G.2.1 dX3_window_53 rfl (lv_at hl 0 rfl) ?_
            refine k3_getw (v := 2) G hP 0 (by unfold k3i; decide) (by decide) kq_509 rfl (by rw [kup_at]) dX3_window_54 ?_
            refine lv_if_le (tgt := 62) G.1 G.2.1 dX3_window_57 (by decide) (fun c => absurd c (by decide)) (fun _ => ?_)
            refine lv_iconst (v := 0) G.1 G.2.1 dX3_window_60 (by decide) ?_
            exact k_iret G hr hlocks hP hS (by rw [f_X3_window, if_pos c_5, if_neg c_14, if_neg c_22, if_neg c_27, if_pos c_33]) rfl (by rw [f_X3_window, if_pos c_5, if_neg c_14, if_neg c_22, if_neg c_27, if_pos c_33]) rfl dX3_window_61
          · refine lv_aload_n G.1 G.2.1 dX3_window_36 rfl (lv_at hl 0 rfl) ?_
            refine k3_geti G hP 12 (by unfold k3i; decide) (by decide) kq_521 rfl dX3_window_37 ?_
            refine lv_bipush (v := 12) G.1 G.2.1 dX3_window_40 (by decide) ?_
            refine lv_icmp_ne (tgt := 49) G.1 G.2.1 dX3_window_42 (by decide) (fun c_42 => ?_) (fun c_42 => ?_)
            · refine lv_iconst (v := 0) G.1 G.2.1 dX3_window_49 (by decide) ?_
              refine k3_puti G hP hS 0 (by unfold k3i; decide) (by decide) kq_509 rfl rfl rfl rfl dX3_window_50 (fun H locs hP hS => ?_)
              refine lv_aload_n G.1 G.2.1 dX3_window_53 rfl (lv_at hl 0 rfl) ?_
              refine k3_getw (v := 0) G hP 0 (by unfold k3i; decide) (by decide) kq_509 rfl (by rw [kup_at]) dX3_window_54 ?_
              refine lv_if_le (tgt := 62) G.1 G.2.1 dX3_window_57 (by decide) (fun _ => ?_) (fun c => absurd c (by decide))
              refine lv_aload_n G.1 G.2.1 dX3_window_62 rfl (lv_at hl 0 rfl) ?_
              refine k3_getr G hP 13 46 (by decide) (fun _ _ => rfl) kq_522 rfl dX3_window_63 ?_
              refine lv_aload_n G.1 G.2.1 dX3_window_66 rfl (lv_at hl 0 rfl) ?_
              refine k3_geti G hP 12 (by unfold k3i; decide) (by decide) kq_521 rfl dX3_window_67 ?_
              refine lv_iload_n G.1 G.2.1 dX3_window_70 rfl (lv_at hl 1 rfl) ?_
              refine kM_ast (r := 46) G hP hS kI_46 (by decide) (by rw [kup_j (by decide)]; exact m_win hI c_42) dX3_window_71 (fun H locs hP hS => ?_)
              refine lv_aload_n G.1 G.2.1 dX3_window_72 rfl (lv_at hl 0 rfl) ?_
              refine k3_getr G hP 14 47 (by decide) (fun _ _ => rfl) kq_523 rfl dX3_window_73 ?_
              refine lv_aload_n G.1 G.2.1 dX3_window_76 rfl (lv_at hl 0 rfl) ?_
              refine k3_geti G hP 12 (by unfold k3i; decide) (by decide) kq_521 rfl dX3_window_77 ?_
              refine lv_iload_n G.1 G.2.1 dX3_window_80 rfl (lv_at hl 2 rfl) ?_
              refine kM_ast (r := 47) G hP hS kI_47 (by decide) (by rw [kup_r (by decide), kup_j (by decide)]; exact m_win hI c_42) dX3_window_81 (fun H locs hP hS => ?_)
              refine lv_aload_n G.1 G.2.1 dX3_window_82 rfl (lv_at hl 0 rfl) ?_
              refine lv_dup G.1 G.2.1 dX3_window_83 rfl ?_
              refine k3_geti G hP 12 (by unfold k3i; decide) (by decide) kq_521 rfl dX3_window_84 ?_
              refine lv_iconst (v := 1) G.1 G.2.1 dX3_window_87 (by decide) ?_
              refine lv_iadd G.1 G.2.1 dX3_window_88 ?_
              refine k3_puti G hP hS 12 (by unfold k3i; decide) (by decide) kq_521 rfl rfl rfl rfl dX3_window_89 (fun H locs hP hS => ?_)
              refine lv_aload_n G.1 G.2.1 dX3_window_92 rfl (lv_at hl 0 rfl) ?_
              refine k3_getw (v := ((kup (kup (kup mu 34 0 0) 46 ((kup mu 34 0 0) 34 12).toNatClampNeg p0) 47 ((kup (kup mu 34 0 0) 46 ((kup mu 34 0 0) 34 12).toNatClampNeg p0) 34 12).toNatClampNeg p1) 34 12) + 1) G hP 12 (by unfold k3i; decide) (by decide) kq_521 rfl (by rw [kup_at]) dX3_window_93 ?_
              exact k_iret G hr hlocks hP hS (by rw [f_X3_window, if_pos c_5, if_neg c_14, if_neg c_22, if_neg c_27, if_neg c_33, if_neg c_42]) rfl (by rw [f_X3_window, if_pos c_5, if_neg c_14, if_neg c_22, if_neg c_27, if_neg c_33, if_neg c_42]) rfl dX3_window_96
            · refine lv_iconst (v := 2) G.1 G.2.1 dX3_window_45 (by decide) ?_
              refine lv_goto (tgt := 50) G.1 G.2.1 dX3_window_46 (by decide) ?_
              refine k3_puti G hP hS 0 (by unfold k3i; decide) (by decide) kq_509 rfl rfl rfl rfl dX3_window_50 (fun H locs hP hS => ?_)
              refine lv_aload_n G.1 G.2.1 dX3_window_53 rfl (lv_at hl 0 rfl) ?_
              refine k3_getw (v := 2) G hP 0 (by unfold k3i; decide) (by decide) kq_509 rfl (by rw [kup_at]) dX3_window_54 ?_
              refine lv_if_le (tgt := 62) G.1 G.2.1 dX3_window_57 (by decide) (fun c => absurd c (by decide)) (fun _ => ?_)
              refine lv_iconst (v := 0) G.1 G.2.1 dX3_window_60 (by decide) ?_
              exact k_iret G hr hlocks hP hS (by rw [f_X3_window, if_pos c_5, if_neg c_14, if_neg c_22, if_neg c_27, if_neg c_33, if_pos c_42]) rfl (by rw [f_X3_window, if_pos c_5, if_neg c_14, if_neg c_22, if_neg c_27, if_neg c_33, if_pos c_42]) rfl dX3_window_61
  · refine lv_iconst (v := 1) G.1 G.2.1 dX3_window_8 (by decide) ?_
    refine lv_goto (tgt := 50) G.1 G.2.1 dX3_window_9 (by decide) ?_
    refine k3_puti G hP hS 0 (by unfold k3i; decide) (by decide) kq_509 rfl rfl rfl rfl dX3_window_50 (fun H locs hP hS => ?_)
    refine lv_aload_n G.1 G.2.1 dX3_window_53 rfl (lv_at hl 0 rfl) ?_
    refine k3_getw (v := 1) G hP 0 (by unfold k3i; decide) (by decide) kq_509 rfl (by rw [kup_at]) dX3_window_54 ?_
    refine lv_if_le (tgt := 62) G.1 G.2.1 dX3_window_57 (by decide) (fun c => absurd c (by decide)) (fun _ => ?_)
    refine lv_iconst (v := 0) G.1 G.2.1 dX3_window_60 (by decide) ?_
    exact k_iret G hr hlocks hP hS (by rw [f_X3_window, if_neg c_5]) rfl (by rw [f_X3_window, if_neg c_5]) rfl dX3_window_61
/-! X3_channel -/
def f_X3_channel (mu : kM) (p0 : Int32) (p1 : Int32) (p2 : Int32) (p3 : Int32) : kM :=
  if p0 < 0 then (if (mu 34 24) = 0 then (kup mu 34 0 2) else (kup mu 34 0 1)) else if (7 : Int32) < p0 then (if (mu 34 24) = 0 then (kup mu 34 0 2) else (kup mu 34 0 1)) else if (mu 48 p0.toNatClampNeg) = 0 then (if (f_X3_isTold mu p1) = 0 then (if (mu 34 24) = 0 then (kup mu 34 0 2) else (kup mu 34 0 1)) else if (f_X3_isTold mu p2) = 0 then (if (mu 34 24) = 0 then (kup mu 34 0 2) else (kup mu 34 0 1)) else if p1 = p2 then (if (mu 34 24) = 0 then (kup mu 34 0 2) else (kup mu 34 0 1)) else if p3 < 0 then (if (mu 34 24) = 0 then (kup mu 34 0 2) else (kup mu 34 0 1)) else if p3 ≤ 8 then (if (mu 34 24) = 0 then (kup (kup (kup (kup (kup mu 34 0 0) 48 p0.toNatClampNeg 1) 49 p0.toNatClampNeg p1) 50 p0.toNatClampNeg p2) 51 p0.toNatClampNeg p3) else (kup mu 34 0 1)) else if (mu 34 24) = 0 then (kup mu 34 0 2) else (kup mu 34 0 1)) else if (mu 34 24) = 0 then (kup mu 34 0 2) else (kup mu 34 0 1)
set_option maxHeartbeats 4000000 in
set_option maxRecDepth 100000 in
theorem c_X3_channel (l : Launch) (D : va_G) (A : Nat → Nat) (C : Nat → ClassId) (ka mu : kM) (o : Int32) (sz : Nat) (hA : kinj A) (p0 : Int32) (p1 : Int32) (p2 : Int32) (p3 : Int32) : kMv l yX3_channel (.code yX3_channel cX3_channel 6 none) ({ frames := 1, cells := 0, slots := 0, locals := 21 }) D A C ka mu o sz [.ref (A 34), .int p0, .int p1, .int p2, .int p3]  ka (f_X3_channel mu p0 p1 p2 p3) o := by
  refine kMv_of hA (by decide) (Nat.le_of_ble_eq_true rfl) (fun p e s m args below meth c G hr hlocks hP hS ls hl => ?_)
  have hl : lv_has ls 6 [(0, .ref (A 34)), (1, .int p0), (2, .int p1), (3, .int p2), (4, .int p3)] := hl
  refine lv_iload_n G.1 G.2.1 dX3_channel_0 rfl (lv_at hl 1 rfl) ?_
  refine lv_if_lt (tgt := 52) G.1 G.2.1 dX3_channel_1 (by decide) (fun c_1 => ?_) (fun c_1 => ?_)
  · refine lv_iconst (v := 1) G.1 G.2.1 dX3_channel_52 (by decide) ?_
    refine lv_goto (tgt := 57) G.1 G.2.1 dX3_channel_53 (by decide) ?_
    refine lv_istore (lv' := [(5, .int 1), (0, .ref (A 34)), (1, .int p0), (2, .int p1), (3, .int p2), (4, .int p3)]) G.1 G.2.1 dX3_channel_57 hl (by decide) rfl (fun ls hl => ?_)
    refine lv_aload_n G.1 G.2.1 dX3_channel_59 rfl (lv_at hl 1 rfl) ?_
    refine lv_aload_n G.1 G.2.1 dX3_channel_60 rfl (lv_at hl 1 rfl) ?_
    refine k3_geti G hP 24 (by unfold k3i; decide) (by decide) kq_533 rfl dX3_channel_61 ?_
    refine lv_if_eq (tgt := 71) G.1 G.2.1 dX3_channel_64 (by decide) (fun c_64 => ?_) (fun c_64 => ?_)
    · refine lv_iload G.1 G.2.1 dX3_channel_71 (lv_at hl 0 rfl) ?_
      refine lv_if_eq (tgt := 80) G.1 G.2.1 dX3_channel_73 (by decide) (fun c => absurd c (by decide)) (fun _ => ?_)
      refine lv_iconst (v := 2) G.1 G.2.1 dX3_channel_76 (by decide) ?_
      refine lv_goto (tgt := 81) G.1 G.2.1 dX3_channel_77 (by decide) ?_
      refine k3_puti G hP hS 0 (by unfold k3i; decide) (by decide) kq_509 rfl rfl rfl rfl dX3_channel_81 (fun H locs hP hS => ?_)
      refine lv_aload_n G.1 G.2.1 dX3_channel_84 rfl (lv_at hl 1 rfl) ?_
      refine k3_getw (v := 2) G hP 0 (by unfold k3i; decide) (by decide) kq_509 rfl (by rw [kup_at]) dX3_channel_85 ?_
      refine lv_if_ne (tgt := 120) G.1 G.2.1 dX3_channel_88 (by decide) (fun _ => ?_) (fun c => absurd c (by decide))
      exact k_vret G hr hlocks hP hS rfl (by rw [f_X3_channel, if_pos c_1, if_pos c_64]) rfl dX3_channel_120
    · refine lv_iconst (v := 1) G.1 G.2.1 dX3_channel_67 (by decide) ?_
      refine lv_goto (tgt := 81) G.1 G.2.1 dX3_channel_68 (by decide) ?_
      refine k3_puti G hP hS 0 (by unfold k3i; decide) (by decide) kq_509 rfl rfl rfl rfl dX3_channel_81 (fun H locs hP hS => ?_)
      refine lv_aload_n G.1 G.2.1 dX3_channel_84 rfl (lv_at hl 1 rfl) ?_
      refine k3_getw (v := 1) G hP 0 (by unfold k3i; decide) (by decide) kq_509 rfl (by rw [kup_at]) dX3_channel_85 ?_
      refine lv_if_ne (tgt := 120) G.1 G.2.1 dX3_channel_88 (by decide) (fun _ => ?_) (fun c => absurd c (by decide))
      exact k_vret G hr hlocks hP hS rfl (by rw [f_X3_channel, if_pos c_1, if_neg c_64]) rfl dX3_channel_120
  · refine lv_iload_n G.1 G.2.1 dX3_channel_4 rfl (lv_at hl 1 rfl) ?_
    refine lv_bipush (v := 7) G.1 G.2.1 dX3_channel_5 (by decide) ?_
    refine lv_icmp_gt (tgt := 52) G.1 G.2.1 dX3_channel_7 (by decide) (fun c_7 => ?_) (fun c_7 => ?_)
    · refine lv_iconst (v := 1) G.1 G.2.1 dX3_channel_52 (by decide) ?_
      refine lv_goto (tgt := 57) G.1 G.2.1 dX3_channel_53 (by decide) ?_
      refine lv_istore (lv' := [(5, .int 1), (0, .ref (A 34)), (1, .int p0), (2, .int p1), (3, .int p2), (4, .int p3)]) G.1 G.2.1 dX3_channel_57 hl (by decide) rfl (fun ls hl => ?_)
      refine lv_aload_n G.1 G.2.1 dX3_channel_59 rfl (lv_at hl 1 rfl) ?_
      refine lv_aload_n G.1 G.2.1 dX3_channel_60 rfl (lv_at hl 1 rfl) ?_
      refine k3_geti G hP 24 (by unfold k3i; decide) (by decide) kq_533 rfl dX3_channel_61 ?_
      refine lv_if_eq (tgt := 71) G.1 G.2.1 dX3_channel_64 (by decide) (fun c_64 => ?_) (fun c_64 => ?_)
      · refine lv_iload G.1 G.2.1 dX3_channel_71 (lv_at hl 0 rfl) ?_
        refine lv_if_eq (tgt := 80) G.1 G.2.1 dX3_channel_73 (by decide) (fun c => absurd c (by decide)) (fun _ => ?_)
        refine lv_iconst (v := 2) G.1 G.2.1 dX3_channel_76 (by decide) ?_
        refine lv_goto (tgt := 81) G.1 G.2.1 dX3_channel_77 (by decide) ?_
        refine k3_puti G hP hS 0 (by unfold k3i; decide) (by decide) kq_509 rfl rfl rfl rfl dX3_channel_81 (fun H locs hP hS => ?_)
        refine lv_aload_n G.1 G.2.1 dX3_channel_84 rfl (lv_at hl 1 rfl) ?_
        refine k3_getw (v := 2) G hP 0 (by unfold k3i; decide) (by decide) kq_509 rfl (by rw [kup_at]) dX3_channel_85 ?_
        refine lv_if_ne (tgt := 120) G.1 G.2.1 dX3_channel_88 (by decide) (fun _ => ?_) (fun c => absurd c (by decide))
        exact k_vret G hr hlocks hP hS rfl (by rw [f_X3_channel, if_neg c_1, if_pos c_7, if_pos c_64]) rfl dX3_channel_120
      · refine lv_iconst (v := 1) G.1 G.2.1 dX3_channel_67 (by decide) ?_
        refine lv_goto (tgt := 81) G.1 G.2.1 dX3_channel_68 (by decide) ?_
        refine k3_puti G hP hS 0 (by unfold k3i; decide) (by decide) kq_509 rfl rfl rfl rfl dX3_channel_81 (fun H locs hP hS => ?_)
        refine lv_aload_n G.1 G.2.1 dX3_channel_84 rfl (lv_at hl 1 rfl) ?_
        refine k3_getw (v := 1) G hP 0 (by unfold k3i; decide) (by decide) kq_509 rfl (by rw [kup_at]) dX3_channel_85 ?_
        refine lv_if_ne (tgt := 120) G.1 G.2.1 dX3_channel_88 (by decide) (fun _ => ?_) (fun c => absurd c (by decide))
        exact k_vret G hr hlocks hP hS rfl (by rw [f_X3_channel, if_neg c_1, if_pos c_7, if_neg c_64]) rfl dX3_channel_120
    · refine lv_aload_n G.1 G.2.1 dX3_channel_10 rfl (lv_at hl 0 rfl) ?_
      refine k3_getr G hP 15 48 (by decide) (fun _ _ => rfl) kq_524 rfl dX3_channel_11 ?_
      refine lv_iload_n G.1 G.2.1 dX3_channel_14 rfl (lv_at hl 1 rfl) ?_
      refine kZ_ald G hP (kin_le (n := 8) (by decide) c_1 c_7) dX3_channel_15 ?_
      refine lv_if_ne (tgt := 52) G.1 G.2.1 dX3_channel_16 (by decide) (fun c_16 => ?_) (fun c_16 => ?_)
      · refine lv_iconst (v := 1) G.1 G.2.1 dX3_channel_52 (by decide) ?_
        refine lv_goto (tgt := 57) G.1 G.2.1 dX3_channel_53 (by decide) ?_
        refine lv_istore (lv' := [(5, .int 1), (0, .ref (A 34)), (1, .int p0), (2, .int p1), (3, .int p2), (4, .int p3)]) G.1 G.2.1 dX3_channel_57 hl (by decide) rfl (fun ls hl => ?_)
        refine lv_aload_n G.1 G.2.1 dX3_channel_59 rfl (lv_at hl 1 rfl) ?_
        refine lv_aload_n G.1 G.2.1 dX3_channel_60 rfl (lv_at hl 1 rfl) ?_
        refine k3_geti G hP 24 (by unfold k3i; decide) (by decide) kq_533 rfl dX3_channel_61 ?_
        refine lv_if_eq (tgt := 71) G.1 G.2.1 dX3_channel_64 (by decide) (fun c_64 => ?_) (fun c_64 => ?_)
        · refine lv_iload G.1 G.2.1 dX3_channel_71 (lv_at hl 0 rfl) ?_
          refine lv_if_eq (tgt := 80) G.1 G.2.1 dX3_channel_73 (by decide) (fun c => absurd c (by decide)) (fun _ => ?_)
          refine lv_iconst (v := 2) G.1 G.2.1 dX3_channel_76 (by decide) ?_
          refine lv_goto (tgt := 81) G.1 G.2.1 dX3_channel_77 (by decide) ?_
          refine k3_puti G hP hS 0 (by unfold k3i; decide) (by decide) kq_509 rfl rfl rfl rfl dX3_channel_81 (fun H locs hP hS => ?_)
          refine lv_aload_n G.1 G.2.1 dX3_channel_84 rfl (lv_at hl 1 rfl) ?_
          refine k3_getw (v := 2) G hP 0 (by unfold k3i; decide) (by decide) kq_509 rfl (by rw [kup_at]) dX3_channel_85 ?_
          refine lv_if_ne (tgt := 120) G.1 G.2.1 dX3_channel_88 (by decide) (fun _ => ?_) (fun c => absurd c (by decide))
          exact k_vret G hr hlocks hP hS rfl (by rw [f_X3_channel, if_neg c_1, if_neg c_7, if_neg c_16, if_pos c_64]) rfl dX3_channel_120
        · refine lv_iconst (v := 1) G.1 G.2.1 dX3_channel_67 (by decide) ?_
          refine lv_goto (tgt := 81) G.1 G.2.1 dX3_channel_68 (by decide) ?_
          refine k3_puti G hP hS 0 (by unfold k3i; decide) (by decide) kq_509 rfl rfl rfl rfl dX3_channel_81 (fun H locs hP hS => ?_)
          refine lv_aload_n G.1 G.2.1 dX3_channel_84 rfl (lv_at hl 1 rfl) ?_
          refine k3_getw (v := 1) G hP 0 (by unfold k3i; decide) (by decide) kq_509 rfl (by rw [kup_at]) dX3_channel_85 ?_
          refine lv_if_ne (tgt := 120) G.1 G.2.1 dX3_channel_88 (by decide) (fun _ => ?_) (fun c => absurd c (by decide))
          exact k_vret G hr hlocks hP hS rfl (by rw [f_X3_channel, if_neg c_1, if_neg c_7, if_neg c_16, if_neg c_64]) rfl dX3_channel_120
      · refine lv_aload_n G.1 G.2.1 dX3_channel_19 rfl (lv_at hl 0 rfl) ?_
        refine lv_iload_n G.1 G.2.1 dX3_channel_20 rfl (lv_at hl 2 rfl) ?_
        refine k_Vi (As := [.int p1]) (rest := []) G hP hS hl.1 kl_X3_81 yk_X3_isTold (c_X3_isTold l D A C _ _ _ _ G.2.2.2.2.2.2 p1 ) (kr3 G hP) (by decide) (by decide) rfl (Nat.le_of_ble_eq_true rfl) dX3_channel_21 (fun H locs hP hS => ?_)
        refine lv_if_eq (tgt := 52) G.1 G.2.1 dX3_channel_24 (by decide) (fun c_24 => ?_) (fun c_24 => ?_)
        · refine lv_iconst (v := 1) G.1 G.2.1 dX3_channel_52 (by decide) ?_
          refine lv_goto (tgt := 57) G.1 G.2.1 dX3_channel_53 (by decide) ?_
          refine lv_istore (lv' := [(5, .int 1), (0, .ref (A 34)), (1, .int p0), (2, .int p1), (3, .int p2), (4, .int p3)]) G.1 G.2.1 dX3_channel_57 hl (by decide) rfl (fun ls hl => ?_)
          refine lv_aload_n G.1 G.2.1 dX3_channel_59 rfl (lv_at hl 1 rfl) ?_
          refine lv_aload_n G.1 G.2.1 dX3_channel_60 rfl (lv_at hl 1 rfl) ?_
          refine k3_geti G hP 24 (by unfold k3i; decide) (by decide) kq_533 rfl dX3_channel_61 ?_
          refine lv_if_eq (tgt := 71) G.1 G.2.1 dX3_channel_64 (by decide) (fun c_64 => ?_) (fun c_64 => ?_)
          · refine lv_iload G.1 G.2.1 dX3_channel_71 (lv_at hl 0 rfl) ?_
            refine lv_if_eq (tgt := 80) G.1 G.2.1 dX3_channel_73 (by decide) (fun c => absurd c (by decide)) (fun _ => ?_)
            refine lv_iconst (v := 2) G.1 G.2.1 dX3_channel_76 (by decide) ?_
            refine lv_goto (tgt := 81) G.1 G.2.1 dX3_channel_77 (by decide) ?_
            refine k3_puti G hP hS 0 (by unfold k3i; decide) (by decide) kq_509 rfl rfl rfl rfl dX3_channel_81 (fun H locs hP hS => ?_)
            refine lv_aload_n G.1 G.2.1 dX3_channel_84 rfl (lv_at hl 1 rfl) ?_
            refine k3_getw (v := 2) G hP 0 (by unfold k3i; decide) (by decide) kq_509 rfl (by rw [kup_at]) dX3_channel_85 ?_
            refine lv_if_ne (tgt := 120) G.1 G.2.1 dX3_channel_88 (by decide) (fun _ => ?_) (fun c => absurd c (by decide))
            exact k_vret G hr hlocks hP hS rfl (by rw [f_X3_channel, if_neg c_1, if_neg c_7, if_pos c_16, if_pos c_24, if_pos c_64]) rfl dX3_channel_120
          · refine lv_iconst (v := 1) G.1 G.2.1 dX3_channel_67 (by decide) ?_
            refine lv_goto (tgt := 81) G.1 G.2.1 dX3_channel_68 (by decide) ?_
            refine k3_puti G hP hS 0 (by unfold k3i; decide) (by decide) kq_509 rfl rfl rfl rfl dX3_channel_81 (fun H locs hP hS => ?_)
            refine lv_aload_n G.1 G.2.1 dX3_channel_84 rfl (lv_at hl 1 rfl) ?_
            refine k3_getw (v := 1) G hP 0 (by unfold k3i; decide) (by decide) kq_509 rfl (by rw [kup_at]) dX3_channel_85 ?_
            refine lv_if_ne (tgt := 120) G.1 G.2.1 dX3_channel_88 (by decide) (fun _ => ?_) (fun c => absurd c (by decide))
            exact k_vret G hr hlocks hP hS rfl (by rw [f_X3_channel, if_neg c_1, if_neg c_7, if_pos c_16, if_pos c_24, if_neg c_64]) rfl dX3_channel_120
        · refine lv_aload_n G.1 G.2.1 dX3_channel_27 rfl (lv_at hl 0 rfl) ?_
          refine lv_iload_n G.1 G.2.1 dX3_channel_28 rfl (lv_at hl 3 rfl) ?_
          refine k_Vi (As := [.int p2]) (rest := []) G hP hS hl.1 kl_X3_81 yk_X3_isTold (c_X3_isTold l D A C _ _ _ _ G.2.2.2.2.2.2 p2 ) (kr3 G hP) (by decide) (by decide) rfl (Nat.le_of_ble_eq_true rfl) dX3_channel_29 (fun H locs hP hS => ?_)
          refine lv_if_eq (tgt := 52) G.1 G.2.1 dX3_channel_32 (by decide) (fun c_32 => ?_) (fun c_32 => ?_)
          · refine lv_iconst (v := 1) G.1 G.2.1 dX3_channel_52 (by decide) ?_
            refine lv_goto (tgt := 57) G.1 G.2.1 dX3_channel_53 (by decide) ?_
            refine lv_istore (lv' := [(5, .int 1), (0, .ref (A 34)), (1, .int p0), (2, .int p1), (3, .int p2), (4, .int p3)]) G.1 G.2.1 dX3_channel_57 hl (by decide) rfl (fun ls hl => ?_)
            refine lv_aload_n G.1 G.2.1 dX3_channel_59 rfl (lv_at hl 1 rfl) ?_
            refine lv_aload_n G.1 G.2.1 dX3_channel_60 rfl (lv_at hl 1 rfl) ?_
            refine k3_geti G hP 24 (by unfold k3i; decide) (by decide) kq_533 rfl dX3_channel_61 ?_
            refine lv_if_eq (tgt := 71) G.1 G.2.1 dX3_channel_64 (by decide) (fun c_64 => ?_) (fun c_64 => ?_)
            · refine lv_iload G.1 G.2.1 dX3_channel_71 (lv_at hl 0 rfl) ?_
              refine lv_if_eq (tgt := 80) G.1 G.2.1 dX3_channel_73 (by decide) (fun c => absurd c (by decide)) (fun _ => ?_)
              refine lv_iconst (v := 2) G.1 G.2.1 dX3_channel_76 (by decide) ?_
              refine lv_goto (tgt := 81) G.1 G.2.1 dX3_channel_77 (by decide) ?_
              refine k3_puti G hP hS 0 (by unfold k3i; decide) (by decide) kq_509 rfl rfl rfl rfl dX3_channel_81 (fun H locs hP hS => ?_)
              refine lv_aload_n G.1 G.2.1 dX3_channel_84 rfl (lv_at hl 1 rfl) ?_
              refine k3_getw (v := 2) G hP 0 (by unfold k3i; decide) (by decide) kq_509 rfl (by rw [kup_at]) dX3_channel_85 ?_
              refine lv_if_ne (tgt := 120) G.1 G.2.1 dX3_channel_88 (by decide) (fun _ => ?_) (fun c => absurd c (by decide))
              exact k_vret G hr hlocks hP hS rfl (by rw [f_X3_channel, if_neg c_1, if_neg c_7, if_pos c_16, if_neg c_24, if_pos c_32, if_pos c_64]) rfl dX3_channel_120
            · refine lv_iconst (v := 1) G.1 G.2.1 dX3_channel_67 (by decide) ?_
              refine lv_goto (tgt := 81) G.1 G.2.1 dX3_channel_68 (by decide) ?_
              refine k3_puti G hP hS 0 (by unfold k3i; decide) (by decide) kq_509 rfl rfl rfl rfl dX3_channel_81 (fun H locs hP hS => ?_)
              refine lv_aload_n G.1 G.2.1 dX3_channel_84 rfl (lv_at hl 1 rfl) ?_
              refine k3_getw (v := 1) G hP 0 (by unfold k3i; decide) (by decide) kq_509 rfl (by rw [kup_at]) dX3_channel_85 ?_
              refine lv_if_ne (tgt := 120) G.1 G.2.1 dX3_channel_88 (by decide) (fun _ => ?_) (fun c => absurd c (by decide))
              exact k_vret G hr hlocks hP hS rfl (by rw [f_X3_channel, if_neg c_1, if_neg c_7, if_pos c_16, if_neg c_24, if_pos c_32, if_neg c_64]) rfl dX3_channel_120
          · refine lv_iload_n G.1 G.2.1 dX3_channel_35 rfl (lv_at hl 2 rfl) ?_
            refine lv_iload_n G.1 G.2.1 dX3_channel_36 rfl (lv_at hl 3 rfl) ?_
            refine lv_icmp_eq (tgt := 52) G.1 G.2.1 dX3_channel_37 (by decide) (fun c_37 => ?_) (fun c_37 => ?_)
            · refine lv_iconst (v := 1) G.1 G.2.1 dX3_channel_52 (by decide) ?_
              refine lv_goto (tgt := 57) G.1 G.2.1 dX3_channel_53 (by decide) ?_
              refine lv_istore (lv' := [(5, .int 1), (0, .ref (A 34)), (1, .int p0), (2, .int p1), (3, .int p2), (4, .int p3)]) G.1 G.2.1 dX3_channel_57 hl (by decide) rfl (fun ls hl => ?_)
              refine lv_aload_n G.1 G.2.1 dX3_channel_59 rfl (lv_at hl 1 rfl) ?_
              refine lv_aload_n G.1 G.2.1 dX3_channel_60 rfl (lv_at hl 1 rfl) ?_
              refine k3_geti G hP 24 (by unfold k3i; decide) (by decide) kq_533 rfl dX3_channel_61 ?_
              refine lv_if_eq (tgt := 71) G.1 G.2.1 dX3_channel_64 (by decide) (fun c_64 => ?_) (fun c_64 => ?_)
              · refine lv_iload G.1 G.2.1 dX3_channel_71 (lv_at hl 0 rfl) ?_
                refine lv_if_eq (tgt := 80) G.1 G.2.1 dX3_channel_73 (by decide) (fun c => absurd c (by decide)) (fun _ => ?_)
                refine lv_iconst (v := 2) G.1 G.2.1 dX3_channel_76 (by decide) ?_
                refine lv_goto (tgt := 81) G.1 G.2.1 dX3_channel_77 (by decide) ?_
                refine k3_puti G hP hS 0 (by unfold k3i; decide) (by decide) kq_509 rfl rfl rfl rfl dX3_channel_81 (fun H locs hP hS => ?_)
                refine lv_aload_n G.1 G.2.1 dX3_channel_84 rfl (lv_at hl 1 rfl) ?_
                refine k3_getw (v := 2) G hP 0 (by unfold k3i; decide) (by decide) kq_509 rfl (by rw [kup_at]) dX3_channel_85 ?_
                refine lv_if_ne (tgt := 120) G.1 G.2.1 dX3_channel_88 (by decide) (fun _ => ?_) (fun c => absurd c (by decide))
                exact k_vret G hr hlocks hP hS rfl (by rw [f_X3_channel, if_neg c_1, if_neg c_7, if_pos c_16, if_neg c_24, if_neg c_32, if_pos c_37, if_pos c_64]) rfl dX3_channel_120
              · refine lv_iconst (v := 1) G.1 G.2.1 dX3_channel_67 (by decide) ?_
                refine lv_goto (tgt := 81) G.1 G.2.1 dX3_channel_68 (by decide) ?_
                refine k3_puti G hP hS 0 (by unfold k3i; decide) (by decide) kq_509 rfl rfl rfl rfl dX3_channel_81 (fun H locs hP hS => ?_)
                refine lv_aload_n G.1 G.2.1 dX3_channel_84 rfl (lv_at hl 1 rfl) ?_
                refine k3_getw (v := 1) G hP 0 (by unfold k3i; decide) (by decide) kq_509 rfl (by rw [kup_at]) dX3_channel_85 ?_
                refine lv_if_ne (tgt := 120) G.1 G.2.1 dX3_channel_88 (by decide) (fun _ => ?_) (fun c => absurd c (by decide))
                exact k_vret G hr hlocks hP hS rfl (by rw [f_X3_channel, if_neg c_1, if_neg c_7, if_pos c_16, if_neg c_24, if_neg c_32, if_pos c_37, if_neg c_64]) rfl dX3_channel_120
            · refine lv_iload G.1 G.2.1 dX3_channel_40 (lv_at hl 4 rfl) ?_
              refine lv_if_lt (tgt := 52) G.1 G.2.1 dX3_channel_42 (by decide) (fun c_42 => ?_) (fun c_42 => ?_)
              · refine lv_iconst (v := 1) G.1 G.2.1 dX3_channel_52 (by decide) ?_
                refine lv_goto (tgt := 57) G.1 G.2.1 dX3_channel_53 (by decide) ?_
                refine lv_istore (lv' := [(5, .int 1), (0, .ref (A 34)), (1, .int p0), (2, .int p1), (3, .int p2), (4, .int p3)]) G.1 G.2.1 dX3_channel_57 hl (by decide) rfl (fun ls hl => ?_)
                refine lv_aload_n G.1 G.2.1 dX3_channel_59 rfl (lv_at hl 1 rfl) ?_
                refine lv_aload_n G.1 G.2.1 dX3_channel_60 rfl (lv_at hl 1 rfl) ?_
                refine k3_geti G hP 24 (by unfold k3i; decide) (by decide) kq_533 rfl dX3_channel_61 ?_
                refine lv_if_eq (tgt := 71) G.1 G.2.1 dX3_channel_64 (by decide) (fun c_64 => ?_) (fun c_64 => ?_)
                · refine lv_iload G.1 G.2.1 dX3_channel_71 (lv_at hl 0 rfl) ?_
                  refine lv_if_eq (tgt := 80) G.1 G.2.1 dX3_channel_73 (by decide) (fun c => absurd c (by decide)) (fun _ => ?_)
                  refine lv_iconst (v := 2) G.1 G.2.1 dX3_channel_76 (by decide) ?_
                  refine lv_goto (tgt := 81) G.1 G.2.1 dX3_channel_77 (by decide) ?_
                  refine k3_puti G hP hS 0 (by unfold k3i; decide) (by decide) kq_509 rfl rfl rfl rfl dX3_channel_81 (fun H locs hP hS => ?_)
                  refine lv_aload_n G.1 G.2.1 dX3_channel_84 rfl (lv_at hl 1 rfl) ?_
                  refine k3_getw (v := 2) G hP 0 (by unfold k3i; decide) (by decide) kq_509 rfl (by rw [kup_at]) dX3_channel_85 ?_
                  refine lv_if_ne (tgt := 120) G.1 G.2.1 dX3_channel_88 (by decide) (fun _ => ?_) (fun c => absurd c (by decide))
                  exact k_vret G hr hlocks hP hS rfl (by rw [f_X3_channel, if_neg c_1, if_neg c_7, if_pos c_16, if_neg c_24, if_neg c_32, if_neg c_37, if_pos c_42, if_pos c_64]) rfl dX3_channel_120
                · refine lv_iconst (v := 1) G.1 G.2.1 dX3_channel_67 (by decide) ?_
                  refine lv_goto (tgt := 81) G.1 G.2.1 dX3_channel_68 (by decide) ?_
                  refine k3_puti G hP hS 0 (by unfold k3i; decide) (by decide) kq_509 rfl rfl rfl rfl dX3_channel_81 (fun H locs hP hS => ?_)
                  refine lv_aload_n G.1 G.2.1 dX3_channel_84 rfl (lv_at hl 1 rfl) ?_
                  refine k3_getw (v := 1) G hP 0 (by unfold k3i; decide) (by decide) kq_509 rfl (by rw [kup_at]) dX3_channel_85 ?_
                  refine lv_if_ne (tgt := 120) G.1 G.2.1 dX3_channel_88 (by decide) (fun _ => ?_) (fun c => absurd c (by decide))
                  exact k_vret G hr hlocks hP hS rfl (by rw [f_X3_channel, if_neg c_1, if_neg c_7, if_pos c_16, if_neg c_24, if_neg c_32, if_neg c_37, if_pos c_42, if_neg c_64]) rfl dX3_channel_120
              · refine lv_iload G.1 G.2.1 dX3_channel_45 (lv_at hl 4 rfl) ?_
                refine lv_bipush (v := 8) G.1 G.2.1 dX3_channel_47 (by decide) ?_
                refine lv_icmp_le (tgt := 56) G.1 G.2.1 dX3_channel_49 (by decide) (fun c_49 => ?_) (fun c_49 => ?_)
                · refine lv_iconst (v := 0) G.1 G.2.1 dX3_channel_56 (by decide) ?_
                  refine lv_istore (lv' := [(5, .int 0), (0, .ref (A 34)), (1, .int p0), (2, .int p1), (3, .int p2), (4, .int p3)]) G.1 G.2.1 dX3_channel_57 hl (by decide) rfl (fun ls hl => ?_)
                  refine lv_aload_n G.1 G.2.1 dX3_channel_59 rfl (lv_at hl 1 rfl) ?_
                  refine lv_aload_n G.1 G.2.1 dX3_channel_60 rfl (lv_at hl 1 rfl) ?_
                  refine k3_geti G hP 24 (by unfold k3i; decide) (by decide) kq_533 rfl dX3_channel_61 ?_
                  refine lv_if_eq (tgt := 71) G.1 G.2.1 dX3_channel_64 (by decide) (fun c_64 => ?_) (fun c_64 => ?_)
                  · refine lv_iload G.1 G.2.1 dX3_channel_71 (lv_at hl 0 rfl) ?_
                    refine lv_if_eq (tgt := 80) G.1 G.2.1 dX3_channel_73 (by decide) (fun _ => ?_) (fun c => absurd c (by decide))
                    refine lv_iconst (v := 0) G.1 G.2.1 dX3_channel_80 (by decide) ?_
                    refine k3_puti G hP hS 0 (by unfold k3i; decide) (by decide) kq_509 rfl rfl rfl rfl dX3_channel_81 (fun H locs hP hS => ?_)
                    refine lv_aload_n G.1 G.2.1 dX3_channel_84 rfl (lv_at hl 1 rfl) ?_
                    refine k3_getw (v := 0) G hP 0 (by unfold k3i; decide) (by decide) kq_509 rfl (by rw [kup_at]) dX3_channel_85 ?_
                    refine lv_if_ne (tgt := 120) G.1 G.2.1 dX3_channel_88 (by decide) (fun c => absurd c (by decide)) (fun _ => ?_)
                    refine lv_aload_n G.1 G.2.1 dX3_channel_91 rfl (lv_at hl 1 rfl) ?_
                    refine k3_getr G hP 15 48 (by decide) (fun _ _ => rfl) kq_524 rfl dX3_channel_92 ?_
                    refine lv_iload_n G.1 G.2.1 dX3_channel_95 rfl (lv_at hl 2 rfl) ?_
                    refine lv_iconst (v := 1) G.1 G.2.1 dX3_channel_96 (by decide) ?_
                    refine kZ_ast G hP hS (by decide) (kin_le (n := 8) (by decide) c_1 c_7) dX3_channel_97 (fun H locs hP hS => ?_)
                    refine lv_aload_n G.1 G.2.1 dX3_channel_98 rfl (lv_at hl 1 rfl) ?_
                    refine k3_getr G hP 16 49 (by decide) (fun _ _ => rfl) kq_525 rfl dX3_channel_99 ?_
                    refine lv_iload_n G.1 G.2.1 dX3_channel_102 rfl (lv_at hl 2 rfl) ?_
                    refine lv_iload_n G.1 G.2.1 dX3_channel_103 rfl (lv_at hl 3 rfl) ?_
                    refine kM_ast (r := 49) G hP hS kI_49 (by decide) (kin_le (n := 8) (by decide) c_1 c_7) dX3_channel_104 (fun H locs hP hS => ?_)
                    refine lv_aload_n G.1 G.2.1 dX3_channel_105 rfl (lv_at hl 1 rfl) ?_
                    refine k3_getr G hP 17 50 (by decide) (fun _ _ => rfl) kq_526 rfl dX3_channel_106 ?_
                    refine lv_iload_n G.1 G.2.1 dX3_channel_109 rfl (lv_at hl 2 rfl) ?_
                    refine lv_iload_n G.1 G.2.1 dX3_channel_110 rfl (lv_at hl 4 rfl) ?_
                    refine kM_ast (r := 50) G hP hS kI_50 (by decide) (kin_le (n := 8) (by decide) c_1 c_7) dX3_channel_111 (fun H locs hP hS => ?_)
                    refine lv_aload_n G.1 G.2.1 dX3_channel_112 rfl (lv_at hl 1 rfl) ?_
                    refine k3_getr G hP 18 51 (by decide) (fun _ _ => rfl) kq_527 rfl dX3_channel_113 ?_
                    refine lv_iload_n G.1 G.2.1 dX3_channel_116 rfl (lv_at hl 2 rfl) ?_
                    refine lv_iload G.1 G.2.1 dX3_channel_117 (lv_at hl 5 rfl) ?_
                    refine kM_ast (r := 51) G hP hS kI_51 (by decide) (kin_le (n := 8) (by decide) c_1 c_7) dX3_channel_119 (fun H locs hP hS => ?_)
                    exact k_vret G hr hlocks hP hS rfl (by rw [f_X3_channel, if_neg c_1, if_neg c_7, if_pos c_16, if_neg c_24, if_neg c_32, if_neg c_37, if_neg c_42, if_pos c_49, if_pos c_64]) rfl dX3_channel_120
                  · refine lv_iconst (v := 1) G.1 G.2.1 dX3_channel_67 (by decide) ?_
                    refine lv_goto (tgt := 81) G.1 G.2.1 dX3_channel_68 (by decide) ?_
                    refine k3_puti G hP hS 0 (by unfold k3i; decide) (by decide) kq_509 rfl rfl rfl rfl dX3_channel_81 (fun H locs hP hS => ?_)
                    refine lv_aload_n G.1 G.2.1 dX3_channel_84 rfl (lv_at hl 1 rfl) ?_
                    refine k3_getw (v := 1) G hP 0 (by unfold k3i; decide) (by decide) kq_509 rfl (by rw [kup_at]) dX3_channel_85 ?_
                    refine lv_if_ne (tgt := 120) G.1 G.2.1 dX3_channel_88 (by decide) (fun _ => ?_) (fun c => absurd c (by decide))
                    exact k_vret G hr hlocks hP hS rfl (by rw [f_X3_channel, if_neg c_1, if_neg c_7, if_pos c_16, if_neg c_24, if_neg c_32, if_neg c_37, if_neg c_42, if_pos c_49, if_neg c_64]) rfl dX3_channel_120
                · refine lv_iconst (v := 1) G.1 G.2.1 dX3_channel_52 (by decide) ?_
                  refine lv_goto (tgt := 57) G.1 G.2.1 dX3_channel_53 (by decide) ?_
                  refine lv_istore (lv' := [(5, .int 1), (0, .ref (A 34)), (1, .int p0), (2, .int p1), (3, .int p2), (4, .int p3)]) G.1 G.2.1 dX3_channel_57 hl (by decide) rfl (fun ls hl => ?_)
                  refine lv_aload_n G.1 G.2.1 dX3_channel_59 rfl (lv_at hl 1 rfl) ?_
                  refine lv_aload_n G.1 G.2.1 dX3_channel_60 rfl (lv_at hl 1 rfl) ?_
                  refine k3_geti G hP 24 (by unfold k3i; decide) (by decide) kq_533 rfl dX3_channel_61 ?_
                  refine lv_if_eq (tgt := 71) G.1 G.2.1 dX3_channel_64 (by decide) (fun c_64 => ?_) (fun c_64 => ?_)
                  · refine lv_iload G.1 G.2.1 dX3_channel_71 (lv_at hl 0 rfl) ?_
                    refine lv_if_eq (tgt := 80) G.1 G.2.1 dX3_channel_73 (by decide) (fun c => absurd c (by decide)) (fun _ => ?_)
                    refine lv_iconst (v := 2) G.1 G.2.1 dX3_channel_76 (by decide) ?_
                    refine lv_goto (tgt := 81) G.1 G.2.1 dX3_channel_77 (by decide) ?_
                    refine k3_puti G hP hS 0 (by unfold k3i; decide) (by decide) kq_509 rfl rfl rfl rfl dX3_channel_81 (fun H locs hP hS => ?_)
                    refine lv_aload_n G.1 G.2.1 dX3_channel_84 rfl (lv_at hl 1 rfl) ?_
                    refine k3_getw (v := 2) G hP 0 (by unfold k3i; decide) (by decide) kq_509 rfl (by rw [kup_at]) dX3_channel_85 ?_
                    refine lv_if_ne (tgt := 120) G.1 G.2.1 dX3_channel_88 (by decide) (fun _ => ?_) (fun c => absurd c (by decide))
                    exact k_vret G hr hlocks hP hS rfl (by rw [f_X3_channel, if_neg c_1, if_neg c_7, if_pos c_16, if_neg c_24, if_neg c_32, if_neg c_37, if_neg c_42, if_neg c_49, if_pos c_64]) rfl dX3_channel_120
                  · refine lv_iconst (v := 1) G.1 G.2.1 dX3_channel_67 (by decide) ?_
                    refine lv_goto (tgt := 81) G.1 G.2.1 dX3_channel_68 (by decide) ?_
                    refine k3_puti G hP hS 0 (by unfold k3i; decide) (by decide) kq_509 rfl rfl rfl rfl dX3_channel_81 (fun H locs hP hS => ?_)
                    refine lv_aload_n G.1 G.2.1 dX3_channel_84 rfl (lv_at hl 1 rfl) ?_
                    refine k3_getw (v := 1) G hP 0 (by unfold k3i; decide) (by decide) kq_509 rfl (by rw [kup_at]) dX3_channel_85 ?_
                    refine lv_if_ne (tgt := 120) G.1 G.2.1 dX3_channel_88 (by decide) (fun _ => ?_) (fun c => absurd c (by decide))
                    exact k_vret G hr hlocks hP hS rfl (by rw [f_X3_channel, if_neg c_1, if_neg c_7, if_pos c_16, if_neg c_24, if_neg c_32, if_neg c_37, if_neg c_42, if_neg c_49, if_neg c_64]) rfl dX3_channel_120
/-! X3_poke -/
def f_X3_poke (mu : kM) (p0 : Int32) (p1 : Int32) (p2 : Int32) : Int32 × kM :=
  if (mu 34 24) = 0 then (if (f_X3_isTold mu p0) = 0 then (0, kup mu 34 0 2) else if (f_X3_noWord mu p0 p1) = 0 then ((kup mu 34 0 0) 35 (((kup mu 34 0 0) 36 p0.toNatClampNeg) + p1).toNatClampNeg, kup (kup mu 34 0 0) 35 (((kup mu 34 0 0) 36 p0.toNatClampNeg) + p1).toNatClampNeg p2) else (0, kup mu 34 0 3)) else (0, kup mu 34 0 1)
set_option maxHeartbeats 4000000 in
set_option maxRecDepth 100000 in
theorem c_X3_poke (l : Launch) (D : va_G) (A : Nat → Nat) (C : Nat → ClassId) (ka mu : kM) (o : Int32) (sz : Nat) (hA : kinj A) (p0 : Int32) (p1 : Int32) (p2 : Int32) (hI : mInv mu) : kMi l yX3_poke (.code yX3_poke cX3_poke 5 (some .int)) ({ frames := 1, cells := 0, slots := 0, locals := 22 }) D A C ka mu o sz [.ref (A 34), .int p0, .int p1, .int p2] ((f_X3_poke mu p0 p1 p2).1) ka ((f_X3_poke mu p0 p1 p2).2) o := by
  refine kMi_of hA (by decide) (Nat.le_of_ble_eq_true rfl) (fun p e s m args below meth c G hr hlocks hP hS ls hl => ?_)
  have hl : lv_has ls 5 [(0, .ref (A 34)), (1, .int p0), (2, .int p1), (3, .int p2)] := hl
  refine lv_aload_n G.1 G.2.1 dX3_poke_0 rfl (lv_at hl 0 rfl) ?_
  refine lv_aload_n G.1 G.2.1 dX3_poke_1 rfl (lv_at hl 0 rfl) ?_
  refine k3_geti G hP 24 (by unfold k3i; decide) (by decide) kq_533 rfl dX3_poke_2 ?_
  refine lv_if_eq (tgt := 12) G.1 G.2.1 dX3_poke_5 (by decide) (fun c_5 => ?_) (fun c_5 => ?_)
  · refine lv_aload_n G.1 G.2.1 dX3_poke_12 rfl (lv_at hl 0 rfl) ?_
    refine lv_iload_n G.1 G.2.1 dX3_poke_13 rfl (lv_at hl 1 rfl) ?_
    refine k_Vi (As := [.int p0]) (rest := [.ref (A 34)]) G hP hS hl.1 kl_X3_81 yk_X3_isTold (c_X3_isTold l D A C _ _ _ _ G.2.2.2.2.2.2 p0 ) (kr3 G hP) (by decide) (by decide) rfl (Nat.le_of_ble_eq_true rfl) dX3_poke_14 (fun H locs hP hS => ?_)
    refine lv_if_ne (tgt := 24) G.1 G.2.1 dX3_poke_17 (by decide) (fun c_17 => ?_) (fun c_17 => ?_)
    · refine lv_aload_n G.1 G.2.1 dX3_poke_24 rfl (lv_at hl 0 rfl) ?_
      refine lv_iload_n G.1 G.2.1 dX3_poke_25 rfl (lv_at hl 1 rfl) ?_
      refine lv_iload_n G.1 G.2.1 dX3_poke_26 rfl (lv_at hl 2 rfl) ?_
      refine k_Vi (As := [.int p0, .int p1]) (rest := [.ref (A 34)]) G hP hS hl.1 kl_X3_96 yk_X3_noWord (c_X3_noWord l D A C _ _ _ _ G.2.2.2.2.2.2 p0 p1 (m_told c_17)) (kr3 G hP) (by decide) (by decide) rfl (Nat.le_of_ble_eq_true rfl) dX3_poke_27 (fun H locs hP hS => ?_)
      refine lv_if_eq (tgt := 37) G.1 G.2.1 dX3_poke_30 (by decide) (fun c_30 => ?_) (fun c_30 => ?_)
      · refine lv_iconst (v := 0) G.1 G.2.1 dX3_poke_37 (by decide) ?_
        refine k3_puti G hP hS 0 (by unfold k3i; decide) (by decide) kq_509 rfl rfl rfl rfl dX3_poke_38 (fun H locs hP hS => ?_)
        refine lv_aload_n G.1 G.2.1 dX3_poke_41 rfl (lv_at hl 0 rfl) ?_
        refine k3_getw (v := 0) G hP 0 (by unfold k3i; decide) (by decide) kq_509 rfl (by rw [kup_at]) dX3_poke_42 ?_
        refine lv_if_le (tgt := 50) G.1 G.2.1 dX3_poke_45 (by decide) (fun _ => ?_) (fun c => absurd c (by decide))
        refine lv_aload_n G.1 G.2.1 dX3_poke_50 rfl (lv_at hl 0 rfl) ?_
        refine k3_getr G hP 1 35 (by decide) (fun _ _ => rfl) kq_510 rfl dX3_poke_51 ?_
        refine lv_aload_n G.1 G.2.1 dX3_poke_54 rfl (lv_at hl 0 rfl) ?_
        refine k3_getr G hP 2 36 (by decide) (fun _ _ => rfl) kq_511 rfl dX3_poke_55 ?_
        refine lv_iload_n G.1 G.2.1 dX3_poke_58 rfl (lv_at hl 1 rfl) ?_
        refine kM_ald (r := 36) G hP kI_36 (by decide) (m_told c_17) dX3_poke_59 ?_
        refine lv_iload_n G.1 G.2.1 dX3_poke_60 rfl (lv_at hl 2 rfl) ?_
        refine lv_iadd G.1 G.2.1 dX3_poke_61 ?_
        refine kM_ald (r := 35) G hP kI_35 (by decide) (by rw [kup_r (by decide)]; exact m_mem hI (m_told c_17) c_30) dX3_poke_62 ?_
        refine lv_istore (lv' := [(4, .int ((kup mu 34 0 0) 35 (((kup mu 34 0 0) 36 p0.toNatClampNeg) + p1).toNatClampNeg)), (0, .ref (A 34)), (1, .int p0), (2, .int p1), (3, .int p2)]) G.1 G.2.1 dX3_poke_63 hl (by decide) rfl (fun ls hl => ?_)
        refine lv_aload_n G.1 G.2.1 dX3_poke_65 rfl (lv_at hl 1 rfl) ?_
        refine k3_getr G hP 1 35 (by decide) (fun _ _ => rfl) kq_510 rfl dX3_poke_66 ?_
        refine lv_aload_n G.1 G.2.1 dX3_poke_69 rfl (lv_at hl 1 rfl) ?_
        refine k3_getr G hP 2 36 (by decide) (fun _ _ => rfl) kq_511 rfl dX3_poke_70 ?_
        refine lv_iload_n G.1 G.2.1 dX3_poke_73 rfl (lv_at hl 2 rfl) ?_
        refine kM_ald (r := 36) G hP kI_36 (by decide) (m_told c_17) dX3_poke_74 ?_
        refine lv_iload_n G.1 G.2.1 dX3_poke_75 rfl (lv_at hl 3 rfl) ?_
        refine lv_iadd G.1 G.2.1 dX3_poke_76 ?_
        refine lv_iload_n G.1 G.2.1 dX3_poke_77 rfl (lv_at hl 4 rfl) ?_
        refine kM_ast (r := 35) G hP hS kI_35 (by decide) (by rw [kup_r (by decide)]; exact m_mem hI (m_told c_17) c_30) dX3_poke_78 (fun H locs hP hS => ?_)
        refine lv_iload G.1 G.2.1 dX3_poke_79 (lv_at hl 0 rfl) ?_
        exact k_iret G hr hlocks hP hS (by rw [f_X3_poke, if_pos c_5, if_neg c_17, if_pos c_30]) rfl (by rw [f_X3_poke, if_pos c_5, if_neg c_17, if_pos c_30]) rfl dX3_poke_81
      · refine lv_iconst (v := 3) G.1 G.2.1 dX3_poke_33 (by decide) ?_
        refine lv_goto (tgt := 38) G.1 G.2.1 dX3_poke_34 (by decide) ?_
        refine k3_puti G hP hS 0 (by unfold k3i; decide) (by decide) kq_509 rfl rfl rfl rfl dX3_poke_38 (fun H locs hP hS => ?_)
        refine lv_aload_n G.1 G.2.1 dX3_poke_41 rfl (lv_at hl 0 rfl) ?_
        refine k3_getw (v := 3) G hP 0 (by unfold k3i; decide) (by decide) kq_509 rfl (by rw [kup_at]) dX3_poke_42 ?_
        refine lv_if_le (tgt := 50) G.1 G.2.1 dX3_poke_45 (by decide) (fun c => absurd c (by decide)) (fun _ => ?_)
        refine lv_iconst (v := 0) G.1 G.2.1 dX3_poke_48 (by decide) ?_
        exact k_iret G hr hlocks hP hS (by rw [f_X3_poke, if_pos c_5, if_neg c_17, if_neg c_30]) rfl (by rw [f_X3_poke, if_pos c_5, if_neg c_17, if_neg c_30]) rfl dX3_poke_49
    · refine lv_iconst (v := 2) G.1 G.2.1 dX3_poke_20 (by decide) ?_
      refine lv_goto (tgt := 38) G.1 G.2.1 dX3_poke_21 (by decide) ?_
      refine k3_puti G hP hS 0 (by unfold k3i; decide) (by decide) kq_509 rfl rfl rfl rfl dX3_poke_38 (fun H locs hP hS => ?_)
      refine lv_aload_n G.1 G.2.1 dX3_poke_41 rfl (lv_at hl 0 rfl) ?_
      refine k3_getw (v := 2) G hP 0 (by unfold k3i; decide) (by decide) kq_509 rfl (by rw [kup_at]) dX3_poke_42 ?_
      refine lv_if_le (tgt := 50) G.1 G.2.1 dX3_poke_45 (by decide) (fun c => absurd c (by decide)) (fun _ => ?_)
      refine lv_iconst (v := 0) G.1 G.2.1 dX3_poke_48 (by decide) ?_
      exact k_iret G hr hlocks hP hS (by rw [f_X3_poke, if_pos c_5, if_pos c_17]) rfl (by rw [f_X3_poke, if_pos c_5, if_pos c_17]) rfl dX3_poke_49
  · refine lv_iconst (v := 1) G.1 G.2.1 dX3_poke_8 (by decide) ?_
    refine lv_goto (tgt := 38) G.1 G.2.1 dX3_poke_9 (by decide) ?_
    refine k3_puti G hP hS 0 (by unfold k3i; decide) (by decide) kq_509 rfl rfl rfl rfl dX3_poke_38 (fun H locs hP hS => ?_)
    refine lv_aload_n G.1 G.2.1 dX3_poke_41 rfl (lv_at hl 0 rfl) ?_
    refine k3_getw (v := 1) G hP 0 (by unfold k3i; decide) (by decide) kq_509 rfl (by rw [kup_at]) dX3_poke_42 ?_
    refine lv_if_le (tgt := 50) G.1 G.2.1 dX3_poke_45 (by decide) (fun c => absurd c (by decide)) (fun _ => ?_)
    refine lv_iconst (v := 0) G.1 G.2.1 dX3_poke_48 (by decide) ?_
    exact k_iret G hr hlocks hP hS (by rw [f_X3_poke, if_neg c_5]) rfl (by rw [f_X3_poke, if_neg c_5]) rfl dX3_poke_49
/-! X3_peek -/
def f_X3_peek (mu : kM) (p0 : Int32) (p1 : Int32) : Int32 × kM :=
  if (f_X3_isTold mu p0) = 0 then (0, kup mu 34 0 1) else if (f_X3_noWord mu p0 p1) = 0 then ((kup mu 34 0 0) 35 (((kup mu 34 0 0) 36 p0.toNatClampNeg) + p1).toNatClampNeg, kup mu 34 0 0) else (0, kup mu 34 0 2)
set_option maxHeartbeats 4000000 in
set_option maxRecDepth 100000 in
theorem c_X3_peek (l : Launch) (D : va_G) (A : Nat → Nat) (C : Nat → ClassId) (ka mu : kM) (o : Int32) (sz : Nat) (hA : kinj A) (p0 : Int32) (p1 : Int32) (hI : mInv mu) : kMi l yX3_peek (.code yX3_peek cX3_peek 3 (some .int)) ({ frames := 1, cells := 0, slots := 0, locals := 22 }) D A C ka mu o sz [.ref (A 34), .int p0, .int p1] ((f_X3_peek mu p0 p1).1) ka ((f_X3_peek mu p0 p1).2) o := by
  refine kMi_of hA (by decide) (Nat.le_of_ble_eq_true rfl) (fun p e s m args below meth c G hr hlocks hP hS ls hl => ?_)
  have hl : lv_has ls 3 [(0, .ref (A 34)), (1, .int p0), (2, .int p1)] := hl
  refine lv_aload_n G.1 G.2.1 dX3_peek_0 rfl (lv_at hl 0 rfl) ?_
  refine lv_aload_n G.1 G.2.1 dX3_peek_1 rfl (lv_at hl 0 rfl) ?_
  refine lv_iload_n G.1 G.2.1 dX3_peek_2 rfl (lv_at hl 1 rfl) ?_
  refine k_Vi (As := [.int p0]) (rest := [.ref (A 34)]) G hP hS hl.1 kl_X3_81 yk_X3_isTold (c_X3_isTold l D A C _ _ _ _ G.2.2.2.2.2.2 p0 ) (kr3 G hP) (by decide) (by decide) rfl (Nat.le_of_ble_eq_true rfl) dX3_peek_3 (fun H locs hP hS => ?_)
  refine lv_if_ne (tgt := 13) G.1 G.2.1 dX3_peek_6 (by decide) (fun c_6 => ?_) (fun c_6 => ?_)
  · refine lv_aload_n G.1 G.2.1 dX3_peek_13 rfl (lv_at hl 0 rfl) ?_
    refine lv_iload_n G.1 G.2.1 dX3_peek_14 rfl (lv_at hl 1 rfl) ?_
    refine lv_iload_n G.1 G.2.1 dX3_peek_15 rfl (lv_at hl 2 rfl) ?_
    refine k_Vi (As := [.int p0, .int p1]) (rest := [.ref (A 34)]) G hP hS hl.1 kl_X3_96 yk_X3_noWord (c_X3_noWord l D A C _ _ _ _ G.2.2.2.2.2.2 p0 p1 (m_told c_6)) (kr3 G hP) (by decide) (by decide) rfl (Nat.le_of_ble_eq_true rfl) dX3_peek_16 (fun H locs hP hS => ?_)
    refine lv_if_eq (tgt := 26) G.1 G.2.1 dX3_peek_19 (by decide) (fun c_19 => ?_) (fun c_19 => ?_)
    · refine lv_iconst (v := 0) G.1 G.2.1 dX3_peek_26 (by decide) ?_
      refine k3_puti G hP hS 0 (by unfold k3i; decide) (by decide) kq_509 rfl rfl rfl rfl dX3_peek_27 (fun H locs hP hS => ?_)
      refine lv_aload_n G.1 G.2.1 dX3_peek_30 rfl (lv_at hl 0 rfl) ?_
      refine k3_getw (v := 0) G hP 0 (by unfold k3i; decide) (by decide) kq_509 rfl (by rw [kup_at]) dX3_peek_31 ?_
      refine lv_if_le (tgt := 41) G.1 G.2.1 dX3_peek_34 (by decide) (fun _ => ?_) (fun c => absurd c (by decide))
      refine lv_aload_n G.1 G.2.1 dX3_peek_41 rfl (lv_at hl 0 rfl) ?_
      refine k3_getr G hP 1 35 (by decide) (fun _ _ => rfl) kq_510 rfl dX3_peek_42 ?_
      refine lv_aload_n G.1 G.2.1 dX3_peek_45 rfl (lv_at hl 0 rfl) ?_
      refine k3_getr G hP 2 36 (by decide) (fun _ _ => rfl) kq_511 rfl dX3_peek_46 ?_
      refine lv_iload_n G.1 G.2.1 dX3_peek_49 rfl (lv_at hl 1 rfl) ?_
      refine kM_ald (r := 36) G hP kI_36 (by decide) (m_told c_6) dX3_peek_50 ?_
      refine lv_iload_n G.1 G.2.1 dX3_peek_51 rfl (lv_at hl 2 rfl) ?_
      refine lv_iadd G.1 G.2.1 dX3_peek_52 ?_
      refine kM_ald (r := 35) G hP kI_35 (by decide) (by rw [kup_r (by decide)]; exact m_mem hI (m_told c_6) c_19) dX3_peek_53 ?_
      exact k_iret G hr hlocks hP hS (by rw [f_X3_peek, if_neg c_6, if_pos c_19]) rfl (by rw [f_X3_peek, if_neg c_6, if_pos c_19]) rfl dX3_peek_54
    · refine lv_iconst (v := 2) G.1 G.2.1 dX3_peek_22 (by decide) ?_
      refine lv_goto (tgt := 27) G.1 G.2.1 dX3_peek_23 (by decide) ?_
      refine k3_puti G hP hS 0 (by unfold k3i; decide) (by decide) kq_509 rfl rfl rfl rfl dX3_peek_27 (fun H locs hP hS => ?_)
      refine lv_aload_n G.1 G.2.1 dX3_peek_30 rfl (lv_at hl 0 rfl) ?_
      refine k3_getw (v := 2) G hP 0 (by unfold k3i; decide) (by decide) kq_509 rfl (by rw [kup_at]) dX3_peek_31 ?_
      refine lv_if_le (tgt := 41) G.1 G.2.1 dX3_peek_34 (by decide) (fun c => absurd c (by decide)) (fun _ => ?_)
      refine lv_iconst (v := 0) G.1 G.2.1 dX3_peek_37 (by decide) ?_
      refine lv_goto (tgt := 54) G.1 G.2.1 dX3_peek_38 (by decide) ?_
      exact k_iret G hr hlocks hP hS (by rw [f_X3_peek, if_neg c_6, if_neg c_19]) rfl (by rw [f_X3_peek, if_neg c_6, if_neg c_19]) rfl dX3_peek_54
  · refine lv_iconst (v := 1) G.1 G.2.1 dX3_peek_9 (by decide) ?_
    refine lv_goto (tgt := 27) G.1 G.2.1 dX3_peek_10 (by decide) ?_
    refine k3_puti G hP hS 0 (by unfold k3i; decide) (by decide) kq_509 rfl rfl rfl rfl dX3_peek_27 (fun H locs hP hS => ?_)
    refine lv_aload_n G.1 G.2.1 dX3_peek_30 rfl (lv_at hl 0 rfl) ?_
    refine k3_getw (v := 1) G hP 0 (by unfold k3i; decide) (by decide) kq_509 rfl (by rw [kup_at]) dX3_peek_31 ?_
    refine lv_if_le (tgt := 41) G.1 G.2.1 dX3_peek_34 (by decide) (fun c => absurd c (by decide)) (fun _ => ?_)
    refine lv_iconst (v := 0) G.1 G.2.1 dX3_peek_37 (by decide) ?_
    refine lv_goto (tgt := 54) G.1 G.2.1 dX3_peek_38 (by decide) ?_
    exact k_iret G hr hlocks hP hS (by rw [f_X3_peek, if_pos c_6]) rfl (by rw [f_X3_peek, if_pos c_6]) rfl dX3_peek_54
/-! X3_told -/
def f_X3_told (mu : kM) (p0 : Int32) (p1 : Int32) : Int32 × kM :=
  if p0 < 0 then (0, kup mu 34 0 1) else if (5 : Int32) < p0 then (0, kup mu 34 0 1) else if p1 < 0 then (0, kup mu 34 0 1) else if p1 ≤ 9 then (if p1 = 0 then ((kup mu 34 0 0) 39 p0.toNatClampNeg, kup mu 34 0 0) else if p1 ≤ 1 then (if p1 = 1 then ((kup mu 34 0 0) 40 p0.toNatClampNeg, kup mu 34 0 0) else if p1 = 6 then ((kup mu 34 0 0) 42 p0.toNatClampNeg, kup mu 34 0 0) else if p1 = 7 then ((kup mu 34 0 0) 43 p0.toNatClampNeg, kup mu 34 0 0) else if p1 = 8 then ((kup mu 34 0 0) 44 p0.toNatClampNeg, kup mu 34 0 0) else ((kup mu 34 0 0) 45 p0.toNatClampNeg, kup mu 34 0 0)) else if (6 : Int32) ≤ p1 then (if p1 = 1 then ((kup mu 34 0 0) 40 p0.toNatClampNeg, kup mu 34 0 0) else if p1 = 6 then ((kup mu 34 0 0) 42 p0.toNatClampNeg, kup mu 34 0 0) else if p1 = 7 then ((kup mu 34 0 0) 43 p0.toNatClampNeg, kup mu 34 0 0) else if p1 = 8 then ((kup mu 34 0 0) 44 p0.toNatClampNeg, kup mu 34 0 0) else ((kup mu 34 0 0) 45 p0.toNatClampNeg, kup mu 34 0 0)) else ((kup mu 34 0 0) 41 ((((4 : Int32) * p0) + p1) - 2).toNatClampNeg, kup mu 34 0 0)) else (0, kup mu 34 0 1)
set_option maxHeartbeats 4000000 in
set_option maxRecDepth 100000 in
theorem c_X3_told (l : Launch) (D : va_G) (A : Nat → Nat) (C : Nat → ClassId) (ka mu : kM) (o : Int32) (sz : Nat) (hA : kinj A) (p0 : Int32) (p1 : Int32) : kMi l yX3_told (.code yX3_told cX3_told 3 (some .int)) ({ frames := 0, cells := 0, slots := 0, locals := 0 }) D A C ka mu o sz [.ref (A 34), .int p0, .int p1] ((f_X3_told mu p0 p1).1) ka ((f_X3_told mu p0 p1).2) o := by
  refine kMi_of hA (by decide) (Nat.le_of_ble_eq_true rfl) (fun p e s m args below meth c G hr hlocks hP hS ls hl => ?_)
  have hl : lv_has ls 3 [(0, .ref (A 34)), (1, .int p0), (2, .int p1)] := hl
  refine lv_aload_n G.1 G.2.1 dX3_told_0 rfl (lv_at hl 0 rfl) ?_
  refine lv_iload_n G.1 G.2.1 dX3_told_1 rfl (lv_at hl 1 rfl) ?_
  refine lv_if_lt (tgt := 20) G.1 G.2.1 dX3_told_2 (by decide) (fun c_2 => ?_) (fun c_2 => ?_)
  · refine lv_iconst (v := 1) G.1 G.2.1 dX3_told_20 (by decide) ?_
    refine lv_goto (tgt := 25) G.1 G.2.1 dX3_told_21 (by decide) ?_
    refine k3_puti G hP hS 0 (by unfold k3i; decide) (by decide) kq_509 rfl rfl rfl rfl dX3_told_25 (fun H locs hP hS => ?_)
    refine lv_aload_n G.1 G.2.1 dX3_told_28 rfl (lv_at hl 0 rfl) ?_
    refine k3_getw (v := 1) G hP 0 (by unfold k3i; decide) (by decide) kq_509 rfl (by rw [kup_at]) dX3_told_29 ?_
    refine lv_if_le (tgt := 37) G.1 G.2.1 dX3_told_32 (by decide) (fun c => absurd c (by decide)) (fun _ => ?_)
    refine lv_iconst (v := 0) G.1 G.2.1 dX3_told_35 (by decide) ?_
    exact k_iret G hr hlocks hP hS (by rw [f_X3_told, if_pos c_2]) rfl (by rw [f_X3_told, if_pos c_2]) rfl dX3_told_36
  · refine lv_iload_n G.1 G.2.1 dX3_told_5 rfl (lv_at hl 1 rfl) ?_
    refine lv_iconst (v := 5) G.1 G.2.1 dX3_told_6 (by decide) ?_
    refine lv_icmp_gt (tgt := 20) G.1 G.2.1 dX3_told_7 (by decide) (fun c_7 => ?_) (fun c_7 => ?_)
    · refine lv_iconst (v := 1) G.1 G.2.1 dX3_told_20 (by decide) ?_
      refine lv_goto (tgt := 25) G.1 G.2.1 dX3_told_21 (by decide) ?_
      refine k3_puti G hP hS 0 (by unfold k3i; decide) (by decide) kq_509 rfl rfl rfl rfl dX3_told_25 (fun H locs hP hS => ?_)
      refine lv_aload_n G.1 G.2.1 dX3_told_28 rfl (lv_at hl 0 rfl) ?_
      refine k3_getw (v := 1) G hP 0 (by unfold k3i; decide) (by decide) kq_509 rfl (by rw [kup_at]) dX3_told_29 ?_
      refine lv_if_le (tgt := 37) G.1 G.2.1 dX3_told_32 (by decide) (fun c => absurd c (by decide)) (fun _ => ?_)
      refine lv_iconst (v := 0) G.1 G.2.1 dX3_told_35 (by decide) ?_
      exact k_iret G hr hlocks hP hS (by rw [f_X3_told, if_neg c_2, if_pos c_7]) rfl (by rw [f_X3_told, if_neg c_2, if_pos c_7]) rfl dX3_told_36
    · refine lv_iload_n G.1 G.2.1 dX3_told_10 rfl (lv_at hl 2 rfl) ?_
      refine lv_if_lt (tgt := 20) G.1 G.2.1 dX3_told_11 (by decide) (fun c_11 => ?_) (fun c_11 => ?_)
      · refine lv_iconst (v := 1) G.1 G.2.1 dX3_told_20 (by decide) ?_
        refine lv_goto (tgt := 25) G.1 G.2.1 dX3_told_21 (by decide) ?_
        refine k3_puti G hP hS 0 (by unfold k3i; decide) (by decide) kq_509 rfl rfl rfl rfl dX3_told_25 (fun H locs hP hS => ?_)
        refine lv_aload_n G.1 G.2.1 dX3_told_28 rfl (lv_at hl 0 rfl) ?_
        refine k3_getw (v := 1) G hP 0 (by unfold k3i; decide) (by decide) kq_509 rfl (by rw [kup_at]) dX3_told_29 ?_
        refine lv_if_le (tgt := 37) G.1 G.2.1 dX3_told_32 (by decide) (fun c => absurd c (by decide)) (fun _ => ?_)
        refine lv_iconst (v := 0) G.1 G.2.1 dX3_told_35 (by decide) ?_
        exact k_iret G hr hlocks hP hS (by rw [f_X3_told, if_neg c_2, if_neg c_7, if_pos c_11]) rfl (by rw [f_X3_told, if_neg c_2, if_neg c_7, if_pos c_11]) rfl dX3_told_36
      · refine lv_iload_n G.1 G.2.1 dX3_told_14 rfl (lv_at hl 2 rfl) ?_
        refine lv_bipush (v := 9) G.1 G.2.1 dX3_told_15 (by decide) ?_
        refine lv_icmp_le (tgt := 24) G.1 G.2.1 dX3_told_17 (by decide) (fun c_17 => ?_) (fun c_17 => ?_)
        · refine lv_iconst (v := 0) G.1 G.2.1 dX3_told_24 (by decide) ?_
          refine k3_puti G hP hS 0 (by unfold k3i; decide) (by decide) kq_509 rfl rfl rfl rfl dX3_told_25 (fun H locs hP hS => ?_)
          refine lv_aload_n G.1 G.2.1 dX3_told_28 rfl (lv_at hl 0 rfl) ?_
          refine k3_getw (v := 0) G hP 0 (by unfold k3i; decide) (by decide) kq_509 rfl (by rw [kup_at]) dX3_told_29 ?_
          refine lv_if_le (tgt := 37) G.1 G.2.1 dX3_told_32 (by decide) (fun _ => ?_) (fun c => absurd c (by decide))
          refine lv_iload_n G.1 G.2.1 dX3_told_37 rfl (lv_at hl 2 rfl) ?_
          refine lv_if_ne (tgt := 48) G.1 G.2.1 dX3_told_38 (by decide) (fun c_38 => ?_) (fun c_38 => ?_)
          · refine lv_iload_n G.1 G.2.1 dX3_told_48 rfl (lv_at hl 2 rfl) ?_
            refine lv_iconst (v := 1) G.1 G.2.1 dX3_told_49 (by decide) ?_
            refine lv_icmp_le (tgt := 72) G.1 G.2.1 dX3_told_50 (by decide) (fun c_50 => ?_) (fun c_50 => ?_)
            · refine lv_iload_n G.1 G.2.1 dX3_told_72 rfl (lv_at hl 2 rfl) ?_
              refine lv_iconst (v := 1) G.1 G.2.1 dX3_told_73 (by decide) ?_
              refine lv_icmp_ne (tgt := 86) G.1 G.2.1 dX3_told_74 (by decide) (fun c_74 => ?_) (fun c_74 => ?_)
              · refine lv_iload_n G.1 G.2.1 dX3_told_86 rfl (lv_at hl 2 rfl) ?_
                refine lv_bipush (v := 6) G.1 G.2.1 dX3_told_87 (by decide) ?_
                refine lv_icmp_ne (tgt := 101) G.1 G.2.1 dX3_told_89 (by decide) (fun c_89 => ?_) (fun c_89 => ?_)
                · refine lv_iload_n G.1 G.2.1 dX3_told_101 rfl (lv_at hl 2 rfl) ?_
                  refine lv_bipush (v := 7) G.1 G.2.1 dX3_told_102 (by decide) ?_
                  refine lv_icmp_ne (tgt := 116) G.1 G.2.1 dX3_told_104 (by decide) (fun c_104 => ?_) (fun c_104 => ?_)
                  · refine lv_iload_n G.1 G.2.1 dX3_told_116 rfl (lv_at hl 2 rfl) ?_
                    refine lv_bipush (v := 8) G.1 G.2.1 dX3_told_117 (by decide) ?_
                    refine lv_icmp_ne (tgt := 131) G.1 G.2.1 dX3_told_119 (by decide) (fun c_119 => ?_) (fun c_119 => ?_)
                    · refine lv_aload_n G.1 G.2.1 dX3_told_131 rfl (lv_at hl 0 rfl) ?_
                      refine k3_getr G hP 11 45 (by decide) (fun _ _ => rfl) kq_520 rfl dX3_told_132 ?_
                      refine lv_iload_n G.1 G.2.1 dX3_told_135 rfl (lv_at hl 1 rfl) ?_
                      refine kM_ald (r := 45) G hP kI_45 (by decide) (kin_le (n := 6) (by decide) c_2 c_7) dX3_told_136 ?_
                      exact k_iret G hr hlocks hP hS (by rw [f_X3_told, if_neg c_2, if_neg c_7, if_neg c_11, if_pos c_17, if_neg c_38, if_pos c_50, if_neg c_74, if_neg c_89, if_neg c_104, if_neg c_119]) rfl (by rw [f_X3_told, if_neg c_2, if_neg c_7, if_neg c_11, if_pos c_17, if_neg c_38, if_pos c_50, if_neg c_74, if_neg c_89, if_neg c_104, if_neg c_119]) rfl dX3_told_137
                    · refine lv_aload_n G.1 G.2.1 dX3_told_122 rfl (lv_at hl 0 rfl) ?_
                      refine k3_getr G hP 10 44 (by decide) (fun _ _ => rfl) kq_519 rfl dX3_told_123 ?_
                      refine lv_iload_n G.1 G.2.1 dX3_told_126 rfl (lv_at hl 1 rfl) ?_
                      refine kM_ald (r := 44) G hP kI_44 (by decide) (kin_le (n := 6) (by decide) c_2 c_7) dX3_told_127 ?_
                      refine lv_goto (tgt := 137) G.1 G.2.1 dX3_told_128 (by decide) ?_
                      exact k_iret G hr hlocks hP hS (by rw [f_X3_told, if_neg c_2, if_neg c_7, if_neg c_11, if_pos c_17, if_neg c_38, if_pos c_50, if_neg c_74, if_neg c_89, if_neg c_104, if_pos c_119]) rfl (by rw [f_X3_told, if_neg c_2, if_neg c_7, if_neg c_11, if_pos c_17, if_neg c_38, if_pos c_50, if_neg c_74, if_neg c_89, if_neg c_104, if_pos c_119]) rfl dX3_told_137
                  · refine lv_aload_n G.1 G.2.1 dX3_told_107 rfl (lv_at hl 0 rfl) ?_
                    refine k3_getr G hP 9 43 (by decide) (fun _ _ => rfl) kq_518 rfl dX3_told_108 ?_
                    refine lv_iload_n G.1 G.2.1 dX3_told_111 rfl (lv_at hl 1 rfl) ?_
                    refine kM_ald (r := 43) G hP kI_43 (by decide) (kin_le (n := 6) (by decide) c_2 c_7) dX3_told_112 ?_
                    refine lv_goto (tgt := 137) G.1 G.2.1 dX3_told_113 (by decide) ?_
                    exact k_iret G hr hlocks hP hS (by rw [f_X3_told, if_neg c_2, if_neg c_7, if_neg c_11, if_pos c_17, if_neg c_38, if_pos c_50, if_neg c_74, if_neg c_89, if_pos c_104]) rfl (by rw [f_X3_told, if_neg c_2, if_neg c_7, if_neg c_11, if_pos c_17, if_neg c_38, if_pos c_50, if_neg c_74, if_neg c_89, if_pos c_104]) rfl dX3_told_137
                · refine lv_aload_n G.1 G.2.1 dX3_told_92 rfl (lv_at hl 0 rfl) ?_
                  refine k3_getr G hP 8 42 (by decide) (fun _ _ => rfl) kq_517 rfl dX3_told_93 ?_
                  refine lv_iload_n G.1 G.2.1 dX3_told_96 rfl (lv_at hl 1 rfl) ?_
                  refine kM_ald (r := 42) G hP kI_42 (by decide) (kin_le (n := 6) (by decide) c_2 c_7) dX3_told_97 ?_
                  refine lv_goto (tgt := 137) G.1 G.2.1 dX3_told_98 (by decide) ?_
                  exact k_iret G hr hlocks hP hS (by rw [f_X3_told, if_neg c_2, if_neg c_7, if_neg c_11, if_pos c_17, if_neg c_38, if_pos c_50, if_neg c_74, if_pos c_89]) rfl (by rw [f_X3_told, if_neg c_2, if_neg c_7, if_neg c_11, if_pos c_17, if_neg c_38, if_pos c_50, if_neg c_74, if_pos c_89]) rfl dX3_told_137
              · refine lv_aload_n G.1 G.2.1 dX3_told_77 rfl (lv_at hl 0 rfl) ?_
                refine k3_getr G hP 6 40 (by decide) (fun _ _ => rfl) kq_515 rfl dX3_told_78 ?_
                refine lv_iload_n G.1 G.2.1 dX3_told_81 rfl (lv_at hl 1 rfl) ?_
                refine kM_ald (r := 40) G hP kI_40 (by decide) (kin_le (n := 6) (by decide) c_2 c_7) dX3_told_82 ?_
                refine lv_goto (tgt := 137) G.1 G.2.1 dX3_told_83 (by decide) ?_
                exact k_iret G hr hlocks hP hS (by rw [f_X3_told, if_neg c_2, if_neg c_7, if_neg c_11, if_pos c_17, if_neg c_38, if_pos c_50, if_pos c_74]) rfl (by rw [f_X3_told, if_neg c_2, if_neg c_7, if_neg c_11, if_pos c_17, if_neg c_38, if_pos c_50, if_pos c_74]) rfl dX3_told_137
            · refine lv_iload_n G.1 G.2.1 dX3_told_53 rfl (lv_at hl 2 rfl) ?_
              refine lv_bipush (v := 6) G.1 G.2.1 dX3_told_54 (by decide) ?_
              refine lv_icmp_ge (tgt := 72) G.1 G.2.1 dX3_told_56 (by decide) (fun c_56 => ?_) (fun c_56 => ?_)
              · refine lv_iload_n G.1 G.2.1 dX3_told_72 rfl (lv_at hl 2 rfl) ?_
                refine lv_iconst (v := 1) G.1 G.2.1 dX3_told_73 (by decide) ?_
                refine lv_icmp_ne (tgt := 86) G.1 G.2.1 dX3_told_74 (by decide) (fun c_74 => ?_) (fun c_74 => ?_)
                · refine lv_iload_n G.1 G.2.1 dX3_told_86 rfl (lv_at hl 2 rfl) ?_
                  refine lv_bipush (v := 6) G.1 G.2.1 dX3_told_87 (by decide) ?_
                  refine lv_icmp_ne (tgt := 101) G.1 G.2.1 dX3_told_89 (by decide) (fun c_89 => ?_) (fun c_89 => ?_)
                  · refine lv_iload_n G.1 G.2.1 dX3_told_101 rfl (lv_at hl 2 rfl) ?_
                    refine lv_bipush (v := 7) G.1 G.2.1 dX3_told_102 (by decide) ?_
                    refine lv_icmp_ne (tgt := 116) G.1 G.2.1 dX3_told_104 (by decide) (fun c_104 => ?_) (fun c_104 => ?_)
                    · refine lv_iload_n G.1 G.2.1 dX3_told_116 rfl (lv_at hl 2 rfl) ?_
                      refine lv_bipush (v := 8) G.1 G.2.1 dX3_told_117 (by decide) ?_
                      refine lv_icmp_ne (tgt := 131) G.1 G.2.1 dX3_told_119 (by decide) (fun c_119 => ?_) (fun c_119 => ?_)
                      · refine lv_aload_n G.1 G.2.1 dX3_told_131 rfl (lv_at hl 0 rfl) ?_
                        refine k3_getr G hP 11 45 (by decide) (fun _ _ => rfl) kq_520 rfl dX3_told_132 ?_
                        refine lv_iload_n G.1 G.2.1 dX3_told_135 rfl (lv_at hl 1 rfl) ?_
                        refine kM_ald (r := 45) G hP kI_45 (by decide) (kin_le (n := 6) (by decide) c_2 c_7) dX3_told_136 ?_
                        exact k_iret G hr hlocks hP hS (by rw [f_X3_told, if_neg c_2, if_neg c_7, if_neg c_11, if_pos c_17, if_neg c_38, if_neg c_50, if_pos c_56, if_neg c_74, if_neg c_89, if_neg c_104, if_neg c_119]) rfl (by rw [f_X3_told, if_neg c_2, if_neg c_7, if_neg c_11, if_pos c_17, if_neg c_38, if_neg c_50, if_pos c_56, if_neg c_74, if_neg c_89, if_neg c_104, if_neg c_119]) rfl dX3_told_137
                      · refine lv_aload_n G.1 G.2.1 dX3_told_122 rfl (lv_at hl 0 rfl) ?_
                        refine k3_getr G hP 10 44 (by decide) (fun _ _ => rfl) kq_519 rfl dX3_told_123 ?_
                        refine lv_iload_n G.1 G.2.1 dX3_told_126 rfl (lv_at hl 1 rfl) ?_
                        refine kM_ald (r := 44) G hP kI_44 (by decide) (kin_le (n := 6) (by decide) c_2 c_7) dX3_told_127 ?_
                        refine lv_goto (tgt := 137) G.1 G.2.1 dX3_told_128 (by decide) ?_
                        exact k_iret G hr hlocks hP hS (by rw [f_X3_told, if_neg c_2, if_neg c_7, if_neg c_11, if_pos c_17, if_neg c_38, if_neg c_50, if_pos c_56, if_neg c_74, if_neg c_89, if_neg c_104, if_pos c_119]) rfl (by rw [f_X3_told, if_neg c_2, if_neg c_7, if_neg c_11, if_pos c_17, if_neg c_38, if_neg c_50, if_pos c_56, if_neg c_74, if_neg c_89, if_neg c_104, if_pos c_119]) rfl dX3_told_137
                    · refine lv_aload_n G.1 G.2.1 dX3_told_107 rfl (lv_at hl 0 rfl) ?_
                      refine k3_getr G hP 9 43 (by decide) (fun _ _ => rfl) kq_518 rfl dX3_told_108 ?_
                      refine lv_iload_n G.1 G.2.1 dX3_told_111 rfl (lv_at hl 1 rfl) ?_
                      refine kM_ald (r := 43) G hP kI_43 (by decide) (kin_le (n := 6) (by decide) c_2 c_7) dX3_told_112 ?_
                      refine lv_goto (tgt := 137) G.1 G.2.1 dX3_told_113 (by decide) ?_
                      exact k_iret G hr hlocks hP hS (by rw [f_X3_told, if_neg c_2, if_neg c_7, if_neg c_11, if_pos c_17, if_neg c_38, if_neg c_50, if_pos c_56, if_neg c_74, if_neg c_89, if_pos c_104]) rfl (by rw [f_X3_told, if_neg c_2, if_neg c_7, if_neg c_11, if_pos c_17, if_neg c_38, if_neg c_50, if_pos c_56, if_neg c_74, if_neg c_89, if_pos c_104]) rfl dX3_told_137
                  · refine lv_aload_n G.1 G.2.1 dX3_told_92 rfl (lv_at hl 0 rfl) ?_
                    refine k3_getr G hP 8 42 (by decide) (fun _ _ => rfl) kq_517 rfl dX3_told_93 ?_
                    refine lv_iload_n G.1 G.2.1 dX3_told_96 rfl (lv_at hl 1 rfl) ?_
                    refine kM_ald (r := 42) G hP kI_42 (by decide) (kin_le (n := 6) (by decide) c_2 c_7) dX3_told_97 ?_
                    refine lv_goto (tgt := 137) G.1 G.2.1 dX3_told_98 (by decide) ?_
                    exact k_iret G hr hlocks hP hS (by rw [f_X3_told, if_neg c_2, if_neg c_7, if_neg c_11, if_pos c_17, if_neg c_38, if_neg c_50, if_pos c_56, if_neg c_74, if_pos c_89]) rfl (by rw [f_X3_told, if_neg c_2, if_neg c_7, if_neg c_11, if_pos c_17, if_neg c_38, if_neg c_50, if_pos c_56, if_neg c_74, if_pos c_89]) rfl dX3_told_137
                · refine lv_aload_n G.1 G.2.1 dX3_told_77 rfl (lv_at hl 0 rfl) ?_
                  refine k3_getr G hP 6 40 (by decide) (fun _ _ => rfl) kq_515 rfl dX3_told_78 ?_
                  refine lv_iload_n G.1 G.2.1 dX3_told_81 rfl (lv_at hl 1 rfl) ?_
                  refine kM_ald (r := 40) G hP kI_40 (by decide) (kin_le (n := 6) (by decide) c_2 c_7) dX3_told_82 ?_
                  refine lv_goto (tgt := 137) G.1 G.2.1 dX3_told_83 (by decide) ?_
                  exact k_iret G hr hlocks hP hS (by rw [f_X3_told, if_neg c_2, if_neg c_7, if_neg c_11, if_pos c_17, if_neg c_38, if_neg c_50, if_pos c_56, if_pos c_74]) rfl (by rw [f_X3_told, if_neg c_2, if_neg c_7, if_neg c_11, if_pos c_17, if_neg c_38, if_neg c_50, if_pos c_56, if_pos c_74]) rfl dX3_told_137
              · refine lv_aload_n G.1 G.2.1 dX3_told_59 rfl (lv_at hl 0 rfl) ?_
                refine k3_getr G hP 7 41 (by decide) (fun _ _ => rfl) kq_516 rfl dX3_told_60 ?_
                refine lv_iconst (v := 4) G.1 G.2.1 dX3_told_63 (by decide) ?_
                refine lv_iload_n G.1 G.2.1 dX3_told_64 rfl (lv_at hl 1 rfl) ?_
                refine lv_imul G.1 G.2.1 dX3_told_65 ?_
                refine lv_iload_n G.1 G.2.1 dX3_told_66 rfl (lv_at hl 2 rfl) ?_
                refine lv_iadd G.1 G.2.1 dX3_told_67 ?_
                refine lv_iconst (v := 2) G.1 G.2.1 dX3_told_68 (by decide) ?_
                refine lv_isub G.1 G.2.1 dX3_told_69 ?_
                refine kM_ald (r := 41) G hP kI_41 (by decide) (kin4s (kin_le (n := 6) (by decide) c_2 c_7) c_50 c_56) dX3_told_70 ?_
                exact k_iret G hr hlocks hP hS (by rw [f_X3_told, if_neg c_2, if_neg c_7, if_neg c_11, if_pos c_17, if_neg c_38, if_neg c_50, if_neg c_56]) rfl (by rw [f_X3_told, if_neg c_2, if_neg c_7, if_neg c_11, if_pos c_17, if_neg c_38, if_neg c_50, if_neg c_56]) rfl dX3_told_71
          · refine lv_aload_n G.1 G.2.1 dX3_told_41 rfl (lv_at hl 0 rfl) ?_
            refine k3_getr G hP 5 39 (by decide) (fun _ _ => rfl) kq_514 rfl dX3_told_42 ?_
            refine lv_iload_n G.1 G.2.1 dX3_told_45 rfl (lv_at hl 1 rfl) ?_
            refine kM_ald (r := 39) G hP kI_39 (by decide) (kin_le (n := 6) (by decide) c_2 c_7) dX3_told_46 ?_
            exact k_iret G hr hlocks hP hS (by rw [f_X3_told, if_neg c_2, if_neg c_7, if_neg c_11, if_pos c_17, if_pos c_38]) rfl (by rw [f_X3_told, if_neg c_2, if_neg c_7, if_neg c_11, if_pos c_17, if_pos c_38]) rfl dX3_told_47
        · refine lv_iconst (v := 1) G.1 G.2.1 dX3_told_20 (by decide) ?_
          refine lv_goto (tgt := 25) G.1 G.2.1 dX3_told_21 (by decide) ?_
          refine k3_puti G hP hS 0 (by unfold k3i; decide) (by decide) kq_509 rfl rfl rfl rfl dX3_told_25 (fun H locs hP hS => ?_)
          refine lv_aload_n G.1 G.2.1 dX3_told_28 rfl (lv_at hl 0 rfl) ?_
          refine k3_getw (v := 1) G hP 0 (by unfold k3i; decide) (by decide) kq_509 rfl (by rw [kup_at]) dX3_told_29 ?_
          refine lv_if_le (tgt := 37) G.1 G.2.1 dX3_told_32 (by decide) (fun c => absurd c (by decide)) (fun _ => ?_)
          refine lv_iconst (v := 0) G.1 G.2.1 dX3_told_35 (by decide) ?_
          exact k_iret G hr hlocks hP hS (by rw [f_X3_told, if_neg c_2, if_neg c_7, if_neg c_11, if_neg c_17]) rfl (by rw [f_X3_told, if_neg c_2, if_neg c_7, if_neg c_11, if_neg c_17]) rfl dX3_told_36
/-! X3_has -/
def f_X3_has (mu : kM) (p0 : Int32) (p1 : Int32) : Int32 × kM :=
  if (f_X3_noChannel mu p0) = 0 then (if p1 < 0 then (0, kup mu 34 0 1) else if p1 ≤ 4 then (if p1 = 0 then ((kup mu 34 0 0) 53 p0.toNatClampNeg, kup mu 34 0 0) else if p1 = 1 then (if ((kup mu 34 0 0) 53 p0.toNatClampNeg) ≤ 0 then (0, kup mu 34 0 0) else ((kup mu 34 0 0) 52 ((8 : Int32) * p0).toNatClampNeg, kup mu 34 0 0)) else if p1 = 2 then (if ((kup mu 34 0 0) 51 p0.toNatClampNeg) = 0 then ((kup mu 34 0 0) 54 p0.toNatClampNeg, kup mu 34 0 0) else (0, kup mu 34 0 0)) else if p1 = 3 then ((kup mu 34 0 0) 55 p0.toNatClampNeg, kup mu 34 0 0) else ((kup mu 34 0 0) 56 p0.toNatClampNeg, kup mu 34 0 0)) else (0, kup mu 34 0 1)) else (0, kup mu 34 0 1)
set_option maxHeartbeats 4000000 in
set_option maxRecDepth 100000 in
theorem c_X3_has (l : Launch) (D : va_G) (A : Nat → Nat) (C : Nat → ClassId) (ka mu : kM) (o : Int32) (sz : Nat) (hA : kinj A) (p0 : Int32) (p1 : Int32) : kMi l yX3_has (.code yX3_has cX3_has 3 (some .int)) ({ frames := 1, cells := 0, slots := 0, locals := 21 }) D A C ka mu o sz [.ref (A 34), .int p0, .int p1] ((f_X3_has mu p0 p1).1) ka ((f_X3_has mu p0 p1).2) o := by
  refine kMi_of hA (by decide) (Nat.le_of_ble_eq_true rfl) (fun p e s m args below meth c G hr hlocks hP hS ls hl => ?_)
  have hl : lv_has ls 3 [(0, .ref (A 34)), (1, .int p0), (2, .int p1)] := hl
  refine lv_aload_n G.1 G.2.1 dX3_has_0 rfl (lv_at hl 0 rfl) ?_
  refine lv_aload_n G.1 G.2.1 dX3_has_1 rfl (lv_at hl 0 rfl) ?_
  refine lv_iload_n G.1 G.2.1 dX3_has_2 rfl (lv_at hl 1 rfl) ?_
  refine k_Vi (As := [.int p0]) (rest := [.ref (A 34)]) G hP hS hl.1 kl_X3_130 yk_X3_noChannel (c_X3_noChannel l D A C _ _ _ _ G.2.2.2.2.2.2 p0 ) (kr3 G hP) (by decide) (by decide) rfl (Nat.le_of_ble_eq_true rfl) dX3_has_3 (fun H locs hP hS => ?_)
  refine lv_if_ne (tgt := 18) G.1 G.2.1 dX3_has_6 (by decide) (fun c_6 => ?_) (fun c_6 => ?_)
  · refine lv_iconst (v := 1) G.1 G.2.1 dX3_has_18 (by decide) ?_
    refine lv_goto (tgt := 23) G.1 G.2.1 dX3_has_19 (by decide) ?_
    refine k3_puti G hP hS 0 (by unfold k3i; decide) (by decide) kq_509 rfl rfl rfl rfl dX3_has_23 (fun H locs hP hS => ?_)
    refine lv_aload_n G.1 G.2.1 dX3_has_26 rfl (lv_at hl 0 rfl) ?_
    refine k3_getw (v := 1) G hP 0 (by unfold k3i; decide) (by decide) kq_509 rfl (by rw [kup_at]) dX3_has_27 ?_
    refine lv_if_le (tgt := 35) G.1 G.2.1 dX3_has_30 (by decide) (fun c => absurd c (by decide)) (fun _ => ?_)
    refine lv_iconst (v := 0) G.1 G.2.1 dX3_has_33 (by decide) ?_
    exact k_iret G hr hlocks hP hS (by rw [f_X3_has, if_neg c_6]) rfl (by rw [f_X3_has, if_neg c_6]) rfl dX3_has_34
  · refine lv_iload_n G.1 G.2.1 dX3_has_9 rfl (lv_at hl 2 rfl) ?_
    refine lv_if_lt (tgt := 18) G.1 G.2.1 dX3_has_10 (by decide) (fun c_10 => ?_) (fun c_10 => ?_)
    · refine lv_iconst (v := 1) G.1 G.2.1 dX3_has_18 (by decide) ?_
      refine lv_goto (tgt := 23) G.1 G.2.1 dX3_has_19 (by decide) ?_
      refine k3_puti G hP hS 0 (by unfold k3i; decide) (by decide) kq_509 rfl rfl rfl rfl dX3_has_23 (fun H locs hP hS => ?_)
      refine lv_aload_n G.1 G.2.1 dX3_has_26 rfl (lv_at hl 0 rfl) ?_
      refine k3_getw (v := 1) G hP 0 (by unfold k3i; decide) (by decide) kq_509 rfl (by rw [kup_at]) dX3_has_27 ?_
      refine lv_if_le (tgt := 35) G.1 G.2.1 dX3_has_30 (by decide) (fun c => absurd c (by decide)) (fun _ => ?_)
      refine lv_iconst (v := 0) G.1 G.2.1 dX3_has_33 (by decide) ?_
      exact k_iret G hr hlocks hP hS (by rw [f_X3_has, if_pos c_6, if_pos c_10]) rfl (by rw [f_X3_has, if_pos c_6, if_pos c_10]) rfl dX3_has_34
    · refine lv_iload_n G.1 G.2.1 dX3_has_13 rfl (lv_at hl 2 rfl) ?_
      refine lv_iconst (v := 4) G.1 G.2.1 dX3_has_14 (by decide) ?_
      refine lv_icmp_le (tgt := 22) G.1 G.2.1 dX3_has_15 (by decide) (fun c_15 => ?_) (fun c_15 => ?_)
      · refine lv_iconst (v := 0) G.1 G.2.1 dX3_has_22 (by decide) ?_
        refine k3_puti G hP hS 0 (by unfold k3i; decide) (by decide) kq_509 rfl rfl rfl rfl dX3_has_23 (fun H locs hP hS => ?_)
        refine lv_aload_n G.1 G.2.1 dX3_has_26 rfl (lv_at hl 0 rfl) ?_
        refine k3_getw (v := 0) G hP 0 (by unfold k3i; decide) (by decide) kq_509 rfl (by rw [kup_at]) dX3_has_27 ?_
        refine lv_if_le (tgt := 35) G.1 G.2.1 dX3_has_30 (by decide) (fun _ => ?_) (fun c => absurd c (by decide))
        refine lv_iload_n G.1 G.2.1 dX3_has_35 rfl (lv_at hl 2 rfl) ?_
        refine lv_if_ne (tgt := 48) G.1 G.2.1 dX3_has_36 (by decide) (fun c_36 => ?_) (fun c_36 => ?_)
        · refine lv_iload_n G.1 G.2.1 dX3_has_48 rfl (lv_at hl 2 rfl) ?_
          refine lv_iconst (v := 1) G.1 G.2.1 dX3_has_49 (by decide) ?_
          refine lv_icmp_ne (tgt := 78) G.1 G.2.1 dX3_has_50 (by decide) (fun c_50 => ?_) (fun c_50 => ?_)
          · refine lv_iload_n G.1 G.2.1 dX3_has_78 rfl (lv_at hl 2 rfl) ?_
            refine lv_iconst (v := 2) G.1 G.2.1 dX3_has_79 (by decide) ?_
            refine lv_icmp_ne (tgt := 105) G.1 G.2.1 dX3_has_80 (by decide) (fun c_80 => ?_) (fun c_80 => ?_)
            · refine lv_iload_n G.1 G.2.1 dX3_has_105 rfl (lv_at hl 2 rfl) ?_
              refine lv_iconst (v := 3) G.1 G.2.1 dX3_has_106 (by decide) ?_
              refine lv_icmp_ne (tgt := 119) G.1 G.2.1 dX3_has_107 (by decide) (fun c_107 => ?_) (fun c_107 => ?_)
              · refine lv_aload_n G.1 G.2.1 dX3_has_119 rfl (lv_at hl 0 rfl) ?_
                refine k3_getr G hP 23 56 (by decide) (fun _ _ => rfl) kq_532 rfl dX3_has_120 ?_
                refine lv_iload_n G.1 G.2.1 dX3_has_123 rfl (lv_at hl 1 rfl) ?_
                refine kM_ald (r := 56) G hP kI_56 (by decide) (m_chan c_6) dX3_has_124 ?_
                exact k_iret G hr hlocks hP hS (by rw [f_X3_has, if_pos c_6, if_neg c_10, if_pos c_15, if_neg c_36, if_neg c_50, if_neg c_80, if_neg c_107]) rfl (by rw [f_X3_has, if_pos c_6, if_neg c_10, if_pos c_15, if_neg c_36, if_neg c_50, if_neg c_80, if_neg c_107]) rfl dX3_has_125
              · refine lv_aload_n G.1 G.2.1 dX3_has_110 rfl (lv_at hl 0 rfl) ?_
                refine k3_getr G hP 22 55 (by decide) (fun _ _ => rfl) kq_531 rfl dX3_has_111 ?_
                refine lv_iload_n G.1 G.2.1 dX3_has_114 rfl (lv_at hl 1 rfl) ?_
                refine kM_ald (r := 55) G hP kI_55 (by decide) (m_chan c_6) dX3_has_115 ?_
                refine lv_goto (tgt := 125) G.1 G.2.1 dX3_has_116 (by decide) ?_
                exact k_iret G hr hlocks hP hS (by rw [f_X3_has, if_pos c_6, if_neg c_10, if_pos c_15, if_neg c_36, if_neg c_50, if_neg c_80, if_pos c_107]) rfl (by rw [f_X3_has, if_pos c_6, if_neg c_10, if_pos c_15, if_neg c_36, if_neg c_50, if_neg c_80, if_pos c_107]) rfl dX3_has_125
            · refine lv_aload_n G.1 G.2.1 dX3_has_83 rfl (lv_at hl 0 rfl) ?_
              refine k3_getr G hP 18 51 (by decide) (fun _ _ => rfl) kq_527 rfl dX3_has_84 ?_
              refine lv_iload_n G.1 G.2.1 dX3_has_87 rfl (lv_at hl 1 rfl) ?_
              refine kM_ald (r := 51) G hP kI_51 (by decide) (m_chan c_6) dX3_has_88 ?_
              refine lv_if_ne (tgt := 101) G.1 G.2.1 dX3_has_89 (by decide) (fun c_89 => ?_) (fun c_89 => ?_)
              · refine lv_iconst (v := 0) G.1 G.2.1 dX3_has_101 (by decide) ?_
                refine lv_goto (tgt := 125) G.1 G.2.1 dX3_has_102 (by decide) ?_
                exact k_iret G hr hlocks hP hS (by rw [f_X3_has, if_pos c_6, if_neg c_10, if_pos c_15, if_neg c_36, if_neg c_50, if_pos c_80, if_neg c_89]) rfl (by rw [f_X3_has, if_pos c_6, if_neg c_10, if_pos c_15, if_neg c_36, if_neg c_50, if_pos c_80, if_neg c_89]) rfl dX3_has_125
              · refine lv_aload_n G.1 G.2.1 dX3_has_92 rfl (lv_at hl 0 rfl) ?_
                refine k3_getr G hP 21 54 (by decide) (fun _ _ => rfl) kq_530 rfl dX3_has_93 ?_
                refine lv_iload_n G.1 G.2.1 dX3_has_96 rfl (lv_at hl 1 rfl) ?_
                refine kM_ald (r := 54) G hP kI_54 (by decide) (m_chan c_6) dX3_has_97 ?_
                refine lv_goto (tgt := 125) G.1 G.2.1 dX3_has_98 (by decide) ?_
                exact k_iret G hr hlocks hP hS (by rw [f_X3_has, if_pos c_6, if_neg c_10, if_pos c_15, if_neg c_36, if_neg c_50, if_pos c_80, if_pos c_89]) rfl (by rw [f_X3_has, if_pos c_6, if_neg c_10, if_pos c_15, if_neg c_36, if_neg c_50, if_pos c_80, if_pos c_89]) rfl dX3_has_125
          · refine lv_aload_n G.1 G.2.1 dX3_has_53 rfl (lv_at hl 0 rfl) ?_
            refine k3_getr G hP 20 53 (by decide) (fun _ _ => rfl) kq_529 rfl dX3_has_54 ?_
            refine lv_iload_n G.1 G.2.1 dX3_has_57 rfl (lv_at hl 1 rfl) ?_
            refine kM_ald (r := 53) G hP kI_53 (by decide) (m_chan c_6) dX3_has_58 ?_
            refine lv_if_le (tgt := 74) G.1 G.2.1 dX3_has_59 (by decide) (fun c_59 => ?_) (fun c_59 => ?_)
            · refine lv_iconst (v := 0) G.1 G.2.1 dX3_has_74 (by decide) ?_
              refine lv_goto (tgt := 125) G.1 G.2.1 dX3_has_75 (by decide) ?_
              exact k_iret G hr hlocks hP hS (by rw [f_X3_has, if_pos c_6, if_neg c_10, if_pos c_15, if_neg c_36, if_pos c_50, if_pos c_59]) rfl (by rw [f_X3_has, if_pos c_6, if_neg c_10, if_pos c_15, if_neg c_36, if_pos c_50, if_pos c_59]) rfl dX3_has_125
            · refine lv_aload_n G.1 G.2.1 dX3_has_62 rfl (lv_at hl 0 rfl) ?_
              refine k3_getr G hP 19 52 (by decide) (fun _ _ => rfl) kq_528 rfl dX3_has_63 ?_
              refine lv_bipush (v := 8) G.1 G.2.1 dX3_has_66 (by decide) ?_
              refine lv_iload_n G.1 G.2.1 dX3_has_68 rfl (lv_at hl 1 rfl) ?_
              refine lv_imul G.1 G.2.1 dX3_has_69 ?_
              refine kM_ald (r := 52) G hP kI_52 (by decide) (kin8 (m_chan c_6)) dX3_has_70 ?_
              refine lv_goto (tgt := 125) G.1 G.2.1 dX3_has_71 (by decide) ?_
              exact k_iret G hr hlocks hP hS (by rw [f_X3_has, if_pos c_6, if_neg c_10, if_pos c_15, if_neg c_36, if_pos c_50, if_neg c_59]) rfl (by rw [f_X3_has, if_pos c_6, if_neg c_10, if_pos c_15, if_neg c_36, if_pos c_50, if_neg c_59]) rfl dX3_has_125
        · refine lv_aload_n G.1 G.2.1 dX3_has_39 rfl (lv_at hl 0 rfl) ?_
          refine k3_getr G hP 20 53 (by decide) (fun _ _ => rfl) kq_529 rfl dX3_has_40 ?_
          refine lv_iload_n G.1 G.2.1 dX3_has_43 rfl (lv_at hl 1 rfl) ?_
          refine kM_ald (r := 53) G hP kI_53 (by decide) (m_chan c_6) dX3_has_44 ?_
          refine lv_goto (tgt := 125) G.1 G.2.1 dX3_has_45 (by decide) ?_
          exact k_iret G hr hlocks hP hS (by rw [f_X3_has, if_pos c_6, if_neg c_10, if_pos c_15, if_pos c_36]) rfl (by rw [f_X3_has, if_pos c_6, if_neg c_10, if_pos c_15, if_pos c_36]) rfl dX3_has_125
      · refine lv_iconst (v := 1) G.1 G.2.1 dX3_has_18 (by decide) ?_
        refine lv_goto (tgt := 23) G.1 G.2.1 dX3_has_19 (by decide) ?_
        refine k3_puti G hP hS 0 (by unfold k3i; decide) (by decide) kq_509 rfl rfl rfl rfl dX3_has_23 (fun H locs hP hS => ?_)
        refine lv_aload_n G.1 G.2.1 dX3_has_26 rfl (lv_at hl 0 rfl) ?_
        refine k3_getw (v := 1) G hP 0 (by unfold k3i; decide) (by decide) kq_509 rfl (by rw [kup_at]) dX3_has_27 ?_
        refine lv_if_le (tgt := 35) G.1 G.2.1 dX3_has_30 (by decide) (fun c => absurd c (by decide)) (fun _ => ?_)
        refine lv_iconst (v := 0) G.1 G.2.1 dX3_has_33 (by decide) ?_
        exact k_iret G hr hlocks hP hS (by rw [f_X3_has, if_pos c_6, if_neg c_10, if_neg c_15]) rfl (by rw [f_X3_has, if_pos c_6, if_neg c_10, if_neg c_15]) rfl dX3_has_34
/-! X3_queued -/
def f_X3_queued (mu : kM) (p0 : Int32) (p1 : Int32) : Int32 × kM :=
  if (f_X3_noChannel mu p0) = 0 then (if ((kup mu 34 0 0) 51 p0.toNatClampNeg) = 0 then (0, kup mu 34 0 0) else if p1 < 0 then (0, kup mu 34 0 0) else if p1 < ((kup mu 34 0 0) 53 p0.toNatClampNeg) then ((kup mu 34 0 0) 52 (((8 : Int32) * p0) + p1).toNatClampNeg, kup mu 34 0 0) else (0, kup mu 34 0 0)) else (0, kup mu 34 0 1)
set_option maxHeartbeats 4000000 in
set_option maxRecDepth 100000 in
theorem c_X3_queued (l : Launch) (D : va_G) (A : Nat → Nat) (C : Nat → ClassId) (ka mu : kM) (o : Int32) (sz : Nat) (hA : kinj A) (p0 : Int32) (p1 : Int32) (hI : mInv mu) : kMi l yX3_queued (.code yX3_queued cX3_queued 3 (some .int)) ({ frames := 1, cells := 0, slots := 0, locals := 21 }) D A C ka mu o sz [.ref (A 34), .int p0, .int p1] ((f_X3_queued mu p0 p1).1) ka ((f_X3_queued mu p0 p1).2) o := by
  refine kMi_of hA (by decide) (Nat.le_of_ble_eq_true rfl) (fun p e s m args below meth c G hr hlocks hP hS ls hl => ?_)
  have hl : lv_has ls 3 [(0, .ref (A 34)), (1, .int p0), (2, .int p1)] := hl
  refine lv_aload_n G.1 G.2.1 dX3_queued_0 rfl (lv_at hl 0 rfl) ?_
  refine lv_aload_n G.1 G.2.1 dX3_queued_1 rfl (lv_at hl 0 rfl) ?_
  refine lv_iload_n G.1 G.2.1 dX3_queued_2 rfl (lv_at hl 1 rfl) ?_
  refine k_Vi (As := [.int p0]) (rest := [.ref (A 34)]) G hP hS hl.1 kl_X3_130 yk_X3_noChannel (c_X3_noChannel l D A C _ _ _ _ G.2.2.2.2.2.2 p0 ) (kr3 G hP) (by decide) (by decide) rfl (Nat.le_of_ble_eq_true rfl) dX3_queued_3 (fun H locs hP hS => ?_)
  refine lv_if_eq (tgt := 13) G.1 G.2.1 dX3_queued_6 (by decide) (fun c_6 => ?_) (fun c_6 => ?_)
  · refine lv_iconst (v := 0) G.1 G.2.1 dX3_queued_13 (by decide) ?_
    refine k3_puti G hP hS 0 (by unfold k3i; decide) (by decide) kq_509 rfl rfl rfl rfl dX3_queued_14 (fun H locs hP hS => ?_)
    refine lv_aload_n G.1 G.2.1 dX3_queued_17 rfl (lv_at hl 0 rfl) ?_
    refine k3_getw (v := 0) G hP 0 (by unfold k3i; decide) (by decide) kq_509 rfl (by rw [kup_at]) dX3_queued_18 ?_
    refine lv_if_le (tgt := 26) G.1 G.2.1 dX3_queued_21 (by decide) (fun _ => ?_) (fun c => absurd c (by decide))
    refine lv_aload_n G.1 G.2.1 dX3_queued_26 rfl (lv_at hl 0 rfl) ?_
    refine k3_getr G hP 18 51 (by decide) (fun _ _ => rfl) kq_527 rfl dX3_queued_27 ?_
    refine lv_iload_n G.1 G.2.1 dX3_queued_30 rfl (lv_at hl 1 rfl) ?_
    refine kM_ald (r := 51) G hP kI_51 (by decide) (m_chan c_6) dX3_queued_31 ?_
    refine lv_if_eq (tgt := 49) G.1 G.2.1 dX3_queued_32 (by decide) (fun c_32 => ?_) (fun c_32 => ?_)
    · refine lv_iconst (v := 0) G.1 G.2.1 dX3_queued_49 (by decide) ?_
      refine lv_goto (tgt := 64) G.1 G.2.1 dX3_queued_50 (by decide) ?_
      exact k_iret G hr hlocks hP hS (by rw [f_X3_queued, if_pos c_6, if_pos c_32]) rfl (by rw [f_X3_queued, if_pos c_6, if_pos c_32]) rfl dX3_queued_64
    · refine lv_iload_n G.1 G.2.1 dX3_queued_35 rfl (lv_at hl 2 rfl) ?_
      refine lv_if_lt (tgt := 49) G.1 G.2.1 dX3_queued_36 (by decide) (fun c_36 => ?_) (fun c_36 => ?_)
      · refine lv_iconst (v := 0) G.1 G.2.1 dX3_queued_49 (by decide) ?_
        refine lv_goto (tgt := 64) G.1 G.2.1 dX3_queued_50 (by decide) ?_
        exact k_iret G hr hlocks hP hS (by rw [f_X3_queued, if_pos c_6, if_neg c_32, if_pos c_36]) rfl (by rw [f_X3_queued, if_pos c_6, if_neg c_32, if_pos c_36]) rfl dX3_queued_64
      · refine lv_iload_n G.1 G.2.1 dX3_queued_39 rfl (lv_at hl 2 rfl) ?_
        refine lv_aload_n G.1 G.2.1 dX3_queued_40 rfl (lv_at hl 0 rfl) ?_
        refine k3_getr G hP 20 53 (by decide) (fun _ _ => rfl) kq_529 rfl dX3_queued_41 ?_
        refine lv_iload_n G.1 G.2.1 dX3_queued_44 rfl (lv_at hl 1 rfl) ?_
        refine kM_ald (r := 53) G hP kI_53 (by decide) (m_chan c_6) dX3_queued_45 ?_
        refine lv_icmp_lt (tgt := 53) G.1 G.2.1 dX3_queued_46 (by decide) (fun c_46 => ?_) (fun c_46 => ?_)
        · refine lv_aload_n G.1 G.2.1 dX3_queued_53 rfl (lv_at hl 0 rfl) ?_
          refine k3_getr G hP 19 52 (by decide) (fun _ _ => rfl) kq_528 rfl dX3_queued_54 ?_
          refine lv_bipush (v := 8) G.1 G.2.1 dX3_queued_57 (by decide) ?_
          refine lv_iload_n G.1 G.2.1 dX3_queued_59 rfl (lv_at hl 1 rfl) ?_
          refine lv_imul G.1 G.2.1 dX3_queued_60 ?_
          refine lv_iload_n G.1 G.2.1 dX3_queued_61 rfl (lv_at hl 2 rfl) ?_
          refine lv_iadd G.1 G.2.1 dX3_queued_62 ?_
          refine kM_ald (r := 52) G hP kI_52 (by decide) (kin8k (m_chan c_6) (m_q hI (m_chan c_6) c_36 c_46)) dX3_queued_63 ?_
          exact k_iret G hr hlocks hP hS (by rw [f_X3_queued, if_pos c_6, if_neg c_32, if_neg c_36, if_pos c_46]) rfl (by rw [f_X3_queued, if_pos c_6, if_neg c_32, if_neg c_36, if_pos c_46]) rfl dX3_queued_64
        · refine lv_iconst (v := 0) G.1 G.2.1 dX3_queued_49 (by decide) ?_
          refine lv_goto (tgt := 64) G.1 G.2.1 dX3_queued_50 (by decide) ?_
          exact k_iret G hr hlocks hP hS (by rw [f_X3_queued, if_pos c_6, if_neg c_32, if_neg c_36, if_neg c_46]) rfl (by rw [f_X3_queued, if_pos c_6, if_neg c_32, if_neg c_36, if_neg c_46]) rfl dX3_queued_64
  · refine lv_iconst (v := 1) G.1 G.2.1 dX3_queued_9 (by decide) ?_
    refine lv_goto (tgt := 14) G.1 G.2.1 dX3_queued_10 (by decide) ?_
    refine k3_puti G hP hS 0 (by unfold k3i; decide) (by decide) kq_509 rfl rfl rfl rfl dX3_queued_14 (fun H locs hP hS => ?_)
    refine lv_aload_n G.1 G.2.1 dX3_queued_17 rfl (lv_at hl 0 rfl) ?_
    refine k3_getw (v := 1) G hP 0 (by unfold k3i; decide) (by decide) kq_509 rfl (by rw [kup_at]) dX3_queued_18 ?_
    refine lv_if_le (tgt := 26) G.1 G.2.1 dX3_queued_21 (by decide) (fun c => absurd c (by decide)) (fun _ => ?_)
    refine lv_iconst (v := 0) G.1 G.2.1 dX3_queued_24 (by decide) ?_
    exact k_iret G hr hlocks hP hS (by rw [f_X3_queued, if_neg c_6]) rfl (by rw [f_X3_queued, if_neg c_6]) rfl dX3_queued_25
/-! X3_current -/
def f_X3_current (mu : kM) : Int32 × kM :=
  if ((kup mu 34 0 0) 34 24) = 0 then ((-1), kup mu 34 0 0) else ((kup mu 34 0 0) 46 ((kup mu 34 0 0) 34 25).toNatClampNeg, kup mu 34 0 0)
set_option maxHeartbeats 4000000 in
set_option maxRecDepth 100000 in
theorem c_X3_current (l : Launch) (D : va_G) (A : Nat → Nat) (C : Nat → ClassId) (ka mu : kM) (o : Int32) (sz : Nat) (hA : kinj A)  (hI : mInv mu) : kMi l yX3_current (.code yX3_current cX3_current 1 (some .int)) ({ frames := 0, cells := 0, slots := 0, locals := 0 }) D A C ka mu o sz [.ref (A 34)] ((f_X3_current mu).1) ka ((f_X3_current mu).2) o := by
  refine kMi_of hA (by decide) (Nat.le_of_ble_eq_true rfl) (fun p e s m args below meth c G hr hlocks hP hS ls hl => ?_)
  have hl : lv_has ls 1 [(0, .ref (A 34))] := hl
  refine lv_aload_n G.1 G.2.1 dX3_current_0 rfl (lv_at hl 0 rfl) ?_
  refine lv_iconst (v := 0) G.1 G.2.1 dX3_current_1 (by decide) ?_
  refine k3_puti G hP hS 0 (by unfold k3i; decide) (by decide) kq_509 rfl rfl rfl rfl dX3_current_2 (fun H locs hP hS => ?_)
  refine lv_aload_n G.1 G.2.1 dX3_current_5 rfl (lv_at hl 0 rfl) ?_
  refine k3_geti G hP 24 (by unfold k3i; decide) (by decide) kq_533 rfl dX3_current_6 ?_
  refine lv_if_eq (tgt := 24) G.1 G.2.1 dX3_current_9 (by decide) (fun c_9 => ?_) (fun c_9 => ?_)
  · refine lv_iconst (v := (-1)) G.1 G.2.1 dX3_current_24 (by decide) ?_
    exact k_iret G hr hlocks hP hS (by rw [f_X3_current, if_pos c_9]) rfl (by rw [f_X3_current, if_pos c_9]) rfl dX3_current_25
  · refine lv_aload_n G.1 G.2.1 dX3_current_12 rfl (lv_at hl 0 rfl) ?_
    refine k3_getr G hP 13 46 (by decide) (fun _ _ => rfl) kq_522 rfl dX3_current_13 ?_
    refine lv_aload_n G.1 G.2.1 dX3_current_16 rfl (lv_at hl 0 rfl) ?_
    refine k3_geti G hP 25 (by unfold k3i; decide) (by decide) kq_534 rfl dX3_current_17 ?_
    refine kM_ald (r := 46) G hP kI_46 (by decide) (by rw [kup_j (by decide)]; exact hI.2.2.2.2.1) dX3_current_20 ?_
    refine lv_goto (tgt := 25) G.1 G.2.1 dX3_current_21 (by decide) ?_
    exact k_iret G hr hlocks hP hS (by rw [f_X3_current, if_neg c_9]) rfl (by rw [f_X3_current, if_neg c_9]) rfl dX3_current_25
/-! X3_shares -/
def f_X3_shares_lp (mu : kM) (p0 p1 : Int32) : Nat → Int32 → Int32
  | 0, _ => 0
  | n + 1, i => if (mu 39 i.toNatClampNeg) ≤ 0 then (f_X3_shares_lp mu p0 p1 n (i + 1)) else if ((mu 36 i.toNatClampNeg) + (mu 37 i.toNatClampNeg)) ≤ p0 then (f_X3_shares_lp mu p0 p1 n (i + 1)) else if (p0 + p1) ≤ (mu 36 i.toNatClampNeg) then (f_X3_shares_lp mu p0 p1 n (i + 1)) else 1
def f_X3_shares (mu : kM) (p0 p1 : Int32) : Int32 := f_X3_shares_lp mu p0 p1 6 0
set_option maxHeartbeats 4000000 in
set_option maxRecDepth 100000 in
theorem w_X3_shares (l : Launch) (D : va_G) (A : Nat → Nat) (C : Nat → ClassId) (ka mu : kM) (o : Int32) {p : Program} {e : Env} {s : State} {m : MethodId} {args : Array Value} {below : List Frame} {meth : Method} {c : Code} (G : kCtx D A C p s m args c cX3_shares 4 RX3) (hr : meth.sig.returnType = some .boolean) (hlocks : meth.locks = false) (p0 p1 : Int32) :
    ∀ (n : Nat) (i : Int32) (H : Heap) (locs : List Loc) (ls : Array Slot), 0 ≤ i.toInt → i.toInt + n = 6 → kP D A C ka mu o H → kS A s H locs → lv_has ls 4 [(3, .int i), (0, .ref (A 34)), (1, .int p0), (2, .int p1)] → W p l e ({ frames := 0, cells := 0, slots := 0, locals := 0 }) s m args below meth c H locs 0 0 (kZi D A C below args s 0 0 (f_X3_shares_lp mu p0 p1 n i) ka mu o) (F0 m 2 ls []) := by
  intro n
  induction n with
  | zero =>
    intro i H locs ls hi0 hi1 hP hS hl
    refine lv_iload_n G.1 G.2.1 dX3_shares_2 rfl (lv_at hl 0 rfl) ?_
    refine lv_bipush (v := 6) G.1 G.2.1 dX3_shares_3 (by decide) ?_
    refine lv_icmp_ge (tgt := 54) G.1 G.2.1 dX3_shares_5 (by decide) (fun _ => ?_) (fun c => absurd (by rw [ki_le, show (6 : Int32).toInt = 6 from rfl]; omega) c)
    refine lv_iconst (v := 0) G.1 G.2.1 dX3_shares_54 (by decide) ?_
    exact k_zret G hr hlocks hP hS (by decide) (by rw [f_X3_shares_lp]) rfl rfl rfl dX3_shares_55
  | succ n ih =>
    intro i H locs ls hi0 hi1 hP hS hl
    refine lv_iload_n G.1 G.2.1 dX3_shares_2 rfl (lv_at hl 0 rfl) ?_
    refine lv_bipush (v := 6) G.1 G.2.1 dX3_shares_3 (by decide) ?_
    refine lv_icmp_ge (tgt := 54) G.1 G.2.1 dX3_shares_5 (by decide) (fun c => absurd c (by rw [ki_le, show (6 : Int32).toInt = 6 from rfl]; omega)) (fun _ => ?_)
    refine lv_aload_n G.1 G.2.1 dX3_shares_8 rfl (lv_at hl 1 rfl) ?_
    refine k3_getr G hP 5 39 (by decide) (fun _ _ => rfl) kq_514 rfl dX3_shares_9 ?_
    refine lv_iload_n G.1 G.2.1 dX3_shares_12 rfl (lv_at hl 0 rfl) ?_
    refine kM_ald (r := 39) G hP kI_39 (by decide) (by rw [vp_in_iff]; omega) dX3_shares_13 ?_
    refine lv_if_le (tgt := 48) G.1 G.2.1 dX3_shares_14 (by decide) (fun c_14 => ?_) (fun c_14 => ?_)
    · refine lv_iinc (v := i + 1) (lv' := [(3, .int (i + 1)), (0, .ref (A 34)), (1, .int p0), (2, .int p1)]) G.1 G.2.1 dX3_shares_48 hl (k := 0) rfl rfl (by decide) rfl (fun ls hl => ?_)
      refine lv_goto (tgt := 2) G.1 G.2.1 dX3_shares_51 (by decide) ?_
      rw [show f_X3_shares_lp mu p0 p1 (n + 1) i = f_X3_shares_lp mu p0 p1 n (i + 1) by rw [f_X3_shares_lp, if_pos c_14]]
      have hi2 : (i + 1).toInt = i.toInt + 1 := ki_add1 (by omega)
      exact ih (i + 1) _ _ _ (by omega) (by omega) hP hS (lv_sub hl [0, 1, 2, 3] rfl)
    · refine lv_iload_n G.1 G.2.1 dX3_shares_17 rfl (lv_at hl 2 rfl) ?_
      refine lv_aload_n G.1 G.2.1 dX3_shares_18 rfl (lv_at hl 1 rfl) ?_
      refine k3_getr G hP 2 36 (by decide) (fun _ _ => rfl) kq_511 rfl dX3_shares_19 ?_
      refine lv_iload_n G.1 G.2.1 dX3_shares_22 rfl (lv_at hl 0 rfl) ?_
      refine kM_ald (r := 36) G hP kI_36 (by decide) (by rw [vp_in_iff]; omega) dX3_shares_23 ?_
      refine lv_aload_n G.1 G.2.1 dX3_shares_24 rfl (lv_at hl 1 rfl) ?_
      refine k3_getr G hP 3 37 (by decide) (fun _ _ => rfl) kq_512 rfl dX3_shares_25 ?_
      refine lv_iload_n G.1 G.2.1 dX3_shares_28 rfl (lv_at hl 0 rfl) ?_
      refine kM_ald (r := 37) G hP kI_37 (by decide) (by rw [vp_in_iff]; omega) dX3_shares_29 ?_
      refine lv_iadd G.1 G.2.1 dX3_shares_30 ?_
      refine lv_icmp_ge (tgt := 48) G.1 G.2.1 dX3_shares_31 (by decide) (fun c_31 => ?_) (fun c_31 => ?_)
      · refine lv_iinc (v := i + 1) (lv' := [(3, .int (i + 1)), (0, .ref (A 34)), (1, .int p0), (2, .int p1)]) G.1 G.2.1 dX3_shares_48 hl (k := 0) rfl rfl (by decide) rfl (fun ls hl => ?_)
        refine lv_goto (tgt := 2) G.1 G.2.1 dX3_shares_51 (by decide) ?_
        rw [show f_X3_shares_lp mu p0 p1 (n + 1) i = f_X3_shares_lp mu p0 p1 n (i + 1) by rw [f_X3_shares_lp, if_neg c_14, if_pos c_31]]
        have hi2 : (i + 1).toInt = i.toInt + 1 := ki_add1 (by omega)
        exact ih (i + 1) _ _ _ (by omega) (by omega) hP hS (lv_sub hl [0, 1, 2, 3] rfl)
      · refine lv_aload_n G.1 G.2.1 dX3_shares_34 rfl (lv_at hl 1 rfl) ?_
        refine k3_getr G hP 2 36 (by decide) (fun _ _ => rfl) kq_511 rfl dX3_shares_35 ?_
        refine lv_iload_n G.1 G.2.1 dX3_shares_38 rfl (lv_at hl 0 rfl) ?_
        refine kM_ald (r := 36) G hP kI_36 (by decide) (by rw [vp_in_iff]; omega) dX3_shares_39 ?_
        refine lv_iload_n G.1 G.2.1 dX3_shares_40 rfl (lv_at hl 2 rfl) ?_
        refine lv_iload_n G.1 G.2.1 dX3_shares_41 rfl (lv_at hl 3 rfl) ?_
        refine lv_iadd G.1 G.2.1 dX3_shares_42 ?_
        refine lv_icmp_ge (tgt := 48) G.1 G.2.1 dX3_shares_43 (by decide) (fun c_43 => ?_) (fun c_43 => ?_)
        · refine lv_iinc (v := i + 1) (lv' := [(3, .int (i + 1)), (0, .ref (A 34)), (1, .int p0), (2, .int p1)]) G.1 G.2.1 dX3_shares_48 hl (k := 0) rfl rfl (by decide) rfl (fun ls hl => ?_)
          refine lv_goto (tgt := 2) G.1 G.2.1 dX3_shares_51 (by decide) ?_
          rw [show f_X3_shares_lp mu p0 p1 (n + 1) i = f_X3_shares_lp mu p0 p1 n (i + 1) by rw [f_X3_shares_lp, if_neg c_14, if_neg c_31, if_pos c_43]]
          have hi2 : (i + 1).toInt = i.toInt + 1 := ki_add1 (by omega)
          exact ih (i + 1) _ _ _ (by omega) (by omega) hP hS (lv_sub hl [0, 1, 2, 3] rfl)
        · refine lv_iconst (v := 1) G.1 G.2.1 dX3_shares_46 (by decide) ?_
          exact k_zret G hr hlocks hP hS (by decide) (by rw [f_X3_shares_lp, if_neg c_14, if_neg c_31, if_neg c_43]) rfl rfl rfl dX3_shares_47
set_option maxHeartbeats 4000000 in
set_option maxRecDepth 100000 in
theorem c_X3_shares (l : Launch) (D : va_G) (A : Nat → Nat) (C : Nat → ClassId) (ka mu : kM) (o : Int32) (sz : Nat) (hA : kinj A) (p0 : Int32) (p1 : Int32) : kMi l yX3_shares (.code yX3_shares cX3_shares 4 (some .boolean)) ({ frames := 0, cells := 0, slots := 0, locals := 0 }) D A C ka mu o sz [.ref (A 34), .int p0, .int p1] (f_X3_shares mu p0 p1) ka mu o := by
  refine kMi_of hA (by decide) (Nat.le_of_ble_eq_true rfl) (fun p e s m args below meth c G hr hlocks hP hS ls hl => ?_)
  have hl : lv_has ls 4 [(0, .ref (A 34)), (1, .int p0), (2, .int p1)] := hl
  refine lv_iconst (v := 0) G.1 G.2.1 dX3_shares_0 (by decide) ?_
  refine lv_istore_n (lv' := [(3, .int 0), (0, .ref (A 34)), (1, .int p0), (2, .int p1)]) G.1 G.2.1 dX3_shares_1 rfl hl (by decide) rfl (fun ls hl => ?_)
  exact w_X3_shares l D A C ka mu o G hr hlocks p0 p1 6 0 _ _ _ (by decide) (by decide) hP hS (lv_sub hl [0, 1, 2, 3] rfl)
/-! X3_partition -/
def f_X3_partition (mu : kM) (p0 : Int32) (p1 : Int32) (p2 : Int32) (p3 : Int32) (p4 : Int32) : kM :=
  if p0 < 0 then (if (mu 34 24) = 0 then (kup mu 34 0 2) else (kup mu 34 0 1)) else if (5 : Int32) < p0 then (if (mu 34 24) = 0 then (kup mu 34 0 2) else (kup mu 34 0 1)) else if (f_X3_isTold mu p0) = 0 then (if p1 < 0 then (if (mu 34 24) = 0 then (kup mu 34 0 2) else (kup mu 34 0 1)) else if (512 : Int32) ≤ p1 then (if (mu 34 24) = 0 then (kup mu 34 0 2) else (kup mu 34 0 1)) else if p2 < 1 then (if (mu 34 24) = 0 then (kup mu 34 0 2) else (kup mu 34 0 1)) else if p2 ≤ ((512 : Int32) - p1) then (if (mu 34 24) = 0 then (if (f_X3_shares mu p1 p2) = 0 then (if p3 < 0 then (kup mu 34 0 2) else if p2 ≤ p3 then (kup mu 34 0 2) else if p4 < 0 then (kup mu 34 0 2) else if p4 ≤ 100 then (kup (kup (kup (kup (kup (kup (kup mu 34 0 0) 36 p0.toNatClampNeg p1) 37 p0.toNatClampNeg p2) 38 p0.toNatClampNeg p3) 40 p0.toNatClampNeg p3) 43 p0.toNatClampNeg p4) 39 p0.toNatClampNeg 1) else (kup mu 34 0 2)) else (kup mu 34 0 2)) else (kup mu 34 0 1)) else if (mu 34 24) = 0 then (kup mu 34 0 2) else (kup mu 34 0 1)) else if (mu 34 24) = 0 then (kup mu 34 0 2) else (kup mu 34 0 1)
set_option maxHeartbeats 4000000 in
set_option maxRecDepth 100000 in
theorem c_X3_partition (l : Launch) (D : va_G) (A : Nat → Nat) (C : Nat → ClassId) (ka mu : kM) (o : Int32) (sz : Nat) (hA : kinj A) (p0 : Int32) (p1 : Int32) (p2 : Int32) (p3 : Int32) (p4 : Int32) : kMv l yX3_partition (.code yX3_partition cX3_partition 7 none) ({ frames := 1, cells := 0, slots := 0, locals := 23 }) D A C ka mu o sz [.ref (A 34), .int p0, .int p1, .int p2, .int p3, .int p4]  ka (f_X3_partition mu p0 p1 p2 p3 p4) o := by
  refine kMv_of hA (by decide) (Nat.le_of_ble_eq_true rfl) (fun p e s m args below meth c G hr hlocks hP hS ls hl => ?_)
  have hl : lv_has ls 7 [(0, .ref (A 34)), (1, .int p0), (2, .int p1), (3, .int p2), (4, .int p3), (5, .int p4)] := hl
  refine lv_iload_n G.1 G.2.1 dX3_partition_0 rfl (lv_at hl 1 rfl) ?_
  refine lv_if_lt (tgt := 42) G.1 G.2.1 dX3_partition_1 (by decide) (fun c_1 => ?_) (fun c_1 => ?_)
  · refine lv_iconst (v := 1) G.1 G.2.1 dX3_partition_42 (by decide) ?_
    refine lv_goto (tgt := 47) G.1 G.2.1 dX3_partition_43 (by decide) ?_
    refine lv_istore (lv' := [(6, .int 1), (0, .ref (A 34)), (1, .int p0), (2, .int p1), (3, .int p2), (4, .int p3), (5, .int p4)]) G.1 G.2.1 dX3_partition_47 hl (by decide) rfl (fun ls hl => ?_)
    refine lv_aload_n G.1 G.2.1 dX3_partition_49 rfl (lv_at hl 1 rfl) ?_
    refine lv_aload_n G.1 G.2.1 dX3_partition_50 rfl (lv_at hl 1 rfl) ?_
    refine k3_geti G hP 24 (by unfold k3i; decide) (by decide) kq_533 rfl dX3_partition_51 ?_
    refine lv_if_eq (tgt := 61) G.1 G.2.1 dX3_partition_54 (by decide) (fun c_54 => ?_) (fun c_54 => ?_)
    · refine lv_iload G.1 G.2.1 dX3_partition_61 (lv_at hl 0 rfl) ?_
      refine lv_if_ne (tgt := 98) G.1 G.2.1 dX3_partition_63 (by decide) (fun _ => ?_) (fun c => absurd c (by decide))
      refine lv_iconst (v := 2) G.1 G.2.1 dX3_partition_98 (by decide) ?_
      refine lv_goto (tgt := 103) G.1 G.2.1 dX3_partition_99 (by decide) ?_
      refine k3_puti G hP hS 0 (by unfold k3i; decide) (by decide) kq_509 rfl rfl rfl rfl dX3_partition_103 (fun H locs hP hS => ?_)
      refine lv_aload_n G.1 G.2.1 dX3_partition_106 rfl (lv_at hl 1 rfl) ?_
      refine k3_getw (v := 2) G hP 0 (by unfold k3i; decide) (by decide) kq_509 rfl (by rw [kup_at]) dX3_partition_107 ?_
      refine lv_if_ne (tgt := 158) G.1 G.2.1 dX3_partition_110 (by decide) (fun _ => ?_) (fun c => absurd c (by decide))
      exact k_vret G hr hlocks hP hS rfl (by rw [f_X3_partition, if_pos c_1, if_pos c_54]) rfl dX3_partition_158
    · refine lv_iconst (v := 1) G.1 G.2.1 dX3_partition_57 (by decide) ?_
      refine lv_goto (tgt := 103) G.1 G.2.1 dX3_partition_58 (by decide) ?_
      refine k3_puti G hP hS 0 (by unfold k3i; decide) (by decide) kq_509 rfl rfl rfl rfl dX3_partition_103 (fun H locs hP hS => ?_)
      refine lv_aload_n G.1 G.2.1 dX3_partition_106 rfl (lv_at hl 1 rfl) ?_
      refine k3_getw (v := 1) G hP 0 (by unfold k3i; decide) (by decide) kq_509 rfl (by rw [kup_at]) dX3_partition_107 ?_
      refine lv_if_ne (tgt := 158) G.1 G.2.1 dX3_partition_110 (by decide) (fun _ => ?_) (fun c => absurd c (by decide))
      exact k_vret G hr hlocks hP hS rfl (by rw [f_X3_partition, if_pos c_1, if_neg c_54]) rfl dX3_partition_158
  · refine lv_iload_n G.1 G.2.1 dX3_partition_4 rfl (lv_at hl 1 rfl) ?_
    refine lv_iconst (v := 5) G.1 G.2.1 dX3_partition_5 (by decide) ?_
    refine lv_icmp_gt (tgt := 42) G.1 G.2.1 dX3_partition_6 (by decide) (fun c_6 => ?_) (fun c_6 => ?_)
    · refine lv_iconst (v := 1) G.1 G.2.1 dX3_partition_42 (by decide) ?_
      refine lv_goto (tgt := 47) G.1 G.2.1 dX3_partition_43 (by decide) ?_
      refine lv_istore (lv' := [(6, .int 1), (0, .ref (A 34)), (1, .int p0), (2, .int p1), (3, .int p2), (4, .int p3), (5, .int p4)]) G.1 G.2.1 dX3_partition_47 hl (by decide) rfl (fun ls hl => ?_)
      refine lv_aload_n G.1 G.2.1 dX3_partition_49 rfl (lv_at hl 1 rfl) ?_
      refine lv_aload_n G.1 G.2.1 dX3_partition_50 rfl (lv_at hl 1 rfl) ?_
      refine k3_geti G hP 24 (by unfold k3i; decide) (by decide) kq_533 rfl dX3_partition_51 ?_
      refine lv_if_eq (tgt := 61) G.1 G.2.1 dX3_partition_54 (by decide) (fun c_54 => ?_) (fun c_54 => ?_)
      · refine lv_iload G.1 G.2.1 dX3_partition_61 (lv_at hl 0 rfl) ?_
        refine lv_if_ne (tgt := 98) G.1 G.2.1 dX3_partition_63 (by decide) (fun _ => ?_) (fun c => absurd c (by decide))
        refine lv_iconst (v := 2) G.1 G.2.1 dX3_partition_98 (by decide) ?_
        refine lv_goto (tgt := 103) G.1 G.2.1 dX3_partition_99 (by decide) ?_
        refine k3_puti G hP hS 0 (by unfold k3i; decide) (by decide) kq_509 rfl rfl rfl rfl dX3_partition_103 (fun H locs hP hS => ?_)
        refine lv_aload_n G.1 G.2.1 dX3_partition_106 rfl (lv_at hl 1 rfl) ?_
        refine k3_getw (v := 2) G hP 0 (by unfold k3i; decide) (by decide) kq_509 rfl (by rw [kup_at]) dX3_partition_107 ?_
        refine lv_if_ne (tgt := 158) G.1 G.2.1 dX3_partition_110 (by decide) (fun _ => ?_) (fun c => absurd c (by decide))
        exact k_vret G hr hlocks hP hS rfl (by rw [f_X3_partition, if_neg c_1, if_pos c_6, if_pos c_54]) rfl dX3_partition_158
      · refine lv_iconst (v := 1) G.1 G.2.1 dX3_partition_57 (by decide) ?_
        refine lv_goto (tgt := 103) G.1 G.2.1 dX3_partition_58 (by decide) ?_
        refine k3_puti G hP hS 0 (by unfold k3i; decide) (by decide) kq_509 rfl rfl rfl rfl dX3_partition_103 (fun H locs hP hS => ?_)
        refine lv_aload_n G.1 G.2.1 dX3_partition_106 rfl (lv_at hl 1 rfl) ?_
        refine k3_getw (v := 1) G hP 0 (by unfold k3i; decide) (by decide) kq_509 rfl (by rw [kup_at]) dX3_partition_107 ?_
        refine lv_if_ne (tgt := 158) G.1 G.2.1 dX3_partition_110 (by decide) (fun _ => ?_) (fun c => absurd c (by decide))
        exact k_vret G hr hlocks hP hS rfl (by rw [f_X3_partition, if_neg c_1, if_pos c_6, if_neg c_54]) rfl dX3_partition_158
    · refine lv_aload_n G.1 G.2.1 dX3_partition_9 rfl (lv_at hl 0 rfl) ?_
      refine lv_iload_n G.1 G.2.1 dX3_partition_10 rfl (lv_at hl 1 rfl) ?_
      refine k_Vi (As := [.int p0]) (rest := []) G hP hS hl.1 kl_X3_81 yk_X3_isTold (c_X3_isTold l D A C _ _ _ _ G.2.2.2.2.2.2 p0 ) (kr3 G hP) (by decide) (by decide) rfl (Nat.le_of_ble_eq_true rfl) dX3_partition_11 (fun H locs hP hS => ?_)
      refine lv_if_ne (tgt := 42) G.1 G.2.1 dX3_partition_14 (by decide) (fun c_14 => ?_) (fun c_14 => ?_)
      · refine lv_iconst (v := 1) G.1 G.2.1 dX3_partition_42 (by decide) ?_
        refine lv_goto (tgt := 47) G.1 G.2.1 dX3_partition_43 (by decide) ?_
        refine lv_istore (lv' := [(6, .int 1), (0, .ref (A 34)), (1, .int p0), (2, .int p1), (3, .int p2), (4, .int p3), (5, .int p4)]) G.1 G.2.1 dX3_partition_47 hl (by decide) rfl (fun ls hl => ?_)
        refine lv_aload_n G.1 G.2.1 dX3_partition_49 rfl (lv_at hl 1 rfl) ?_
        refine lv_aload_n G.1 G.2.1 dX3_partition_50 rfl (lv_at hl 1 rfl) ?_
        refine k3_geti G hP 24 (by unfold k3i; decide) (by decide) kq_533 rfl dX3_partition_51 ?_
        refine lv_if_eq (tgt := 61) G.1 G.2.1 dX3_partition_54 (by decide) (fun c_54 => ?_) (fun c_54 => ?_)
        · refine lv_iload G.1 G.2.1 dX3_partition_61 (lv_at hl 0 rfl) ?_
          refine lv_if_ne (tgt := 98) G.1 G.2.1 dX3_partition_63 (by decide) (fun _ => ?_) (fun c => absurd c (by decide))
          refine lv_iconst (v := 2) G.1 G.2.1 dX3_partition_98 (by decide) ?_
          refine lv_goto (tgt := 103) G.1 G.2.1 dX3_partition_99 (by decide) ?_
          refine k3_puti G hP hS 0 (by unfold k3i; decide) (by decide) kq_509 rfl rfl rfl rfl dX3_partition_103 (fun H locs hP hS => ?_)
          refine lv_aload_n G.1 G.2.1 dX3_partition_106 rfl (lv_at hl 1 rfl) ?_
          refine k3_getw (v := 2) G hP 0 (by unfold k3i; decide) (by decide) kq_509 rfl (by rw [kup_at]) dX3_partition_107 ?_
          refine lv_if_ne (tgt := 158) G.1 G.2.1 dX3_partition_110 (by decide) (fun _ => ?_) (fun c => absurd c (by decide))
          exact k_vret G hr hlocks hP hS rfl (by rw [f_X3_partition, if_neg c_1, if_neg c_6, if_neg c_14, if_pos c_54]) rfl dX3_partition_158
        · refine lv_iconst (v := 1) G.1 G.2.1 dX3_partition_57 (by decide) ?_
          refine lv_goto (tgt := 103) G.1 G.2.1 dX3_partition_58 (by decide) ?_
          refine k3_puti G hP hS 0 (by unfold k3i; decide) (by decide) kq_509 rfl rfl rfl rfl dX3_partition_103 (fun H locs hP hS => ?_)
          refine lv_aload_n G.1 G.2.1 dX3_partition_106 rfl (lv_at hl 1 rfl) ?_
          refine k3_getw (v := 1) G hP 0 (by unfold k3i; decide) (by decide) kq_509 rfl (by rw [kup_at]) dX3_partition_107 ?_
          refine lv_if_ne (tgt := 158) G.1 G.2.1 dX3_partition_110 (by decide) (fun _ => ?_) (fun c => absurd c (by decide))
          exact k_vret G hr hlocks hP hS rfl (by rw [f_X3_partition, if_neg c_1, if_neg c_6, if_neg c_14, if_neg c_54]) rfl dX3_partition_158
      · refine lv_iload_n G.1 G.2.1 dX3_partition_17 rfl (lv_at hl 2 rfl) ?_
        refine lv_if_lt (tgt := 42) G.1 G.2.1 dX3_partition_18 (by decide) (fun c_18 => ?_) (fun c_18 => ?_)
        · refine lv_iconst (v := 1) G.1 G.2.1 dX3_partition_42 (by decide) ?_
          refine lv_goto (tgt := 47) G.1 G.2.1 dX3_partition_43 (by decide) ?_
          refine lv_istore (lv' := [(6, .int 1), (0, .ref (A 34)), (1, .int p0), (2, .int p1), (3, .int p2), (4, .int p3), (5, .int p4)]) G.1 G.2.1 dX3_partition_47 hl (by decide) rfl (fun ls hl => ?_)
          refine lv_aload_n G.1 G.2.1 dX3_partition_49 rfl (lv_at hl 1 rfl) ?_
          refine lv_aload_n G.1 G.2.1 dX3_partition_50 rfl (lv_at hl 1 rfl) ?_
          refine k3_geti G hP 24 (by unfold k3i; decide) (by decide) kq_533 rfl dX3_partition_51 ?_
          refine lv_if_eq (tgt := 61) G.1 G.2.1 dX3_partition_54 (by decide) (fun c_54 => ?_) (fun c_54 => ?_)
          · refine lv_iload G.1 G.2.1 dX3_partition_61 (lv_at hl 0 rfl) ?_
            refine lv_if_ne (tgt := 98) G.1 G.2.1 dX3_partition_63 (by decide) (fun _ => ?_) (fun c => absurd c (by decide))
            refine lv_iconst (v := 2) G.1 G.2.1 dX3_partition_98 (by decide) ?_
            refine lv_goto (tgt := 103) G.1 G.2.1 dX3_partition_99 (by decide) ?_
            refine k3_puti G hP hS 0 (by unfold k3i; decide) (by decide) kq_509 rfl rfl rfl rfl dX3_partition_103 (fun H locs hP hS => ?_)
            refine lv_aload_n G.1 G.2.1 dX3_partition_106 rfl (lv_at hl 1 rfl) ?_
            refine k3_getw (v := 2) G hP 0 (by unfold k3i; decide) (by decide) kq_509 rfl (by rw [kup_at]) dX3_partition_107 ?_
            refine lv_if_ne (tgt := 158) G.1 G.2.1 dX3_partition_110 (by decide) (fun _ => ?_) (fun c => absurd c (by decide))
            exact k_vret G hr hlocks hP hS rfl (by rw [f_X3_partition, if_neg c_1, if_neg c_6, if_pos c_14, if_pos c_18, if_pos c_54]) rfl dX3_partition_158
          · refine lv_iconst (v := 1) G.1 G.2.1 dX3_partition_57 (by decide) ?_
            refine lv_goto (tgt := 103) G.1 G.2.1 dX3_partition_58 (by decide) ?_
            refine k3_puti G hP hS 0 (by unfold k3i; decide) (by decide) kq_509 rfl rfl rfl rfl dX3_partition_103 (fun H locs hP hS => ?_)
            refine lv_aload_n G.1 G.2.1 dX3_partition_106 rfl (lv_at hl 1 rfl) ?_
            refine k3_getw (v := 1) G hP 0 (by unfold k3i; decide) (by decide) kq_509 rfl (by rw [kup_at]) dX3_partition_107 ?_
            refine lv_if_ne (tgt := 158) G.1 G.2.1 dX3_partition_110 (by decide) (fun _ => ?_) (fun c => absurd c (by decide))
            exact k_vret G hr hlocks hP hS rfl (by rw [f_X3_partition, if_neg c_1, if_neg c_6, if_pos c_14, if_pos c_18, if_neg c_54]) rfl dX3_partition_158
        · refine lv_iload_n G.1 G.2.1 dX3_partition_21 rfl (lv_at hl 2 rfl) ?_
          refine lv_sipush (v := 512) G.1 G.2.1 dX3_partition_22 (by decide) ?_
          refine lv_icmp_ge (tgt := 42) G.1 G.2.1 dX3_partition_25 (by decide) (fun c_25 => ?_) (fun c_25 => ?_)
          · refine lv_iconst (v := 1) G.1 G.2.1 dX3_partition_42 (by decide) ?_
            refine lv_goto (tgt := 47) G.1 G.2.1 dX3_partition_43 (by decide) ?_
            refine lv_istore (lv' := [(6, .int 1), (0, .ref (A 34)), (1, .int p0), (2, .int p1), (3, .int p2), (4, .int p3), (5, .int p4)]) G.1 G.2.1 dX3_partition_47 hl (by decide) rfl (fun ls hl => ?_)
            refine lv_aload_n G.1 G.2.1 dX3_partition_49 rfl (lv_at hl 1 rfl) ?_
            refine lv_aload_n G.1 G.2.1 dX3_partition_50 rfl (lv_at hl 1 rfl) ?_
            refine k3_geti G hP 24 (by unfold k3i; decide) (by decide) kq_533 rfl dX3_partition_51 ?_
            refine lv_if_eq (tgt := 61) G.1 G.2.1 dX3_partition_54 (by decide) (fun c_54 => ?_) (fun c_54 => ?_)
            · refine lv_iload G.1 G.2.1 dX3_partition_61 (lv_at hl 0 rfl) ?_
              refine lv_if_ne (tgt := 98) G.1 G.2.1 dX3_partition_63 (by decide) (fun _ => ?_) (fun c => absurd c (by decide))
              refine lv_iconst (v := 2) G.1 G.2.1 dX3_partition_98 (by decide) ?_
              refine lv_goto (tgt := 103) G.1 G.2.1 dX3_partition_99 (by decide) ?_
              refine k3_puti G hP hS 0 (by unfold k3i; decide) (by decide) kq_509 rfl rfl rfl rfl dX3_partition_103 (fun H locs hP hS => ?_)
              refine lv_aload_n G.1 G.2.1 dX3_partition_106 rfl (lv_at hl 1 rfl) ?_
              refine k3_getw (v := 2) G hP 0 (by unfold k3i; decide) (by decide) kq_509 rfl (by rw [kup_at]) dX3_partition_107 ?_
              refine lv_if_ne (tgt := 158) G.1 G.2.1 dX3_partition_110 (by decide) (fun _ => ?_) (fun c => absurd c (by decide))
              exact k_vret G hr hlocks hP hS rfl (by rw [f_X3_partition, if_neg c_1, if_neg c_6, if_pos c_14, if_neg c_18, if_pos c_25, if_pos c_54]) rfl dX3_partition_158
            · refine lv_iconst (v := 1) G.1 G.2.1 dX3_partition_57 (by decide) ?_
              refine lv_goto (tgt := 103) G.1 G.2.1 dX3_partition_58 (by decide) ?_
              refine k3_puti G hP hS 0 (by unfold k3i; decide) (by decide) kq_509 rfl rfl rfl rfl dX3_partition_103 (fun H locs hP hS => ?_)
              refine lv_aload_n G.1 G.2.1 dX3_partition_106 rfl (lv_at hl 1 rfl) ?_
              refine k3_getw (v := 1) G hP 0 (by unfold k3i; decide) (by decide) kq_509 rfl (by rw [kup_at]) dX3_partition_107 ?_
              refine lv_if_ne (tgt := 158) G.1 G.2.1 dX3_partition_110 (by decide) (fun _ => ?_) (fun c => absurd c (by decide))
              exact k_vret G hr hlocks hP hS rfl (by rw [f_X3_partition, if_neg c_1, if_neg c_6, if_pos c_14, if_neg c_18, if_pos c_25, if_neg c_54]) rfl dX3_partition_158
          · refine lv_iload_n G.1 G.2.1 dX3_partition_28 rfl (lv_at hl 3 rfl) ?_
            refine lv_iconst (v := 1) G.1 G.2.1 dX3_partition_29 (by decide) ?_
            refine lv_icmp_lt (tgt := 42) G.1 G.2.1 dX3_partition_30 (by decide) (fun c_30 => ?_) (fun c_30 => ?_)
            · refine lv_iconst (v := 1) G.1 G.2.1 dX3_partition_42 (by decide) ?_
              refine lv_goto (tgt := 47) G.1 G.2.1 dX3_partition_43 (by decide) ?_
              refine lv_istore (lv' := [(6, .int 1), (0, .ref (A 34)), (1, .int p0), (2, .int p1), (3, .int p2), (4, .int p3), (5, .int p4)]) G.1 G.2.1 dX3_partition_47 hl (by decide) rfl (fun ls hl => ?_)
              refine lv_aload_n G.1 G.2.1 dX3_partition_49 rfl (lv_at hl 1 rfl) ?_
              refine lv_aload_n G.1 G.2.1 dX3_partition_50 rfl (lv_at hl 1 rfl) ?_
              refine k3_geti G hP 24 (by unfold k3i; decide) (by decide) kq_533 rfl dX3_partition_51 ?_
              refine lv_if_eq (tgt := 61) G.1 G.2.1 dX3_partition_54 (by decide) (fun c_54 => ?_) (fun c_54 => ?_)
              · refine lv_iload G.1 G.2.1 dX3_partition_61 (lv_at hl 0 rfl) ?_
                refine lv_if_ne (tgt := 98) G.1 G.2.1 dX3_partition_63 (by decide) (fun _ => ?_) (fun c => absurd c (by decide))
                refine lv_iconst (v := 2) G.1 G.2.1 dX3_partition_98 (by decide) ?_
                refine lv_goto (tgt := 103) G.1 G.2.1 dX3_partition_99 (by decide) ?_
                refine k3_puti G hP hS 0 (by unfold k3i; decide) (by decide) kq_509 rfl rfl rfl rfl dX3_partition_103 (fun H locs hP hS => ?_)
                refine lv_aload_n G.1 G.2.1 dX3_partition_106 rfl (lv_at hl 1 rfl) ?_
                refine k3_getw (v := 2) G hP 0 (by unfold k3i; decide) (by decide) kq_509 rfl (by rw [kup_at]) dX3_partition_107 ?_
                refine lv_if_ne (tgt := 158) G.1 G.2.1 dX3_partition_110 (by decide) (fun _ => ?_) (fun c => absurd c (by decide))
                exact k_vret G hr hlocks hP hS rfl (by rw [f_X3_partition, if_neg c_1, if_neg c_6, if_pos c_14, if_neg c_18, if_neg c_25, if_pos c_30, if_pos c_54]) rfl dX3_partition_158
              · refine lv_iconst (v := 1) G.1 G.2.1 dX3_partition_57 (by decide) ?_
                refine lv_goto (tgt := 103) G.1 G.2.1 dX3_partition_58 (by decide) ?_
                refine k3_puti G hP hS 0 (by unfold k3i; decide) (by decide) kq_509 rfl rfl rfl rfl dX3_partition_103 (fun H locs hP hS => ?_)
                refine lv_aload_n G.1 G.2.1 dX3_partition_106 rfl (lv_at hl 1 rfl) ?_
                refine k3_getw (v := 1) G hP 0 (by unfold k3i; decide) (by decide) kq_509 rfl (by rw [kup_at]) dX3_partition_107 ?_
                refine lv_if_ne (tgt := 158) G.1 G.2.1 dX3_partition_110 (by decide) (fun _ => ?_) (fun c => absurd c (by decide))
                exact k_vret G hr hlocks hP hS rfl (by rw [f_X3_partition, if_neg c_1, if_neg c_6, if_pos c_14, if_neg c_18, if_neg c_25, if_pos c_30, if_neg c_54]) rfl dX3_partition_158
            · refine lv_iload_n G.1 G.2.1 dX3_partition_33 rfl (lv_at hl 3 rfl) ?_
              refine lv_sipush (v := 512) G.1 G.2.1 dX3_partition_34 (by decide) ?_
              refine lv_iload_n G.1 G.2.1 dX3_partition_37 rfl (lv_at hl 2 rfl) ?_
              refine lv_isub G.1 G.2.1 dX3_partition_38 ?_
              refine lv_icmp_le (tgt := 46) G.1 G.2.1 dX3_partition_39 (by decide) (fun c_39 => ?_) (fun c_39 => ?_)
              · refine lv_iconst (v := 0) G.1 G.2.1 dX3_partition_46 (by decide) ?_
                refine lv_istore (lv' := [(6, .int 0), (0, .ref (A 34)), (1, .int p0), (2, .int p1), (3, .int p2), (4, .int p3), (5, .int p4)]) G.1 G.2.1 dX3_partition_47 hl (by decide) rfl (fun ls hl => ?_)
                refine lv_aload_n G.1 G.2.1 dX3_partition_49 rfl (lv_at hl 1 rfl) ?_
                refine lv_aload_n G.1 G.2.1 dX3_partition_50 rfl (lv_at hl 1 rfl) ?_
                refine k3_geti G hP 24 (by unfold k3i; decide) (by decide) kq_533 rfl dX3_partition_51 ?_
                refine lv_if_eq (tgt := 61) G.1 G.2.1 dX3_partition_54 (by decide) (fun c_54 => ?_) (fun c_54 => ?_)
                · refine lv_iload G.1 G.2.1 dX3_partition_61 (lv_at hl 0 rfl) ?_
                  refine lv_if_ne (tgt := 98) G.1 G.2.1 dX3_partition_63 (by decide) (fun c => absurd c (by decide)) (fun _ => ?_)
                  refine lv_aload_n G.1 G.2.1 dX3_partition_66 rfl (lv_at hl 1 rfl) ?_
                  refine lv_iload_n G.1 G.2.1 dX3_partition_67 rfl (lv_at hl 3 rfl) ?_
                  refine lv_iload_n G.1 G.2.1 dX3_partition_68 rfl (lv_at hl 4 rfl) ?_
                  refine k_Vi (As := [.int p1, .int p2]) (rest := [.ref (A 34)]) G hP hS hl.1 kl_X3_89 yk_X3_shares (c_X3_shares l D A C _ _ _ _ G.2.2.2.2.2.2 p1 p2 ) (kr3 G hP) (by decide) (by decide) rfl (Nat.le_of_ble_eq_true rfl) dX3_partition_69 (fun H locs hP hS => ?_)
                  refine lv_if_ne (tgt := 98) G.1 G.2.1 dX3_partition_72 (by decide) (fun c_72 => ?_) (fun c_72 => ?_)
                  · refine lv_iconst (v := 2) G.1 G.2.1 dX3_partition_98 (by decide) ?_
                    refine lv_goto (tgt := 103) G.1 G.2.1 dX3_partition_99 (by decide) ?_
                    refine k3_puti G hP hS 0 (by unfold k3i; decide) (by decide) kq_509 rfl rfl rfl rfl dX3_partition_103 (fun H locs hP hS => ?_)
                    refine lv_aload_n G.1 G.2.1 dX3_partition_106 rfl (lv_at hl 1 rfl) ?_
                    refine k3_getw (v := 2) G hP 0 (by unfold k3i; decide) (by decide) kq_509 rfl (by rw [kup_at]) dX3_partition_107 ?_
                    refine lv_if_ne (tgt := 158) G.1 G.2.1 dX3_partition_110 (by decide) (fun _ => ?_) (fun c => absurd c (by decide))
                    exact k_vret G hr hlocks hP hS rfl (by rw [f_X3_partition, if_neg c_1, if_neg c_6, if_pos c_14, if_neg c_18, if_neg c_25, if_neg c_30, if_pos c_39, if_pos c_54, if_neg c_72]) rfl dX3_partition_158
                  · refine lv_iload G.1 G.2.1 dX3_partition_75 (lv_at hl 5 rfl) ?_
                    refine lv_if_lt (tgt := 98) G.1 G.2.1 dX3_partition_77 (by decide) (fun c_77 => ?_) (fun c_77 => ?_)
                    · refine lv_iconst (v := 2) G.1 G.2.1 dX3_partition_98 (by decide) ?_
                      refine lv_goto (tgt := 103) G.1 G.2.1 dX3_partition_99 (by decide) ?_
                      refine k3_puti G hP hS 0 (by unfold k3i; decide) (by decide) kq_509 rfl rfl rfl rfl dX3_partition_103 (fun H locs hP hS => ?_)
                      refine lv_aload_n G.1 G.2.1 dX3_partition_106 rfl (lv_at hl 1 rfl) ?_
                      refine k3_getw (v := 2) G hP 0 (by unfold k3i; decide) (by decide) kq_509 rfl (by rw [kup_at]) dX3_partition_107 ?_
                      refine lv_if_ne (tgt := 158) G.1 G.2.1 dX3_partition_110 (by decide) (fun _ => ?_) (fun c => absurd c (by decide))
                      exact k_vret G hr hlocks hP hS rfl (by rw [f_X3_partition, if_neg c_1, if_neg c_6, if_pos c_14, if_neg c_18, if_neg c_25, if_neg c_30, if_pos c_39, if_pos c_54, if_pos c_72, if_pos c_77]) rfl dX3_partition_158
                    · refine lv_iload G.1 G.2.1 dX3_partition_80 (lv_at hl 5 rfl) ?_
                      refine lv_iload_n G.1 G.2.1 dX3_partition_82 rfl (lv_at hl 4 rfl) ?_
                      refine lv_icmp_ge (tgt := 98) G.1 G.2.1 dX3_partition_83 (by decide) (fun c_83 => ?_) (fun c_83 => ?_)
                      · refine lv_iconst (v := 2) G.1 G.2.1 dX3_partition_98 (by decide) ?_
                        refine lv_goto (tgt := 103) G.1 G.2.1 dX3_partition_99 (by decide) ?_
                        refine k3_puti G hP hS 0 (by unfold k3i; decide) (by decide) kq_509 rfl rfl rfl rfl dX3_partition_103 (fun H locs hP hS => ?_)
                        refine lv_aload_n G.1 G.2.1 dX3_partition_106 rfl (lv_at hl 1 rfl) ?_
                        refine k3_getw (v := 2) G hP 0 (by unfold k3i; decide) (by decide) kq_509 rfl (by rw [kup_at]) dX3_partition_107 ?_
                        refine lv_if_ne (tgt := 158) G.1 G.2.1 dX3_partition_110 (by decide) (fun _ => ?_) (fun c => absurd c (by decide))
                        exact k_vret G hr hlocks hP hS rfl (by rw [f_X3_partition, if_neg c_1, if_neg c_6, if_pos c_14, if_neg c_18, if_neg c_25, if_neg c_30, if_pos c_39, if_pos c_54, if_pos c_72, if_neg c_77, if_pos c_83]) rfl dX3_partition_158
                      · refine lv_iload G.1 G.2.1 dX3_partition_86 (lv_at hl 6 rfl) ?_
                        refine lv_if_lt (tgt := 98) G.1 G.2.1 dX3_partition_88 (by decide) (fun c_88 => ?_) (fun c_88 => ?_)
                        · refine lv_iconst (v := 2) G.1 G.2.1 dX3_partition_98 (by decide) ?_
                          refine lv_goto (tgt := 103) G.1 G.2.1 dX3_partition_99 (by decide) ?_
                          refine k3_puti G hP hS 0 (by unfold k3i; decide) (by decide) kq_509 rfl rfl rfl rfl dX3_partition_103 (fun H locs hP hS => ?_)
                          refine lv_aload_n G.1 G.2.1 dX3_partition_106 rfl (lv_at hl 1 rfl) ?_
                          refine k3_getw (v := 2) G hP 0 (by unfold k3i; decide) (by decide) kq_509 rfl (by rw [kup_at]) dX3_partition_107 ?_
                          refine lv_if_ne (tgt := 158) G.1 G.2.1 dX3_partition_110 (by decide) (fun _ => ?_) (fun c => absurd c (by decide))
                          exact k_vret G hr hlocks hP hS rfl (by rw [f_X3_partition, if_neg c_1, if_neg c_6, if_pos c_14, if_neg c_18, if_neg c_25, if_neg c_30, if_pos c_39, if_pos c_54, if_pos c_72, if_neg c_77, if_neg c_83, if_pos c_88]) rfl dX3_partition_158
                        · refine lv_iload G.1 G.2.1 dX3_partition_91 (lv_at hl 6 rfl) ?_
                          refine lv_bipush (v := 100) G.1 G.2.1 dX3_partition_93 (by decide) ?_
                          refine lv_icmp_le (tgt := 102) G.1 G.2.1 dX3_partition_95 (by decide) (fun c_95 => ?_) (fun c_95 => ?_)
                          · refine lv_iconst (v := 0) G.1 G.2.1 dX3_partition_102 (by decide) ?_
                            refine k3_puti G hP hS 0 (by unfold k3i; decide) (by decide) kq_509 rfl rfl rfl rfl dX3_partition_103 (fun H locs hP hS => ?_)
                            refine lv_aload_n G.1 G.2.1 dX3_partition_106 rfl (lv_at hl 1 rfl) ?_
                            refine k3_getw (v := 0) G hP 0 (by unfold k3i; decide) (by decide) kq_509 rfl (by rw [kup_at]) dX3_partition_107 ?_
                            refine lv_if_ne (tgt := 158) G.1 G.2.1 dX3_partition_110 (by decide) (fun c => absurd c (by decide)) (fun _ => ?_)
                            refine lv_aload_n G.1 G.2.1 dX3_partition_113 rfl (lv_at hl 1 rfl) ?_
                            refine k3_getr G hP 2 36 (by decide) (fun _ _ => rfl) kq_511 rfl dX3_partition_114 ?_
                            refine lv_iload_n G.1 G.2.1 dX3_partition_117 rfl (lv_at hl 2 rfl) ?_
                            refine lv_iload_n G.1 G.2.1 dX3_partition_118 rfl (lv_at hl 3 rfl) ?_
                            refine kM_ast (r := 36) G hP hS kI_36 (by decide) (kin_le (n := 6) (by decide) c_1 c_6) dX3_partition_119 (fun H locs hP hS => ?_)
                            refine lv_aload_n G.1 G.2.1 dX3_partition_120 rfl (lv_at hl 1 rfl) ?_
                            refine k3_getr G hP 3 37 (by decide) (fun _ _ => rfl) kq_512 rfl dX3_partition_121 ?_
                            refine lv_iload_n G.1 G.2.1 dX3_partition_124 rfl (lv_at hl 2 rfl) ?_
                            refine lv_iload_n G.1 G.2.1 dX3_partition_125 rfl (lv_at hl 4 rfl) ?_
                            refine kM_ast (r := 37) G hP hS kI_37 (by decide) (kin_le (n := 6) (by decide) c_1 c_6) dX3_partition_126 (fun H locs hP hS => ?_)
                            refine lv_aload_n G.1 G.2.1 dX3_partition_127 rfl (lv_at hl 1 rfl) ?_
                            refine k3_getr G hP 4 38 (by decide) (fun _ _ => rfl) kq_513 rfl dX3_partition_128 ?_
                            refine lv_iload_n G.1 G.2.1 dX3_partition_131 rfl (lv_at hl 2 rfl) ?_
                            refine lv_iload G.1 G.2.1 dX3_partition_132 (lv_at hl 5 rfl) ?_
                            refine kM_ast (r := 38) G hP hS kI_38 (by decide) (kin_le (n := 6) (by decide) c_1 c_6) dX3_partition_134 (fun H locs hP hS => ?_)
                            refine lv_aload_n G.1 G.2.1 dX3_partition_135 rfl (lv_at hl 1 rfl) ?_
                            refine k3_getr G hP 6 40 (by decide) (fun _ _ => rfl) kq_515 rfl dX3_partition_136 ?_
                            refine lv_iload_n G.1 G.2.1 dX3_partition_139 rfl (lv_at hl 2 rfl) ?_
                            refine lv_iload G.1 G.2.1 dX3_partition_140 (lv_at hl 5 rfl) ?_
                            refine kM_ast (r := 40) G hP hS kI_40 (by decide) (kin_le (n := 6) (by decide) c_1 c_6) dX3_partition_142 (fun H locs hP hS => ?_)
                            refine lv_aload_n G.1 G.2.1 dX3_partition_143 rfl (lv_at hl 1 rfl) ?_
                            refine k3_getr G hP 9 43 (by decide) (fun _ _ => rfl) kq_518 rfl dX3_partition_144 ?_
                            refine lv_iload_n G.1 G.2.1 dX3_partition_147 rfl (lv_at hl 2 rfl) ?_
                            refine lv_iload G.1 G.2.1 dX3_partition_148 (lv_at hl 6 rfl) ?_
                            refine kM_ast (r := 43) G hP hS kI_43 (by decide) (kin_le (n := 6) (by decide) c_1 c_6) dX3_partition_150 (fun H locs hP hS => ?_)
                            refine lv_aload_n G.1 G.2.1 dX3_partition_151 rfl (lv_at hl 1 rfl) ?_
                            refine k3_getr G hP 5 39 (by decide) (fun _ _ => rfl) kq_514 rfl dX3_partition_152 ?_
                            refine lv_iload_n G.1 G.2.1 dX3_partition_155 rfl (lv_at hl 2 rfl) ?_
                            refine lv_iconst (v := 1) G.1 G.2.1 dX3_partition_156 (by decide) ?_
                            refine kM_ast (r := 39) G hP hS kI_39 (by decide) (kin_le (n := 6) (by decide) c_1 c_6) dX3_partition_157 (fun H locs hP hS => ?_)
                            exact k_vret G hr hlocks hP hS rfl (by rw [f_X3_partition, if_neg c_1, if_neg c_6, if_pos c_14, if_neg c_18, if_neg c_25, if_neg c_30, if_pos c_39, if_pos c_54, if_pos c_72, if_neg c_77, if_neg c_83, if_neg c_88, if_pos c_95]) rfl dX3_partition_158
                          · refine lv_iconst (v := 2) G.1 G.2.1 dX3_partition_98 (by decide) ?_
                            refine lv_goto (tgt := 103) G.1 G.2.1 dX3_partition_99 (by decide) ?_
                            refine k3_puti G hP hS 0 (by unfold k3i; decide) (by decide) kq_509 rfl rfl rfl rfl dX3_partition_103 (fun H locs hP hS => ?_)
                            refine lv_aload_n G.1 G.2.1 dX3_partition_106 rfl (lv_at hl 1 rfl) ?_
                            refine k3_getw (v := 2) G hP 0 (by unfold k3i; decide) (by decide) kq_509 rfl (by rw [kup_at]) dX3_partition_107 ?_
                            refine lv_if_ne (tgt := 158) G.1 G.2.1 dX3_partition_110 (by decide) (fun _ => ?_) (fun c => absurd c (by decide))
                            exact k_vret G hr hlocks hP hS rfl (by rw [f_X3_partition, if_neg c_1, if_neg c_6, if_pos c_14, if_neg c_18, if_neg c_25, if_neg c_30, if_pos c_39, if_pos c_54, if_pos c_72, if_neg c_77, if_neg c_83, if_neg c_88, if_neg c_95]) rfl dX3_partition_158
                · refine lv_iconst (v := 1) G.1 G.2.1 dX3_partition_57 (by decide) ?_
                  refine lv_goto (tgt := 103) G.1 G.2.1 dX3_partition_58 (by decide) ?_
                  refine k3_puti G hP hS 0 (by unfold k3i; decide) (by decide) kq_509 rfl rfl rfl rfl dX3_partition_103 (fun H locs hP hS => ?_)
                  refine lv_aload_n G.1 G.2.1 dX3_partition_106 rfl (lv_at hl 1 rfl) ?_
                  refine k3_getw (v := 1) G hP 0 (by unfold k3i; decide) (by decide) kq_509 rfl (by rw [kup_at]) dX3_partition_107 ?_
                  refine lv_if_ne (tgt := 158) G.1 G.2.1 dX3_partition_110 (by decide) (fun _ => ?_) (fun c => absurd c (by decide))
                  exact k_vret G hr hlocks hP hS rfl (by rw [f_X3_partition, if_neg c_1, if_neg c_6, if_pos c_14, if_neg c_18, if_neg c_25, if_neg c_30, if_pos c_39, if_neg c_54]) rfl dX3_partition_158
              · refine lv_iconst (v := 1) G.1 G.2.1 dX3_partition_42 (by decide) ?_
                refine lv_goto (tgt := 47) G.1 G.2.1 dX3_partition_43 (by decide) ?_
                refine lv_istore (lv' := [(6, .int 1), (0, .ref (A 34)), (1, .int p0), (2, .int p1), (3, .int p2), (4, .int p3), (5, .int p4)]) G.1 G.2.1 dX3_partition_47 hl (by decide) rfl (fun ls hl => ?_)
                refine lv_aload_n G.1 G.2.1 dX3_partition_49 rfl (lv_at hl 1 rfl) ?_
                refine lv_aload_n G.1 G.2.1 dX3_partition_50 rfl (lv_at hl 1 rfl) ?_
                refine k3_geti G hP 24 (by unfold k3i; decide) (by decide) kq_533 rfl dX3_partition_51 ?_
                refine lv_if_eq (tgt := 61) G.1 G.2.1 dX3_partition_54 (by decide) (fun c_54 => ?_) (fun c_54 => ?_)
                · refine lv_iload G.1 G.2.1 dX3_partition_61 (lv_at hl 0 rfl) ?_
                  refine lv_if_ne (tgt := 98) G.1 G.2.1 dX3_partition_63 (by decide) (fun _ => ?_) (fun c => absurd c (by decide))
                  refine lv_iconst (v := 2) G.1 G.2.1 dX3_partition_98 (by decide) ?_
                  refine lv_goto (tgt := 103) G.1 G.2.1 dX3_partition_99 (by decide) ?_
                  refine k3_puti G hP hS 0 (by unfold k3i; decide) (by decide) kq_509 rfl rfl rfl rfl dX3_partition_103 (fun H locs hP hS => ?_)
                  refine lv_aload_n G.1 G.2.1 dX3_partition_106 rfl (lv_at hl 1 rfl) ?_
                  refine k3_getw (v := 2) G hP 0 (by unfold k3i; decide) (by decide) kq_509 rfl (by rw [kup_at]) dX3_partition_107 ?_
                  refine lv_if_ne (tgt := 158) G.1 G.2.1 dX3_partition_110 (by decide) (fun _ => ?_) (fun c => absurd c (by decide))
                  exact k_vret G hr hlocks hP hS rfl (by rw [f_X3_partition, if_neg c_1, if_neg c_6, if_pos c_14, if_neg c_18, if_neg c_25, if_neg c_30, if_neg c_39, if_pos c_54]) rfl dX3_partition_158
                · refine lv_iconst (v := 1) G.1 G.2.1 dX3_partition_57 (by decide) ?_
                  refine lv_goto (tgt := 103) G.1 G.2.1 dX3_partition_58 (by decide) ?_
                  refine k3_puti G hP hS 0 (by unfold k3i; decide) (by decide) kq_509 rfl rfl rfl rfl dX3_partition_103 (fun H locs hP hS => ?_)
                  refine lv_aload_n G.1 G.2.1 dX3_partition_106 rfl (lv_at hl 1 rfl) ?_
                  refine k3_getw (v := 1) G hP 0 (by unfold k3i; decide) (by decide) kq_509 rfl (by rw [kup_at]) dX3_partition_107 ?_
                  refine lv_if_ne (tgt := 158) G.1 G.2.1 dX3_partition_110 (by decide) (fun _ => ?_) (fun c => absurd c (by decide))
                  exact k_vret G hr hlocks hP hS rfl (by rw [f_X3_partition, if_neg c_1, if_neg c_6, if_pos c_14, if_neg c_18, if_neg c_25, if_neg c_30, if_neg c_39, if_neg c_54]) rfl dX3_partition_158
/-! X3_seal -/
def f_X3_seal_lp (mu : kM) : Nat → Int32 → Int32 → Int32
  | 0, _, a => a
  | n + 1, k, a => f_X3_seal_lp mu n (k + 1) (a + (mu 47 k.toNatClampNeg))
def f_X3_seal (mu : kM) : Int32 × kM :=
  if (mu 34 24) = 0 then (if (mu 34 12) = 0 then (0, kup mu 34 0 1) else (f_X3_seal_lp (kup (kup (kup mu 34 0 0) 34 24 1) 34 26 ((kup (kup mu 34 0 0) 34 24 1) 47 (0 : Int32).toNatClampNeg)) (mu 34 12).toNatClampNeg 0 0, kup (kup (kup mu 34 0 0) 34 24 1) 34 26 ((kup (kup mu 34 0 0) 34 24 1) 47 (0 : Int32).toNatClampNeg))) else (0, kup mu 34 0 1)
set_option maxHeartbeats 4000000 in
set_option maxRecDepth 100000 in
theorem w_X3_seal (l : Launch) (D : va_G) (A : Nat → Nat) (C : Nat → ClassId) (ka mu : kM) (o : Int32) {p : Program} {e : Env} {s : State} {m : MethodId} {args : Array Value} {below : List Frame} {meth : Method} {c : Code} (G : kCtx D A C p s m args c cX3_seal 3 RX3) (hr : meth.sig.returnType = some .int) (hlocks : meth.locks = false) (hw : (mu 34 12).toInt ≤ 12) :
    ∀ (n : Nat) (k a : Int32) (H : Heap) (locs : List Loc) (ls : Array Slot), 0 ≤ k.toInt → k.toInt + n = (mu 34 12).toInt → kP D A C ka mu o H → kS A s H locs → lv_has ls 3 [(2, .int k), (1, .int a), (0, .ref (A 34))] → W p l e ({ frames := 0, cells := 0, slots := 0, locals := 0 }) s m args below meth c H locs 0 0 (kZi D A C below args s 0 0 (f_X3_seal_lp mu n k a) ka mu o) (F0 m 51 ls []) := by
  intro n
  induction n with
  | zero =>
    intro k a H locs ls hi0 hi1 hP hS hl
    refine lv_iload_n G.1 G.2.1 dX3_seal_51 rfl (lv_at hl 0 rfl) ?_
    refine lv_aload_n G.1 G.2.1 dX3_seal_52 rfl (lv_at hl 2 rfl) ?_
    refine k3_geti G hP 12 (by unfold k3i; decide) (by decide) kq_521 rfl dX3_seal_53 ?_
    refine lv_icmp_ge (tgt := 74) G.1 G.2.1 dX3_seal_56 (by decide) (fun _ => ?_) (fun c => absurd (by rw [ki_le]; omega) c)
    refine lv_iload_n G.1 G.2.1 dX3_seal_74 rfl (lv_at hl 1 rfl) ?_
    exact k_iret G hr hlocks hP hS (by rw [f_X3_seal_lp]) rfl rfl rfl dX3_seal_75
  | succ n ih =>
    intro k a H locs ls hi0 hi1 hP hS hl
    refine lv_iload_n G.1 G.2.1 dX3_seal_51 rfl (lv_at hl 0 rfl) ?_
    refine lv_aload_n G.1 G.2.1 dX3_seal_52 rfl (lv_at hl 2 rfl) ?_
    refine k3_geti G hP 12 (by unfold k3i; decide) (by decide) kq_521 rfl dX3_seal_53 ?_
    refine lv_icmp_ge (tgt := 74) G.1 G.2.1 dX3_seal_56 (by decide) (fun c => absurd c (by rw [ki_le]; omega)) (fun _ => ?_)
    refine lv_iload_n G.1 G.2.1 dX3_seal_59 rfl (lv_at hl 1 rfl) ?_
    refine lv_aload_n G.1 G.2.1 dX3_seal_60 rfl (lv_at hl 2 rfl) ?_
    refine k3_getr G hP 14 47 (by decide) (fun _ _ => rfl) kq_523 rfl dX3_seal_61 ?_
    refine lv_iload_n G.1 G.2.1 dX3_seal_64 rfl (lv_at hl 0 rfl) ?_
    refine kM_ald (r := 47) G hP kI_47 (by decide) (by rw [vp_in_iff]; omega) dX3_seal_65 ?_
    refine lv_iadd G.1 G.2.1 dX3_seal_66 ?_
    refine lv_istore_n (lv' := [(1, .int (a + (mu 47 k.toNatClampNeg))), (2, .int k), (0, .ref (A 34))]) G.1 G.2.1 dX3_seal_67 rfl hl (by decide) rfl (fun ls hl => ?_)
    refine lv_iinc (v := k + 1) (lv' := [(2, .int (k + 1)), (1, .int (a + (mu 47 k.toNatClampNeg))), (0, .ref (A 34))]) G.1 G.2.1 dX3_seal_68 hl (k := 1) rfl rfl (by decide) rfl (fun ls hl => ?_)
    refine lv_goto (tgt := 51) G.1 G.2.1 dX3_seal_71 (by decide) ?_
    rw [show f_X3_seal_lp mu (n + 1) k a = f_X3_seal_lp mu n (k + 1) (a + (mu 47 k.toNatClampNeg)) by rw [f_X3_seal_lp]]
    have hi2 : (k + 1).toInt = k.toInt + 1 := ki_add1 (by omega)
    exact ih (k + 1) _ _ _ _ (by omega) (by omega) hP hS (lv_sub hl [0, 1, 2] rfl)
set_option maxHeartbeats 4000000 in
set_option maxRecDepth 100000 in
theorem c_X3_seal (l : Launch) (D : va_G) (A : Nat → Nat) (C : Nat → ClassId) (ka mu : kM) (o : Int32) (sz : Nat) (hA : kinj A)  (hI : mInv mu) : kMi l yX3_seal (.code yX3_seal cX3_seal 3 (some .int)) ({ frames := 0, cells := 0, slots := 0, locals := 0 }) D A C ka mu o sz [.ref (A 34)] ((f_X3_seal mu).1) ka ((f_X3_seal mu).2) o := by
  refine kMi_of hA (by decide) (Nat.le_of_ble_eq_true rfl) (fun p e s m args below meth c G hr hlocks hP hS ls hl => ?_)
  have hl : lv_has ls 3 [(0, .ref (A 34))] := hl
  refine lv_aload_n G.1 G.2.1 dX3_seal_0 rfl (lv_at hl 0 rfl) ?_
  refine lv_aload_n G.1 G.2.1 dX3_seal_1 rfl (lv_at hl 0 rfl) ?_
  refine k3_geti G hP 24 (by unfold k3i; decide) (by decide) kq_533 rfl dX3_seal_2 ?_
  refine lv_if_ne (tgt := 15) G.1 G.2.1 dX3_seal_5 (by decide) (fun c_5 => ?_) (fun c_5 => ?_)
  · refine lv_iconst (v := 1) G.1 G.2.1 dX3_seal_15 (by decide) ?_
    refine lv_goto (tgt := 20) G.1 G.2.1 dX3_seal_16 (by decide) ?_
    refine k3_puti G hP hS 0 (by unfold k3i; decide) (by decide) kq_509 rfl rfl rfl rfl dX3_seal_20 (fun H locs hP hS => ?_)
    refine lv_aload_n G.1 G.2.1 dX3_seal_23 rfl (lv_at hl 0 rfl) ?_
    refine k3_getw (v := 1) G hP 0 (by unfold k3i; decide) (by decide) kq_509 rfl (by rw [kup_at]) dX3_seal_24 ?_
    refine lv_if_le (tgt := 32) G.1 G.2.1 dX3_seal_27 (by decide) (fun c => absurd c (by decide)) (fun _ => ?_)
    refine lv_iconst (v := 0) G.1 G.2.1 dX3_seal_30 (by decide) ?_
    exact k_iret G hr hlocks hP hS (by rw [f_X3_seal, if_neg c_5]) rfl (by rw [f_X3_seal, if_neg c_5]) rfl dX3_seal_31
  · refine lv_aload_n G.1 G.2.1 dX3_seal_8 rfl (lv_at hl 0 rfl) ?_
    refine k3_geti G hP 12 (by unfold k3i; decide) (by decide) kq_521 rfl dX3_seal_9 ?_
    refine lv_if_ne (tgt := 19) G.1 G.2.1 dX3_seal_12 (by decide) (fun c_12 => ?_) (fun c_12 => ?_)
    · refine lv_iconst (v := 0) G.1 G.2.1 dX3_seal_19 (by decide) ?_
      refine k3_puti G hP hS 0 (by unfold k3i; decide) (by decide) kq_509 rfl rfl rfl rfl dX3_seal_20 (fun H locs hP hS => ?_)
      refine lv_aload_n G.1 G.2.1 dX3_seal_23 rfl (lv_at hl 0 rfl) ?_
      refine k3_getw (v := 0) G hP 0 (by unfold k3i; decide) (by decide) kq_509 rfl (by rw [kup_at]) dX3_seal_24 ?_
      refine lv_if_le (tgt := 32) G.1 G.2.1 dX3_seal_27 (by decide) (fun _ => ?_) (fun c => absurd c (by decide))
      refine lv_aload_n G.1 G.2.1 dX3_seal_32 rfl (lv_at hl 0 rfl) ?_
      refine lv_iconst (v := 1) G.1 G.2.1 dX3_seal_33 (by decide) ?_
      refine k3_puti G hP hS 24 (by unfold k3i; decide) (by decide) kq_533 rfl rfl (by decide) (by decide) dX3_seal_34 (fun H locs hP hS => ?_)
      refine lv_aload_n G.1 G.2.1 dX3_seal_37 rfl (lv_at hl 0 rfl) ?_
      refine lv_aload_n G.1 G.2.1 dX3_seal_38 rfl (lv_at hl 0 rfl) ?_
      refine k3_getr G hP 14 47 (by decide) (fun _ _ => rfl) kq_523 rfl dX3_seal_39 ?_
      refine lv_iconst (v := 0) G.1 G.2.1 dX3_seal_42 (by decide) ?_
      refine kM_ald (r := 47) G hP kI_47 (by decide) (by unfold vp_in; decide) dX3_seal_43 ?_
      refine k3_puti G hP hS 26 (by unfold k3i; decide) (by decide) kq_535 rfl rfl rfl rfl dX3_seal_44 (fun H locs hP hS => ?_)
      refine lv_iconst (v := 0) G.1 G.2.1 dX3_seal_47 (by decide) ?_
      refine lv_istore_n (lv' := [(1, .int 0), (0, .ref (A 34))]) G.1 G.2.1 dX3_seal_48 rfl hl (by decide) rfl (fun ls hl => ?_)
      refine lv_iconst (v := 0) G.1 G.2.1 dX3_seal_49 (by decide) ?_
      refine lv_istore_n (lv' := [(2, .int 0), (1, .int 0), (0, .ref (A 34))]) G.1 G.2.1 dX3_seal_50 rfl hl (by decide) rfl (fun ls hl => ?_)
      have hf : f_X3_seal mu = (f_X3_seal_lp (kup (kup (kup mu 34 0 0) 34 24 1) 34 26 ((kup (kup mu 34 0 0) 34 24 1) 47 (0 : Int32).toNatClampNeg)) (mu 34 12).toNatClampNeg 0 0, (kup (kup (kup mu 34 0 0) 34 24 1) 34 26 ((kup (kup mu 34 0 0) 34 24 1) 47 (0 : Int32).toNatClampNeg))) := by rw [f_X3_seal, if_pos c_5, if_neg c_12]
      rw [hf]
      have hw : (kup (kup (kup mu 34 0 0) 34 24 1) 34 26 ((kup (kup mu 34 0 0) 34 24 1) 47 (0 : Int32).toNatClampNeg)) 34 12 = mu 34 12 := by rw [kup_j (by decide), kup_j (by decide), kup_j (by decide)]
      exact w_X3_seal l D A C ka (kup (kup (kup mu 34 0 0) 34 24 1) 34 26 ((kup (kup mu 34 0 0) 34 24 1) 47 (0 : Int32).toNatClampNeg)) o G hr hlocks (by rw [hw]; exact hI.2.2.2.1) (mu 34 12).toNatClampNeg 0 0 _ _ _ (by decide) (by rw [hw, m_cl hI]; simp) hP hS (lv_sub hl [0, 1, 2] rfl)
    · refine lv_iconst (v := 1) G.1 G.2.1 dX3_seal_15 (by decide) ?_
      refine lv_goto (tgt := 20) G.1 G.2.1 dX3_seal_16 (by decide) ?_
      refine k3_puti G hP hS 0 (by unfold k3i; decide) (by decide) kq_509 rfl rfl rfl rfl dX3_seal_20 (fun H locs hP hS => ?_)
      refine lv_aload_n G.1 G.2.1 dX3_seal_23 rfl (lv_at hl 0 rfl) ?_
      refine k3_getw (v := 1) G hP 0 (by unfold k3i; decide) (by decide) kq_509 rfl (by rw [kup_at]) dX3_seal_24 ?_
      refine lv_if_le (tgt := 32) G.1 G.2.1 dX3_seal_27 (by decide) (fun c => absurd c (by decide)) (fun _ => ?_)
      refine lv_iconst (v := 0) G.1 G.2.1 dX3_seal_30 (by decide) ?_
      exact k_iret G hr hlocks hP hS (by rw [f_X3_seal, if_pos c_5, if_pos c_12]) rfl (by rw [f_X3_seal, if_pos c_5, if_pos c_12]) rfl dX3_seal_31
/-! X3_take -/
def f_X3_take_lp (p3 : Int32) : Nat → Int32 → kM → kM
  | 0, _, mu => mu
  | n + 1, k, mu => f_X3_take_lp p3 n (k + 1) (kup mu 52 (((8 : Int32) * p3) + k).toNatClampNeg (mu 52 ((((8 : Int32) * p3) + k) + 1).toNatClampNeg))
def f_X3_take (mu : kM) (p0 : Int32) (p1 : Int32) (p2 : Int32) (p3 : Int32) : kM :=
  if p3 < 0 then (kup mu 34 29 3) else if (7 : Int32) < p3 then (kup mu 34 29 3) else if (mu 48 p3.toNatClampNeg) = 0 then (kup mu 34 29 3) else if (mu 50 p3.toNatClampNeg) = p0 then (if (mu 53 p3.toNatClampNeg) = 0 then (kup mu 41 (((4 : Int32) * p0) + p2).toNatClampNeg 0) else if ((kup mu 41 (((4 : Int32) * p0) + p1).toNatClampNeg (mu 52 ((8 : Int32) * p3).toNatClampNeg)) 51 p3.toNatClampNeg) = 0 then (kup (kup mu 41 (((4 : Int32) * p0) + p1).toNatClampNeg (mu 52 ((8 : Int32) * p3).toNatClampNeg)) 41 (((4 : Int32) * p0) + p2).toNatClampNeg (((kup mu 41 (((4 : Int32) * p0) + p1).toNatClampNeg (mu 52 ((8 : Int32) * p3).toNatClampNeg)) 54 p3.toNatClampNeg) + 1)) else (f_X3_take_lp p3 (mu 53 p3.toNatClampNeg - 1).toNatClampNeg 0 (kup (kup (kup mu 41 (((4 : Int32) * p0) + p1).toNatClampNeg (mu 52 ((8 : Int32) * p3).toNatClampNeg)) 41 (((4 : Int32) * p0) + p2).toNatClampNeg 1) 53 p3.toNatClampNeg (((kup (kup mu 41 (((4 : Int32) * p0) + p1).toNatClampNeg (mu 52 ((8 : Int32) * p3).toNatClampNeg)) 41 (((4 : Int32) * p0) + p2).toNatClampNeg 1) 53 p3.toNatClampNeg) - 1)))) else (kup mu 34 29 3)
set_option maxHeartbeats 4000000 in
set_option maxRecDepth 100000 in
theorem w_X3_take (l : Launch) (D : va_G) (A : Nat → Nat) (C : Nat → ClassId) (ka : kM) (o : Int32) {p : Program} {e : Env} {s : State} {m : MethodId} {args : Array Value} {below : List Frame} {meth : Method} {c : Code} (G : kCtx D A C p s m args c cX3_take 6 RX3) (hr : meth.sig.returnType = none) (hlocks : meth.locks = false) (p0 p1 p2 p3 : Int32) (hc : vp_in p3 8) :
    ∀ (n : Nat) (mu : kM) (k : Int32) (H : Heap) (locs : List Loc) (ls : Array Slot), 0 ≤ k.toInt → k.toInt + n = (mu 53 p3.toNatClampNeg).toInt → k.toInt + n ≤ 7 → kP D A C ka mu o H → kS A s H locs → lv_has ls 6 [(5, .int k), (0, .ref (A 34)), (1, .int p0), (2, .int p1), (3, .int p2), (4, .int p3)] → W p l e ({ frames := 0, cells := 0, slots := 0, locals := 0 }) s m args below meth c H locs 0 0 (kZv D A C below args s 0 0 ka (f_X3_take_lp p3 n k mu) o) (F0 m 136 ls []) := by
  intro n
  induction n with
  | zero =>
    intro mu k H locs ls hi0 hi1 hi2 hP hS hl
    refine lv_iload G.1 G.2.1 dX3_take_136 (lv_at hl 0 rfl) ?_
    refine lv_aload_n G.1 G.2.1 dX3_take_138 rfl (lv_at hl 1 rfl) ?_
    refine k3_getr G hP 20 53 (by decide) (fun _ _ => rfl) kq_529 rfl dX3_take_139 ?_
    refine lv_iload G.1 G.2.1 dX3_take_142 (lv_at hl 5 rfl) ?_
    refine kM_ald (r := 53) G hP kI_53 (by decide) hc dX3_take_144 ?_
    refine lv_icmp_ge (tgt := 182) G.1 G.2.1 dX3_take_145 (by decide) (fun _ => ?_) (fun c => absurd (by rw [ki_le]; omega) c)
    exact k_vret G hr hlocks hP hS rfl (by rw [f_X3_take_lp]) rfl dX3_take_182
  | succ n ih =>
    intro mu k H locs ls hi0 hi1 hi2 hP hS hl
    refine lv_iload G.1 G.2.1 dX3_take_136 (lv_at hl 0 rfl) ?_
    refine lv_aload_n G.1 G.2.1 dX3_take_138 rfl (lv_at hl 1 rfl) ?_
    refine k3_getr G hP 20 53 (by decide) (fun _ _ => rfl) kq_529 rfl dX3_take_139 ?_
    refine lv_iload G.1 G.2.1 dX3_take_142 (lv_at hl 5 rfl) ?_
    refine kM_ald (r := 53) G hP kI_53 (by decide) hc dX3_take_144 ?_
    refine lv_icmp_ge (tgt := 182) G.1 G.2.1 dX3_take_145 (by decide) (fun c => absurd c (by rw [ki_le]; omega)) (fun _ => ?_)
    refine lv_aload_n G.1 G.2.1 dX3_take_148 rfl (lv_at hl 1 rfl) ?_
    refine k3_getr G hP 19 52 (by decide) (fun _ _ => rfl) kq_528 rfl dX3_take_149 ?_
    refine lv_bipush (v := 8) G.1 G.2.1 dX3_take_152 (by decide) ?_
    refine lv_iload G.1 G.2.1 dX3_take_154 (lv_at hl 5 rfl) ?_
    refine lv_imul G.1 G.2.1 dX3_take_156 ?_
    refine lv_iload G.1 G.2.1 dX3_take_157 (lv_at hl 0 rfl) ?_
    refine lv_iadd G.1 G.2.1 dX3_take_159 ?_
    refine lv_aload_n G.1 G.2.1 dX3_take_160 rfl (lv_at hl 1 rfl) ?_
    refine k3_getr G hP 19 52 (by decide) (fun _ _ => rfl) kq_528 rfl dX3_take_161 ?_
    refine lv_bipush (v := 8) G.1 G.2.1 dX3_take_164 (by decide) ?_
    refine lv_iload G.1 G.2.1 dX3_take_166 (lv_at hl 5 rfl) ?_
    refine lv_imul G.1 G.2.1 dX3_take_168 ?_
    refine lv_iload G.1 G.2.1 dX3_take_169 (lv_at hl 0 rfl) ?_
    refine lv_iadd G.1 G.2.1 dX3_take_171 ?_
    refine lv_iconst (v := 1) G.1 G.2.1 dX3_take_172 (by decide) ?_
    refine lv_iadd G.1 G.2.1 dX3_take_173 ?_
    refine kM_ald (r := 52) G hP kI_52 (by decide) (kin8k1 hc hi0 (by omega)) dX3_take_174 ?_
    refine kM_ast (r := 52) G hP hS kI_52 (by decide) (kin8k hc (by rw [vp_in_iff]; omega)) dX3_take_175 (fun H locs hP hS => ?_)
    refine lv_iinc (v := k + 1) (lv' := [(5, .int (k + 1)), (0, .ref (A 34)), (1, .int p0), (2, .int p1), (3, .int p2), (4, .int p3)]) G.1 G.2.1 dX3_take_176 hl (k := 0) rfl rfl (by decide) rfl (fun ls hl => ?_)
    refine lv_goto (tgt := 136) G.1 G.2.1 dX3_take_179 (by decide) ?_
    rw [show f_X3_take_lp p3 (n + 1) k mu = f_X3_take_lp p3 n (k + 1) (kup mu 52 (((8 : Int32) * p3) + k).toNatClampNeg (mu 52 ((((8 : Int32) * p3) + k) + 1).toNatClampNeg)) by rw [f_X3_take_lp]]
    have hi3 : (k + 1).toInt = k.toInt + 1 := ki_add1 (by omega)
    exact ih _ (k + 1) _ _ _ (by omega) (by rw [kup_r (by decide)]; omega) (by omega) hP hS (lv_sub hl [0, 1, 2, 3, 4, 5] rfl)
set_option maxHeartbeats 4000000 in
set_option maxRecDepth 100000 in
theorem c_X3_take (l : Launch) (D : va_G) (A : Nat → Nat) (C : Nat → ClassId) (ka mu : kM) (o : Int32) (sz : Nat) (hA : kinj A) (p0 : Int32) (p1 : Int32) (p2 : Int32) (p3 : Int32) (hp : vp_in p0 6) (ha : vp_in p1 4) (hb : vp_in p2 4) (hC : mC mu) : kMv l yX3_take (.code yX3_take cX3_take 6 none) ({ frames := 0, cells := 0, slots := 0, locals := 0 }) D A C ka mu o sz [.ref (A 34), .int p0, .int p1, .int p2, .int p3]  ka (f_X3_take mu p0 p1 p2 p3) o := by
  refine kMv_of hA (by decide) (Nat.le_of_ble_eq_true rfl) (fun p e s m args below meth c G hr hlocks hP hS ls hl => ?_)
  have hl : lv_has ls 6 [(0, .ref (A 34)), (1, .int p0), (2, .int p1), (3, .int p2), (4, .int p3)] := hl
  refine lv_iload G.1 G.2.1 dX3_take_0 (lv_at hl 4 rfl) ?_
  refine lv_if_lt (tgt := 33) G.1 G.2.1 dX3_take_2 (by decide) (fun c_2 => ?_) (fun c_2 => ?_)
  · refine lv_aload_n G.1 G.2.1 dX3_take_33 rfl (lv_at hl 0 rfl) ?_
    refine lv_iconst (v := 3) G.1 G.2.1 dX3_take_34 (by decide) ?_
    refine k3_puti G hP hS 29 (by unfold k3i; decide) (by decide) kq_538 rfl rfl rfl rfl dX3_take_35 (fun H locs hP hS => ?_)
    exact k_vret G hr hlocks hP hS rfl (by rw [f_X3_take, if_pos c_2]) rfl dX3_take_38
  · refine lv_iload G.1 G.2.1 dX3_take_5 (lv_at hl 4 rfl) ?_
    refine lv_bipush (v := 7) G.1 G.2.1 dX3_take_7 (by decide) ?_
    refine lv_icmp_gt (tgt := 33) G.1 G.2.1 dX3_take_9 (by decide) (fun c_9 => ?_) (fun c_9 => ?_)
    · refine lv_aload_n G.1 G.2.1 dX3_take_33 rfl (lv_at hl 0 rfl) ?_
      refine lv_iconst (v := 3) G.1 G.2.1 dX3_take_34 (by decide) ?_
      refine k3_puti G hP hS 29 (by unfold k3i; decide) (by decide) kq_538 rfl rfl rfl rfl dX3_take_35 (fun H locs hP hS => ?_)
      exact k_vret G hr hlocks hP hS rfl (by rw [f_X3_take, if_neg c_2, if_pos c_9]) rfl dX3_take_38
    · refine lv_aload_n G.1 G.2.1 dX3_take_12 rfl (lv_at hl 0 rfl) ?_
      refine k3_getr G hP 15 48 (by decide) (fun _ _ => rfl) kq_524 rfl dX3_take_13 ?_
      refine lv_iload G.1 G.2.1 dX3_take_16 (lv_at hl 4 rfl) ?_
      refine kZ_ald G hP (kin_le (n := 8) (by decide) c_2 c_9) dX3_take_18 ?_
      refine lv_if_eq (tgt := 33) G.1 G.2.1 dX3_take_19 (by decide) (fun c_19 => ?_) (fun c_19 => ?_)
      · refine lv_aload_n G.1 G.2.1 dX3_take_33 rfl (lv_at hl 0 rfl) ?_
        refine lv_iconst (v := 3) G.1 G.2.1 dX3_take_34 (by decide) ?_
        refine k3_puti G hP hS 29 (by unfold k3i; decide) (by decide) kq_538 rfl rfl rfl rfl dX3_take_35 (fun H locs hP hS => ?_)
        exact k_vret G hr hlocks hP hS rfl (by rw [f_X3_take, if_neg c_2, if_neg c_9, if_pos c_19]) rfl dX3_take_38
      · refine lv_aload_n G.1 G.2.1 dX3_take_22 rfl (lv_at hl 0 rfl) ?_
        refine k3_getr G hP 17 50 (by decide) (fun _ _ => rfl) kq_526 rfl dX3_take_23 ?_
        refine lv_iload G.1 G.2.1 dX3_take_26 (lv_at hl 4 rfl) ?_
        refine kM_ald (r := 50) G hP kI_50 (by decide) (kin_le (n := 8) (by decide) c_2 c_9) dX3_take_28 ?_
        refine lv_iload_n G.1 G.2.1 dX3_take_29 rfl (lv_at hl 1 rfl) ?_
        refine lv_icmp_eq (tgt := 39) G.1 G.2.1 dX3_take_30 (by decide) (fun c_30 => ?_) (fun c_30 => ?_)
        · refine lv_aload_n G.1 G.2.1 dX3_take_39 rfl (lv_at hl 0 rfl) ?_
          refine k3_getr G hP 20 53 (by decide) (fun _ _ => rfl) kq_529 rfl dX3_take_40 ?_
          refine lv_iload G.1 G.2.1 dX3_take_43 (lv_at hl 4 rfl) ?_
          refine kM_ald (r := 53) G hP kI_53 (by decide) (kin_le (n := 8) (by decide) c_2 c_9) dX3_take_45 ?_
          refine lv_if_ne (tgt := 61) G.1 G.2.1 dX3_take_46 (by decide) (fun c_46 => ?_) (fun c_46 => ?_)
          · refine lv_aload_n G.1 G.2.1 dX3_take_61 rfl (lv_at hl 0 rfl) ?_
            refine k3_getr G hP 7 41 (by decide) (fun _ _ => rfl) kq_516 rfl dX3_take_62 ?_
            refine lv_iconst (v := 4) G.1 G.2.1 dX3_take_65 (by decide) ?_
            refine lv_iload_n G.1 G.2.1 dX3_take_66 rfl (lv_at hl 1 rfl) ?_
            refine lv_imul G.1 G.2.1 dX3_take_67 ?_
            refine lv_iload_n G.1 G.2.1 dX3_take_68 rfl (lv_at hl 2 rfl) ?_
            refine lv_iadd G.1 G.2.1 dX3_take_69 ?_
            refine lv_aload_n G.1 G.2.1 dX3_take_70 rfl (lv_at hl 0 rfl) ?_
            refine k3_getr G hP 19 52 (by decide) (fun _ _ => rfl) kq_528 rfl dX3_take_71 ?_
            refine lv_bipush (v := 8) G.1 G.2.1 dX3_take_74 (by decide) ?_
            refine lv_iload G.1 G.2.1 dX3_take_76 (lv_at hl 4 rfl) ?_
            refine lv_imul G.1 G.2.1 dX3_take_78 ?_
            refine kM_ald (r := 52) G hP kI_52 (by decide) (kin8 (kin_le (n := 8) (by decide) c_2 c_9)) dX3_take_79 ?_
            refine kM_ast (r := 41) G hP hS kI_41 (by decide) (kin4 hp ha) dX3_take_80 (fun H locs hP hS => ?_)
            refine lv_aload_n G.1 G.2.1 dX3_take_81 rfl (lv_at hl 0 rfl) ?_
            refine k3_getr G hP 18 51 (by decide) (fun _ _ => rfl) kq_527 rfl dX3_take_82 ?_
            refine lv_iload G.1 G.2.1 dX3_take_85 (lv_at hl 4 rfl) ?_
            refine kM_ald (r := 51) G hP kI_51 (by decide) (kin_le (n := 8) (by decide) c_2 c_9) dX3_take_87 ?_
            refine lv_if_ne (tgt := 111) G.1 G.2.1 dX3_take_88 (by decide) (fun c_88 => ?_) (fun c_88 => ?_)
            · refine lv_aload_n G.1 G.2.1 dX3_take_111 rfl (lv_at hl 0 rfl) ?_
              refine k3_getr G hP 7 41 (by decide) (fun _ _ => rfl) kq_516 rfl dX3_take_112 ?_
              refine lv_iconst (v := 4) G.1 G.2.1 dX3_take_115 (by decide) ?_
              refine lv_iload_n G.1 G.2.1 dX3_take_116 rfl (lv_at hl 1 rfl) ?_
              refine lv_imul G.1 G.2.1 dX3_take_117 ?_
              refine lv_iload_n G.1 G.2.1 dX3_take_118 rfl (lv_at hl 3 rfl) ?_
              refine lv_iadd G.1 G.2.1 dX3_take_119 ?_
              refine lv_iconst (v := 1) G.1 G.2.1 dX3_take_120 (by decide) ?_
              refine kM_ast (r := 41) G hP hS kI_41 (by decide) (kin4 hp hb) dX3_take_121 (fun H locs hP hS => ?_)
              refine lv_aload_n G.1 G.2.1 dX3_take_122 rfl (lv_at hl 0 rfl) ?_
              refine k3_getr G hP 20 53 (by decide) (fun _ _ => rfl) kq_529 rfl dX3_take_123 ?_
              refine lv_iload G.1 G.2.1 dX3_take_126 (lv_at hl 4 rfl) ?_
              refine lv_dup2_11 G.1 G.2.1 dX3_take_128 rfl rfl ?_
              refine kM_ald (r := 53) G hP kI_53 (by decide) (kin_le (n := 8) (by decide) c_2 c_9) dX3_take_129 ?_
              refine lv_iconst (v := 1) G.1 G.2.1 dX3_take_130 (by decide) ?_
              refine lv_isub G.1 G.2.1 dX3_take_131 ?_
              refine kM_ast (r := 53) G hP hS kI_53 (by decide) (kin_le (n := 8) (by decide) c_2 c_9) dX3_take_132 (fun H locs hP hS => ?_)
              refine lv_iconst (v := 0) G.1 G.2.1 dX3_take_133 (by decide) ?_
              refine lv_istore (lv' := [(5, .int 0), (0, .ref (A 34)), (1, .int p0), (2, .int p1), (3, .int p2), (4, .int p3)]) G.1 G.2.1 dX3_take_134 hl (by decide) rfl (fun ls hl => ?_)
              have hf : f_X3_take mu p0 p1 p2 p3 = f_X3_take_lp p3 (mu 53 p3.toNatClampNeg - 1).toNatClampNeg 0 (kup (kup (kup mu 41 (((4 : Int32) * p0) + p1).toNatClampNeg (mu 52 ((8 : Int32) * p3).toNatClampNeg)) 41 (((4 : Int32) * p0) + p2).toNatClampNeg 1) 53 p3.toNatClampNeg (((kup (kup mu 41 (((4 : Int32) * p0) + p1).toNatClampNeg (mu 52 ((8 : Int32) * p3).toNatClampNeg)) 41 (((4 : Int32) * p0) + p2).toNatClampNeg 1) 53 p3.toNatClampNeg) - 1)) := by rw [f_X3_take, if_neg c_2, if_neg c_9, if_neg c_19, if_pos c_30, if_neg c_46, if_neg c_88]
              rw [hf]
              obtain ⟨hn1, hn2⟩ := m_less hC (kin_le (n := 8) (by decide) c_2 c_9) c_46
              have hw : (kup (kup (kup mu 41 (((4 : Int32) * p0) + p1).toNatClampNeg (mu 52 ((8 : Int32) * p3).toNatClampNeg)) 41 (((4 : Int32) * p0) + p2).toNatClampNeg 1) 53 p3.toNatClampNeg (((kup (kup mu 41 (((4 : Int32) * p0) + p1).toNatClampNeg (mu 52 ((8 : Int32) * p3).toNatClampNeg)) 41 (((4 : Int32) * p0) + p2).toNatClampNeg 1) 53 p3.toNatClampNeg) - 1)) 53 p3.toNatClampNeg = mu 53 p3.toNatClampNeg - 1 := by rw [kup_at, kup_r (by decide), kup_r (by decide)]
              exact w_X3_take l D A C ka o G hr hlocks p0 p1 p2 p3 (kin_le (n := 8) (by decide) c_2 c_9) (mu 53 p3.toNatClampNeg - 1).toNatClampNeg (kup (kup (kup mu 41 (((4 : Int32) * p0) + p1).toNatClampNeg (mu 52 ((8 : Int32) * p3).toNatClampNeg)) 41 (((4 : Int32) * p0) + p2).toNatClampNeg 1) 53 p3.toNatClampNeg (((kup (kup mu 41 (((4 : Int32) * p0) + p1).toNatClampNeg (mu 52 ((8 : Int32) * p3).toNatClampNeg)) 41 (((4 : Int32) * p0) + p2).toNatClampNeg 1) 53 p3.toNatClampNeg) - 1)) 0 _ _ _ (by decide) (by rw [hw, ← hn1]; simp) (by simp; omega) hP hS (lv_sub hl [0, 1, 2, 3, 4, 5] rfl)
            · refine lv_aload_n G.1 G.2.1 dX3_take_91 rfl (lv_at hl 0 rfl) ?_
              refine k3_getr G hP 7 41 (by decide) (fun _ _ => rfl) kq_516 rfl dX3_take_92 ?_
              refine lv_iconst (v := 4) G.1 G.2.1 dX3_take_95 (by decide) ?_
              refine lv_iload_n G.1 G.2.1 dX3_take_96 rfl (lv_at hl 1 rfl) ?_
              refine lv_imul G.1 G.2.1 dX3_take_97 ?_
              refine lv_iload_n G.1 G.2.1 dX3_take_98 rfl (lv_at hl 3 rfl) ?_
              refine lv_iadd G.1 G.2.1 dX3_take_99 ?_
              refine lv_aload_n G.1 G.2.1 dX3_take_100 rfl (lv_at hl 0 rfl) ?_
              refine k3_getr G hP 21 54 (by decide) (fun _ _ => rfl) kq_530 rfl dX3_take_101 ?_
              refine lv_iload G.1 G.2.1 dX3_take_104 (lv_at hl 4 rfl) ?_
              refine kM_ald (r := 54) G hP kI_54 (by decide) (kin_le (n := 8) (by decide) c_2 c_9) dX3_take_106 ?_
              refine lv_iconst (v := 1) G.1 G.2.1 dX3_take_107 (by decide) ?_
              refine lv_iadd G.1 G.2.1 dX3_take_108 ?_
              refine kM_ast (r := 41) G hP hS kI_41 (by decide) (kin4 hp hb) dX3_take_109 (fun H locs hP hS => ?_)
              exact k_vret G hr hlocks hP hS rfl (by rw [f_X3_take, if_neg c_2, if_neg c_9, if_neg c_19, if_pos c_30, if_neg c_46, if_pos c_88]) rfl dX3_take_110
          · refine lv_aload_n G.1 G.2.1 dX3_take_49 rfl (lv_at hl 0 rfl) ?_
            refine k3_getr G hP 7 41 (by decide) (fun _ _ => rfl) kq_516 rfl dX3_take_50 ?_
            refine lv_iconst (v := 4) G.1 G.2.1 dX3_take_53 (by decide) ?_
            refine lv_iload_n G.1 G.2.1 dX3_take_54 rfl (lv_at hl 1 rfl) ?_
            refine lv_imul G.1 G.2.1 dX3_take_55 ?_
            refine lv_iload_n G.1 G.2.1 dX3_take_56 rfl (lv_at hl 3 rfl) ?_
            refine lv_iadd G.1 G.2.1 dX3_take_57 ?_
            refine lv_iconst (v := 0) G.1 G.2.1 dX3_take_58 (by decide) ?_
            refine kM_ast (r := 41) G hP hS kI_41 (by decide) (kin4 hp hb) dX3_take_59 (fun H locs hP hS => ?_)
            exact k_vret G hr hlocks hP hS rfl (by rw [f_X3_take, if_neg c_2, if_neg c_9, if_neg c_19, if_pos c_30, if_pos c_46]) rfl dX3_take_60
        · refine lv_aload_n G.1 G.2.1 dX3_take_33 rfl (lv_at hl 0 rfl) ?_
          refine lv_iconst (v := 3) G.1 G.2.1 dX3_take_34 (by decide) ?_
          refine k3_puti G hP hS 29 (by unfold k3i; decide) (by decide) kq_538 rfl rfl rfl rfl dX3_take_35 (fun H locs hP hS => ?_)
          exact k_vret G hr hlocks hP hS rfl (by rw [f_X3_take, if_neg c_2, if_neg c_9, if_neg c_19, if_neg c_30]) rfl dX3_take_38
