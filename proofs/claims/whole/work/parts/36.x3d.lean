/-! X3_age -/
def f_X3_age_lp : Nat → Int32 → kM → kM
  | 0, _, mu => mu
  | n + 1, c4, mu => if (mu 51 c4.toNatClampNeg) = 0 then (if (mu 53 c4.toNatClampNeg) ≤ 0 then (f_X3_age_lp n (c4 + 1) (kup mu 54 c4.toNatClampNeg (mu 54 c4.toNatClampNeg))) else if (1000000 : Int32) ≤ (mu 54 c4.toNatClampNeg) then (f_X3_age_lp n (c4 + 1) (kup mu 54 c4.toNatClampNeg (mu 54 c4.toNatClampNeg))) else f_X3_age_lp n (c4 + 1) (kup mu 54 c4.toNatClampNeg ((mu 54 c4.toNatClampNeg) + 1))) else f_X3_age_lp n (c4 + 1) (kup mu 54 c4.toNatClampNeg (mu 54 c4.toNatClampNeg))
set_option maxHeartbeats 4000000 in
set_option maxRecDepth 100000 in
theorem w_X3_age (l : Launch) (D : va_G) (A : Nat → Nat) (C : Nat → ClassId) (ka : kM) (o : Int32) {p : Program} {e : Env} {s : State} {m : MethodId} {args : Array Value} {below : List Frame} {meth : Method} {c : Code} (G : kCtx D A C p s m args c cX3_step 5 RX3) (hr : meth.sig.returnType = some .int) (hlocks : meth.locks = false) (t b p0 : Int32) {Q : State → Prop} :
    ∀ (n : Nat) (mu : kM) (c4 : Int32) (H : Heap) (locs : List Loc) (ls : Array Slot), 0 ≤ c4.toInt → c4.toInt + n = 8 → kP D A C ka mu o H → kS A s H locs → lv_has ls 5 [(4, .int c4), (3, .int t), (2, .int b), (0, .ref (A 34)), (1, .int p0)] → (∀ (H : Heap) (locs : List Loc) (ls : Array Slot), kP D A C ka (f_X3_age_lp n c4 mu) o H → kS A s H locs → lv_has ls 5 [(3, .int t), (2, .int b), (0, .ref (A 34)), (1, .int p0)] → W p l e ({ frames := 3, cells := 0, slots := 0, locals := 78 }) s m args below meth c H locs 0 0 Q (F0 m 121 ls [])) → W p l e ({ frames := 3, cells := 0, slots := 0, locals := 78 }) s m args below meth c H locs 0 0 Q (F0 m 50 ls []) := by
  intro n
  induction n with
  | zero =>
    intro mu c4 H locs ls hi0 hi1 hP hS hl K
    refine lv_iload G.1 G.2.1 dX3_step_50 (lv_at hl 0 rfl) ?_
    refine lv_bipush (v := 8) G.1 G.2.1 dX3_step_52 (by decide) ?_
    refine lv_icmp_ge (tgt := 121) G.1 G.2.1 dX3_step_54 (by decide) (fun _ => ?_) (fun c => absurd (by rw [ki_le, show (8 : Int32).toInt = 8 from rfl]; omega) c)
    exact K _ _ _ (by rw [f_X3_age_lp]; exact hP) hS (lv_sub hl [1, 2, 3, 4] rfl)
  | succ n ih =>
    intro mu c4 H locs ls hi0 hi1 hP hS hl K
    refine lv_iload G.1 G.2.1 dX3_step_50 (lv_at hl 0 rfl) ?_
    refine lv_bipush (v := 8) G.1 G.2.1 dX3_step_52 (by decide) ?_
    refine lv_icmp_ge (tgt := 121) G.1 G.2.1 dX3_step_54 (by decide) (fun c => absurd c (by rw [ki_le, show (8 : Int32).toInt = 8 from rfl]; omega)) (fun _ => ?_)
    refine lv_aload_n G.1 G.2.1 dX3_step_57 rfl (lv_at hl 3 rfl) ?_
    refine k3_getr G hP 21 54 (by decide) (fun _ _ => rfl) kq_530 rfl dX3_step_58 ?_
    refine lv_iload G.1 G.2.1 dX3_step_61 (lv_at hl 0 rfl) ?_
    refine lv_aload_n G.1 G.2.1 dX3_step_63 rfl (lv_at hl 3 rfl) ?_
    refine k3_getr G hP 18 51 (by decide) (fun _ _ => rfl) kq_527 rfl dX3_step_64 ?_
    refine lv_iload G.1 G.2.1 dX3_step_67 (lv_at hl 0 rfl) ?_
    refine kM_ald (r := 51) G hP kI_51 (by decide) (by rw [vp_in_iff]; omega) dX3_step_69 ?_
    refine lv_if_ne (tgt := 107) G.1 G.2.1 dX3_step_70 (by decide) (fun c_70 => ?_) (fun c_70 => ?_)
    · refine lv_aload_n G.1 G.2.1 dX3_step_107 rfl (lv_at hl 3 rfl) ?_
      refine k3_getr G hP 21 54 (by decide) (fun _ _ => rfl) kq_530 rfl dX3_step_108 ?_
      refine lv_iload G.1 G.2.1 dX3_step_111 (lv_at hl 0 rfl) ?_
      refine kM_ald (r := 54) G hP kI_54 (by decide) (by rw [vp_in_iff]; omega) dX3_step_113 ?_
      refine kM_ast (r := 54) G hP hS kI_54 (by decide) (by rw [vp_in_iff]; omega) dX3_step_114 (fun H locs hP hS => ?_)
      refine lv_iinc (v := c4 + 1) (lv' := [(4, .int (c4 + 1)), (3, .int t), (2, .int b), (0, .ref (A 34)), (1, .int p0)]) G.1 G.2.1 dX3_step_115 hl (k := 0) rfl rfl (by decide) rfl (fun ls hl => ?_)
      refine lv_goto (tgt := 50) G.1 G.2.1 dX3_step_118 (by decide) ?_
      have hi2 : (c4 + 1).toInt = c4.toInt + 1 := ki_add1 (by omega)
      exact ih _ (c4 + 1) _ _ _ (by omega) (by omega) hP hS (lv_sub hl [0, 1, 2, 3, 4] rfl) (fun H locs ls h1 h2 h3 => K H locs ls (by rw [f_X3_age_lp, if_neg c_70]; exact h1) h2 h3)
    · refine lv_aload_n G.1 G.2.1 dX3_step_73 rfl (lv_at hl 3 rfl) ?_
      refine k3_getr G hP 20 53 (by decide) (fun _ _ => rfl) kq_529 rfl dX3_step_74 ?_
      refine lv_iload G.1 G.2.1 dX3_step_77 (lv_at hl 0 rfl) ?_
      refine kM_ald (r := 53) G hP kI_53 (by decide) (by rw [vp_in_iff]; omega) dX3_step_79 ?_
      refine lv_if_le (tgt := 107) G.1 G.2.1 dX3_step_80 (by decide) (fun c_80 => ?_) (fun c_80 => ?_)
      · refine lv_aload_n G.1 G.2.1 dX3_step_107 rfl (lv_at hl 3 rfl) ?_
        refine k3_getr G hP 21 54 (by decide) (fun _ _ => rfl) kq_530 rfl dX3_step_108 ?_
        refine lv_iload G.1 G.2.1 dX3_step_111 (lv_at hl 0 rfl) ?_
        refine kM_ald (r := 54) G hP kI_54 (by decide) (by rw [vp_in_iff]; omega) dX3_step_113 ?_
        refine kM_ast (r := 54) G hP hS kI_54 (by decide) (by rw [vp_in_iff]; omega) dX3_step_114 (fun H locs hP hS => ?_)
        refine lv_iinc (v := c4 + 1) (lv' := [(4, .int (c4 + 1)), (3, .int t), (2, .int b), (0, .ref (A 34)), (1, .int p0)]) G.1 G.2.1 dX3_step_115 hl (k := 0) rfl rfl (by decide) rfl (fun ls hl => ?_)
        refine lv_goto (tgt := 50) G.1 G.2.1 dX3_step_118 (by decide) ?_
        have hi2 : (c4 + 1).toInt = c4.toInt + 1 := ki_add1 (by omega)
        exact ih _ (c4 + 1) _ _ _ (by omega) (by omega) hP hS (lv_sub hl [0, 1, 2, 3, 4] rfl) (fun H locs ls h1 h2 h3 => K H locs ls (by rw [f_X3_age_lp, if_pos c_70, if_pos c_80]; exact h1) h2 h3)
      · refine lv_aload_n G.1 G.2.1 dX3_step_83 rfl (lv_at hl 3 rfl) ?_
        refine k3_getr G hP 21 54 (by decide) (fun _ _ => rfl) kq_530 rfl dX3_step_84 ?_
        refine lv_iload G.1 G.2.1 dX3_step_87 (lv_at hl 0 rfl) ?_
        refine kM_ald (r := 54) G hP kI_54 (by decide) (by rw [vp_in_iff]; omega) dX3_step_89 ?_
        refine lv_ldc (v := 1000000) G.1 G.2.1 G.2.2.2.1 (G.2.2.2.2.1 _ kq_645) dX3_step_90 ?_
        refine lv_icmp_ge (tgt := 107) G.1 G.2.1 dX3_step_92 (by decide) (fun c_92 => ?_) (fun c_92 => ?_)
        · refine lv_aload_n G.1 G.2.1 dX3_step_107 rfl (lv_at hl 3 rfl) ?_
          refine k3_getr G hP 21 54 (by decide) (fun _ _ => rfl) kq_530 rfl dX3_step_108 ?_
          refine lv_iload G.1 G.2.1 dX3_step_111 (lv_at hl 0 rfl) ?_
          refine kM_ald (r := 54) G hP kI_54 (by decide) (by rw [vp_in_iff]; omega) dX3_step_113 ?_
          refine kM_ast (r := 54) G hP hS kI_54 (by decide) (by rw [vp_in_iff]; omega) dX3_step_114 (fun H locs hP hS => ?_)
          refine lv_iinc (v := c4 + 1) (lv' := [(4, .int (c4 + 1)), (3, .int t), (2, .int b), (0, .ref (A 34)), (1, .int p0)]) G.1 G.2.1 dX3_step_115 hl (k := 0) rfl rfl (by decide) rfl (fun ls hl => ?_)
          refine lv_goto (tgt := 50) G.1 G.2.1 dX3_step_118 (by decide) ?_
          have hi2 : (c4 + 1).toInt = c4.toInt + 1 := ki_add1 (by omega)
          exact ih _ (c4 + 1) _ _ _ (by omega) (by omega) hP hS (lv_sub hl [0, 1, 2, 3, 4] rfl) (fun H locs ls h1 h2 h3 => K H locs ls (by rw [f_X3_age_lp, if_pos c_70, if_neg c_80, if_pos c_92]; exact h1) h2 h3)
        · refine lv_aload_n G.1 G.2.1 dX3_step_95 rfl (lv_at hl 3 rfl) ?_
          refine k3_getr G hP 21 54 (by decide) (fun _ _ => rfl) kq_530 rfl dX3_step_96 ?_
          refine lv_iload G.1 G.2.1 dX3_step_99 (lv_at hl 0 rfl) ?_
          refine kM_ald (r := 54) G hP kI_54 (by decide) (by rw [vp_in_iff]; omega) dX3_step_101 ?_
          refine lv_iconst (v := 1) G.1 G.2.1 dX3_step_102 (by decide) ?_
          refine lv_iadd G.1 G.2.1 dX3_step_103 ?_
          refine lv_goto (tgt := 114) G.1 G.2.1 dX3_step_104 (by decide) ?_
          refine kM_ast (r := 54) G hP hS kI_54 (by decide) (by rw [vp_in_iff]; omega) dX3_step_114 (fun H locs hP hS => ?_)
          refine lv_iinc (v := c4 + 1) (lv' := [(4, .int (c4 + 1)), (3, .int t), (2, .int b), (0, .ref (A 34)), (1, .int p0)]) G.1 G.2.1 dX3_step_115 hl (k := 0) rfl rfl (by decide) rfl (fun ls hl => ?_)
          refine lv_goto (tgt := 50) G.1 G.2.1 dX3_step_118 (by decide) ?_
          have hi2 : (c4 + 1).toInt = c4.toInt + 1 := ki_add1 (by omega)
          exact ih _ (c4 + 1) _ _ _ (by omega) (by omega) hP hS (lv_sub hl [0, 1, 2, 3, 4] rfl) (fun H locs ls h1 h2 h3 => K H locs ls (by rw [f_X3_age_lp, if_pos c_70, if_neg c_80, if_neg c_92]; exact h1) h2 h3)
