set_option maxHeartbeats 4000000 in
set_option maxRecDepth 100000 in
theorem law_loop {p : Program} {l : Launch} {e : Env} {s : State} {m : MethodId} {below : List Frame} {meth : Method} {c : Code} {b L : Nat} {xs : Nat → Int32} {D : va_G} {A : Nat → Nat} {C : Nat → ClassId} (hl0 : l.stackTraces = false) (G : kCtx D A C p s m #[Value.ref b] c code 7 RL) (hr : meth.sig.returnType = ret) (hlocks : meth.locks = false) (hX : va_X b L xs s s.heap) (hbl : b < s.heap.size) (hA0 : ∀ k, k < 58 → s.heap.size ≤ A k) (hL : L ≤ 3072) :
    ∀ (n t : Nat), n + t = 513 → 6 * t ≤ L + 5 → ∀ (ka mu : kM) (o : Int32) (H : Heap) (locs : List Loc) (ls : Array Slot), RV (5000 * (t : Int)) ka mu → kP D A C ka mu o H → kS A s H locs → lv_has ls 7 [(4, .int (nI (6 * t))), (3, .ref (A 57)), (2, .ref (A 34)), (1, .ref (A 0)), (0, .ref b)] → W p l e room_1 s m #[Value.ref b] below meth c H locs (1000 + 10 * t) (10000 + 100 * t) (lw_Z below #[Value.ref b] s) (F0 m 23 ls []) := by
  have hbA : ¬ kA A s.heap.size b := by
    rintro (⟨k, hk, e⟩ | h)
    · have := hA0 k hk; omega
    · omega
  intro n
  induction n with
  | zero => intro t h1 h2; omega
  | succ n ih =>
    intro t h1 h2 ka mu o H locs ls hR hP hS hl
    refine lv_iload G.1 G.2.1 dL_law_23 (lv_at hl 0 rfl) ?_
    refine lv_aload_n G.1 G.2.1 dL_law_25 rfl (lv_at hl 4 rfl) ?_
    refine va_slen G.1 G.2.1 hX hbl hbA hS dL_law_26 ?_
    refine lv_bipush (v := 6) G.1 G.2.1 dL_law_27 (by decide) ?_
    refine lv_isub G.1 G.2.1 dL_law_29 ?_
    have hL6 : (Int32.ofNat L - 6).toInt = (L : Int) - 6 := by
      have e1 : (Int32.ofNat L).toInt = (L : Int) := nI_toInt (by omega)
      rw [ki_sub (by rw [e1, show (6 : Int32).toInt = 6 from rfl]; omega) (by rw [e1, show (6 : Int32).toInt = 6 from rfl]; omega), e1]
      rfl
    have hT6 : (nI (6 * t)).toInt = ((6 * t : Nat) : Int) := nI_toInt (by omega)
    refine lv_icmp_gt (tgt := 812) G.1 G.2.1 dL_law_30 (by decide) (fun cx => ?_) (fun cx => ?_)
    · refine lv_iconst (v := 1) G.1 G.2.1 dL_law_812 (by decide) ?_
      refine va_forget (fun q hq => (hS.2.2 q hq).elim (fun ⟨k, hk, e⟩ => by rw [e]; exact hA0 k hk) (fun h => h)) ?_
      refine W.widen (k := 601024) (n := 7293034) (by omega) (by omega) ?_
      exact lw_ret G.1 G.2.1 hr hlocks dL_law_813
    · rw [ki_lt, hL6, hT6] at cx
      have ht : 6 * t + 6 ≤ L := by omega
      have tail : kTail p l e s m below meth c D A C b t (lw_Z below #[Value.ref b] s) := by
        intro ka' mu' o' H locs ls c1 s1 hc1 hs1 hR hP hS hl
        refine W.widen (k := 1000 + 10 * (t + 1)) (n := 10000 + 100 * (t + 1)) hc1 hs1 ?_
        refine lv_iinc (v := nI (6 * (t + 1))) (lv' := [(4, .int (nI (6 * (t + 1)))), (3, .ref (A 57)), (2, .ref (A 34)), (1, .ref (A 0)), (0, .ref b)]) G.1 G.2.1 dL_law_806 hl (k := 0) rfl (by show nI (6 * t) + nI 6 = _; rw [nI_add]; rfl) (by decide) rfl (fun ls hl => ?_)
        refine lv_goto (tgt := 23) G.1 G.2.1 dL_law_809 (by decide) ?_
        exact ih (t + 1) (by omega) (by omega) ka' mu' o' H locs ls (by rw [show ((t + 1 : Nat) : Int) = (t : Int) + 1 by omega]; exact hR) hP hS hl
      refine lv_aload_n G.1 G.2.1 dL_law_33 rfl (lv_at hl 4 rfl) ?_
      refine lv_iload G.1 G.2.1 dL_law_34 (lv_at hl 0 rfl) ?_
      refine va_sld G.1 G.2.1 hX hbl hbA hS (by rw [vp_in_iff, hT6]; omega) dL_law_36 ?_
      refine lv_bipush (v := 15) G.1 G.2.1 dL_law_37 (by decide) ?_
      refine lv_iand G.1 G.2.1 dL_law_39 ?_
      obtain ⟨vv, hvv⟩ : ∃ vv : Int32, vv = xs (nI (6 * t)).toNatClampNeg &&& 15 := ⟨_, rfl⟩
      rw [← hvv]
      by_cases c_0 : vv = 0
      · refine lv_tableIn (tgt := 104) G.1 G.2.1 dL_law_40 (by rw [c_0]; decide) (by rw [c_0]; decide) (by rw [c_0]; rfl) (by decide) ?_
        exact lc_partition hl0 G hX hbl hbA ht hL hR hP hS hl tail
      by_cases c_1 : vv = 1
      · refine lv_tableIn (tgt := 188) G.1 G.2.1 dL_law_40 (by rw [c_1]; decide) (by rw [c_1]; decide) (by rw [c_1]; rfl) (by decide) ?_
        exact lc_window hl0 G hX hbl hbA ht hL hR hP hS hl tail
      by_cases c_2 : vv = 2
      · refine lv_tableIn (tgt := 256) G.1 G.2.1 dL_law_40 (by rw [c_2]; decide) (by rw [c_2]; decide) (by rw [c_2]; rfl) (by decide) ?_
        exact lc_channel hl0 G hX hbl hbA ht hL hR hP hS hl tail
      by_cases c_3 : vv = 3
      · refine lv_tableIn (tgt := 328) G.1 G.2.1 dL_law_40 (by rw [c_3]; decide) (by rw [c_3]; decide) (by rw [c_3]; rfl) (by decide) ?_
        exact lc_poke hl0 G hX hbl hbA ht hL hR hP hS hl tail
      by_cases c_4 : vv = 4
      · refine lv_tableIn (tgt := 408) G.1 G.2.1 dL_law_40 (by rw [c_4]; decide) (by rw [c_4]; decide) (by rw [c_4]; rfl) (by decide) ?_
        exact lc_peek hl0 G hX hbl hbA ht hL hR hP hS hl tail
      by_cases c_5 : vv = 5
      · refine lv_tableIn (tgt := 476) G.1 G.2.1 dL_law_40 (by rw [c_5]; decide) (by rw [c_5]; decide) (by rw [c_5]; rfl) (by decide) ?_
        exact lc_seal hl0 G hX hbl hbA ht hL hR hP hS hl tail
      by_cases c_6 : vv = 6
      · refine lv_tableIn (tgt := 520) G.1 G.2.1 dL_law_40 (by rw [c_6]; decide) (by rw [c_6]; decide) (by rw [c_6]; rfl) (by decide) ?_
        exact lc_step hl0 G hX hbl hbA ht hL hR hP hS hl tail
      by_cases c_7 : vv = 7
      · refine lv_tableIn (tgt := 576) G.1 G.2.1 dL_law_40 (by rw [c_7]; decide) (by rw [c_7]; decide) (by rw [c_7]; rfl) (by decide) ?_
        exact lc_told hl0 G hX hbl hbA ht hL hR hP hS hl tail
      by_cases c_8 : vv = 8
      · refine lv_tableIn (tgt := 644) G.1 G.2.1 dL_law_40 (by rw [c_8]; decide) (by rw [c_8]; decide) (by rw [c_8]; rfl) (by decide) ?_
        exact lc_has hl0 G hX hbl hbA ht hL hR hP hS hl tail
      by_cases c_9 : vv = 9
      · refine lv_tableIn (tgt := 712) G.1 G.2.1 dL_law_40 (by rw [c_9]; decide) (by rw [c_9]; decide) (by rw [c_9]; rfl) (by decide) ?_
        exact lc_queued hl0 G hX hbl hbA ht hL hR hP hS hl tail
      by_cases c_10 : vv = 10
      · refine lv_tableIn (tgt := 780) G.1 G.2.1 dL_law_40 (by rw [c_10]; decide) (by rw [c_10]; decide) (by rw [c_10]; rfl) (by decide) ?_
        exact lc_current hl0 G hX hbl hbA ht hL hR hP hS hl tail
      by_cases c_11 : vv = 11
      · refine lv_tableIn (tgt := 793) G.1 G.2.1 dL_law_40 (by rw [c_11]; decide) (by rw [c_11]; decide) (by rw [c_11]; rfl) (by decide) ?_
        exact lc_ticks hl0 G hX hbl hbA ht hL hR hP hS hl tail
      refine lv_tableOut (tgt := 806) G.1 G.2.1 dL_law_40 (by have q0 := lv_neT c_0 (a := 0) (by decide); have q1 := lv_neT c_1 (a := 1) (by decide); have q2 := lv_neT c_2 (a := 2) (by decide); have q3 := lv_neT c_3 (a := 3) (by decide); have q4 := lv_neT c_4 (a := 4) (by decide); have q5 := lv_neT c_5 (a := 5) (by decide); have q6 := lv_neT c_6 (a := 6) (by decide); have q7 := lv_neT c_7 (a := 7) (by decide); have q8 := lv_neT c_8 (a := 8) (by decide); have q9 := lv_neT c_9 (a := 9) (by decide); have q10 := lv_neT c_10 (a := 10) (by decide); have q11 := lv_neT c_11 (a := 11) (by decide); omega) (by decide) ?_
      exact tail _ _ _ _ _ _ _ _ (by omega) (by omega) (RV_mono hR (by omega)) hP hS hl
