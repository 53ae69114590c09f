/-! L_partition -/
set_option maxHeartbeats 4000000 in
set_option maxRecDepth 100000 in
theorem c_L_partition (l : Launch) (D : va_G) (A : Nat → Nat) (C : Nat → ClassId) (ka mu : kM) (o : Int32) (sz : Nat) (hA : kinj A) (p0 : Int32) (p1 : Int32) (p2 : Int32) (p3 : Int32) (p4 : Int32) (hl0 : l.stackTraces = false) : kMi l yL_partition (.codeWith yL_partition cL_partition 7 (some .int) [(0, 11, 14, 13), (0, 11, 18, 15)]) ({ frames := 8, cells := 2, slots := 12, locals := 140 }) D A C ka mu o sz [.ref (A 0), .int p0, .int p1, .int p2, .int p3, .int p4] (cdI (f_X2_partition ka p0 p1 p2 p3 p4).1) ((f_X2_partition ka p0 p1 p2 p3 p4).2) mu o := by
  refine kMi_ofH hA (by decide) (Nat.le_of_ble_eq_true rfl) (fun p e s m args below meth c G hr hlocks hx hP hS ls hl => ?_)
  have hl : lv_has ls 7 [(0, .ref (A 0)), (1, .int p0), (2, .int p1), (3, .int p2), (4, .int p3), (5, .int p4)] := hl
  refine lv_aload_n G.1 G.2.1 dL_partition_0 rfl (lv_at hl 0 rfl) ?_
  refine lv_iload_n G.1 G.2.1 dL_partition_1 rfl (lv_at hl 1 rfl) ?_
  refine lv_iload_n G.1 G.2.1 dL_partition_2 rfl (lv_at hl 2 rfl) ?_
  refine lv_iload_n G.1 G.2.1 dL_partition_3 rfl (lv_at hl 3 rfl) ?_
  refine lv_iload G.1 G.2.1 dL_partition_4 (lv_at hl 4 rfl) ?_
  refine lv_iload G.1 G.2.1 dL_partition_6 (lv_at hl 5 rfl) ?_
  refine k_CVv (As := [.int p0, .int p1, .int p2, .int p3, .int p4]) (rest := []) G hP hS hl.1 kl_L_7 yk_X2_partition (c_X2_partition l D A C _ _ _ _ G.2.2.2.2.2.2 p0 p1 p2 p3 p4 hl0 ) (kr2 G hP) (by decide) (by decide) rfl (Nat.le_of_ble_eq_true rfl) dL_partition_8 hx (fun hk0 q9 H locs hP hS => ?_) (fun hk0 H locs hP hS => ?_)
  · have hK := (kd_partition (ka := ka) (p0 := p0) (p1 := p1) (p2 := p2) (p3 := p3) (p4 := p4)).resolve_left hk0
    rcases (show (f_X2_partition ka p0 p1 p2 p3 p4).1 = 1 ∨ (f_X2_partition ka p0 p1 p2 p3 p4).1 = 2 by omega) with hk | hk
    · refine ⟨[], [(0, 11, 18, 15)], (0, 11, 14, 13), rfl, by decide, by decide, by rw [hk]; exact kq_192, by rw [hk]; exact kq_204, (fun z hz => nomatch hz), ?_⟩
      refine lv_astore (lv' := [(6, .ref q9), (0, .ref (A 0)), (1, .int p0), (2, .int p1), (3, .int p2), (4, .int p3), (5, .int p4)]) G.1 G.2.1 dL_partition_14 hl (by decide) rfl (fun ls hl => ?_)
      refine lv_iconst (v := 1) G.1 G.2.1 dL_partition_16 (by decide) ?_
      refine W.widen (k := 2) (n := 12) (by decide) (by decide) ?_
      exact k_iret G hr hlocks hP hS (by rw [hk]; rfl) hK.1.symm rfl rfl dL_partition_17
    · refine ⟨[(0, 11, 14, 13)], [], (0, 11, 18, 15), rfl, by decide, by decide, by rw [hk]; exact kq_193, by rw [hk]; exact kq_276, (fun z hz => by cases List.mem_singleton.mp hz; exact ⟨by decide, _, kq_192, by rw [hk]; exact G.2.2.2.2.2.1.2.2.2.2.2.1⟩), ?_⟩
      refine lv_astore (lv' := [(6, .ref q9), (0, .ref (A 0)), (1, .int p0), (2, .int p1), (3, .int p2), (4, .int p3), (5, .int p4)]) G.1 G.2.1 dL_partition_18 hl (by decide) rfl (fun ls hl => ?_)
      refine lv_iconst (v := 2) G.1 G.2.1 dL_partition_20 (by decide) ?_
      refine W.widen (k := 2) (n := 12) (by decide) (by decide) ?_
      exact k_iret G hr hlocks hP hS (by rw [hk]; rfl) hK.1.symm rfl rfl dL_partition_21
  · refine lv_goto (tgt := 22) G.1 G.2.1 dL_partition_11 (by decide) ?_
    refine lv_iconst (v := 0) G.1 G.2.1 dL_partition_22 (by decide) ?_
    refine W.widen (k := 2) (n := 12) (by decide) (by decide) ?_
    exact k_iret G hr hlocks hP hS (by rw [hk0]; rfl) rfl rfl rfl dL_partition_23
/-! L_window -/
set_option maxHeartbeats 4000000 in
set_option maxRecDepth 100000 in
theorem c_L_window (l : Launch) (D : va_G) (A : Nat → Nat) (C : Nat → ClassId) (ka mu : kM) (o : Int32) (sz : Nat) (hA : kinj A) (p0 : Int32) (p1 : Int32) (hl0 : l.stackTraces = false) (hI : kInv ka) : kMi l yL_window (.codeWith yL_window cL_window 5 (some .int) [(0, 10, 13, 13), (0, 10, 17, 15)]) ({ frames := 8, cells := 3, slots := 18, locals := 138 }) D A C ka mu o sz [.ref (A 0), .int p0, .int p1, .ref (A 57)] (cdI (f_X2_window ka p0 p1).1) ((f_X2_window ka p0 p1).2.2) mu (if (f_X2_window ka p0 p1).1 = 0 then (f_X2_window ka p0 p1).2.1 else o) := by
  refine kMi_ofH hA (by decide) (Nat.le_of_ble_eq_true rfl) (fun p e s m args below meth c G hr hlocks hx hP hS ls hl => ?_)
  have hl : lv_has ls 5 [(0, .ref (A 0)), (1, .int p0), (2, .int p1), (3, .ref (A 57))] := hl
  refine lv_aload_n G.1 G.2.1 dL_window_0 rfl (lv_at hl 3 rfl) ?_
  refine lv_iconst (v := 0) G.1 G.2.1 dL_window_1 (by decide) ?_
  refine lv_aload_n G.1 G.2.1 dL_window_2 rfl (lv_at hl 0 rfl) ?_
  refine lv_iload_n G.1 G.2.1 dL_window_3 rfl (lv_at hl 1 rfl) ?_
  refine lv_iload_n G.1 G.2.1 dL_window_4 rfl (lv_at hl 2 rfl) ?_
  refine k_CVi (As := [.int p0, .int p1]) (rest := [.int 0, .ref (A 57)]) G hP hS hl.1 kl_L_17 yk_X2_window (c_X2_window l D A C _ _ _ _ G.2.2.2.2.2.2 p0 p1 hl0 hI) (kr2 G hP) (by decide) (by decide) rfl (Nat.le_of_ble_eq_true rfl) dL_window_5 hx (fun hk0 q9 H locs hP hS => ?_) (fun hk0 H locs hP hS => ?_)
  · have hK := (kd_window (ka := ka) (p0 := p0) (p1 := p1)).resolve_left hk0
    rcases (show (f_X2_window ka p0 p1).1 = 1 ∨ (f_X2_window ka p0 p1).1 = 2 by omega) with hk | hk
    · refine ⟨[], [(0, 10, 17, 15)], (0, 10, 13, 13), rfl, by decide, by decide, by rw [hk]; exact kq_192, by rw [hk]; exact kq_204, (fun z hz => nomatch hz), ?_⟩
      refine lv_astore (lv' := [(4, .ref q9), (0, .ref (A 0)), (1, .int p0), (2, .int p1), (3, .ref (A 57))]) G.1 G.2.1 dL_window_13 hl (by decide) rfl (fun ls hl => ?_)
      refine lv_iconst (v := 1) G.1 G.2.1 dL_window_15 (by decide) ?_
      refine W.widen (k := 3) (n := 18) (by decide) (by decide) ?_
      exact k_iret G hr hlocks hP hS (by rw [hk]; rfl) hK.1.symm rfl (by rw [if_neg hk0]) dL_window_16
    · refine ⟨[(0, 10, 13, 13)], [], (0, 10, 17, 15), rfl, by decide, by decide, by rw [hk]; exact kq_193, by rw [hk]; exact kq_276, (fun z hz => by cases List.mem_singleton.mp hz; exact ⟨by decide, _, kq_192, by rw [hk]; exact G.2.2.2.2.2.1.2.2.2.2.2.1⟩), ?_⟩
      refine lv_astore (lv' := [(4, .ref q9), (0, .ref (A 0)), (1, .int p0), (2, .int p1), (3, .ref (A 57))]) G.1 G.2.1 dL_window_17 hl (by decide) rfl (fun ls hl => ?_)
      refine lv_iconst (v := 2) G.1 G.2.1 dL_window_19 (by decide) ?_
      refine W.widen (k := 3) (n := 18) (by decide) (by decide) ?_
      exact k_iret G hr hlocks hP hS (by rw [hk]; rfl) hK.1.symm rfl (by rw [if_neg hk0]) dL_window_20
  · refine lv_i2l G.1 G.2.1 dL_window_8 rfl ?_
    refine k_last G hP hS dL_window_9 (fun H locs hP hS => ?_)
    refine lv_goto (tgt := 21) G.1 G.2.1 dL_window_10 (by decide) ?_
    refine lv_iconst (v := 0) G.1 G.2.1 dL_window_21 (by decide) ?_
    refine W.widen (k := 3) (n := 18) (by decide) (by decide) ?_
    exact k_iret G hr hlocks hP hS (by rw [hk0]; rfl) rfl rfl (by rw [if_pos hk0]) dL_window_22
/-! L_channel -/
set_option maxHeartbeats 4000000 in
set_option maxRecDepth 100000 in
theorem c_L_channel (l : Launch) (D : va_G) (A : Nat → Nat) (C : Nat → ClassId) (ka mu : kM) (o : Int32) (sz : Nat) (hA : kinj A) (p0 : Int32) (p1 : Int32) (p2 : Int32) (p3 : Int32) (hl0 : l.stackTraces = false) : kMi l yL_channel (.codeWith yL_channel cL_channel 6 (some .int) [(0, 9, 12, 13), (0, 9, 16, 15)]) ({ frames := 8, cells := 4, slots := 24, locals := 140 }) D A C ka mu o sz [.ref (A 0), .int p0, .int p1, .int p2, .int p3] (cdI (f_X2_channel ka p0 p1 p2 p3).1) ((f_X2_channel ka p0 p1 p2 p3).2) mu o := by
  refine kMi_ofH hA (by decide) (Nat.le_of_ble_eq_true rfl) (fun p e s m args below meth c G hr hlocks hx hP hS ls hl => ?_)
  have hl : lv_has ls 6 [(0, .ref (A 0)), (1, .int p0), (2, .int p1), (3, .int p2), (4, .int p3)] := hl
  refine lv_aload_n G.1 G.2.1 dL_channel_0 rfl (lv_at hl 0 rfl) ?_
  refine lv_iload_n G.1 G.2.1 dL_channel_1 rfl (lv_at hl 1 rfl) ?_
  refine lv_iload_n G.1 G.2.1 dL_channel_2 rfl (lv_at hl 2 rfl) ?_
  refine lv_iload_n G.1 G.2.1 dL_channel_3 rfl (lv_at hl 3 rfl) ?_
  refine lv_iload G.1 G.2.1 dL_channel_4 (lv_at hl 4 rfl) ?_
  refine k_CVv (As := [.int p0, .int p1, .int p2, .int p3]) (rest := []) G hP hS hl.1 kl_L_21 yk_X2_channel (c_X2_channel l D A C _ _ _ _ G.2.2.2.2.2.2 p0 p1 p2 p3 hl0 ) (kr2 G hP) (by decide) (by decide) rfl (Nat.le_of_ble_eq_true rfl) dL_channel_6 hx (fun hk0 q9 H locs hP hS => ?_) (fun hk0 H locs hP hS => ?_)
  · have hK := (kd_channel (ka := ka) (p0 := p0) (p1 := p1) (p2 := p2) (p3 := p3)).resolve_left hk0
    rcases (show (f_X2_channel ka p0 p1 p2 p3).1 = 1 ∨ (f_X2_channel ka p0 p1 p2 p3).1 = 2 by omega) with hk | hk
    · refine ⟨[], [(0, 9, 16, 15)], (0, 9, 12, 13), rfl, by decide, by decide, by rw [hk]; exact kq_192, by rw [hk]; exact kq_204, (fun z hz => nomatch hz), ?_⟩
      refine lv_astore (lv' := [(5, .ref q9), (0, .ref (A 0)), (1, .int p0), (2, .int p1), (3, .int p2), (4, .int p3)]) G.1 G.2.1 dL_channel_12 hl (by decide) rfl (fun ls hl => ?_)
      refine lv_iconst (v := 1) G.1 G.2.1 dL_channel_14 (by decide) ?_
      refine W.widen (k := 4) (n := 24) (by decide) (by decide) ?_
      exact k_iret G hr hlocks hP hS (by rw [hk]; rfl) hK.1.symm rfl rfl dL_channel_15
    · refine ⟨[(0, 9, 12, 13)], [], (0, 9, 16, 15), rfl, by decide, by decide, by rw [hk]; exact kq_193, by rw [hk]; exact kq_276, (fun z hz => by cases List.mem_singleton.mp hz; exact ⟨by decide, _, kq_192, by rw [hk]; exact G.2.2.2.2.2.1.2.2.2.2.2.1⟩), ?_⟩
      refine lv_astore (lv' := [(5, .ref q9), (0, .ref (A 0)), (1, .int p0), (2, .int p1), (3, .int p2), (4, .int p3)]) G.1 G.2.1 dL_channel_16 hl (by decide) rfl (fun ls hl => ?_)
      refine lv_iconst (v := 2) G.1 G.2.1 dL_channel_18 (by decide) ?_
      refine W.widen (k := 4) (n := 24) (by decide) (by decide) ?_
      exact k_iret G hr hlocks hP hS (by rw [hk]; rfl) hK.1.symm rfl rfl dL_channel_19
  · refine lv_goto (tgt := 20) G.1 G.2.1 dL_channel_9 (by decide) ?_
    refine lv_iconst (v := 0) G.1 G.2.1 dL_channel_20 (by decide) ?_
    refine W.widen (k := 4) (n := 24) (by decide) (by decide) ?_
    exact k_iret G hr hlocks hP hS (by rw [hk0]; rfl) rfl rfl rfl dL_channel_21
/-! L_poke -/
set_option maxHeartbeats 4000000 in
set_option maxRecDepth 100000 in
theorem c_L_poke (l : Launch) (D : va_G) (A : Nat → Nat) (C : Nat → ClassId) (ka mu : kM) (o : Int32) (sz : Nat) (hA : kinj A) (p0 : Int32) (p1 : Int32) (p2 : Int32) (hl0 : l.stackTraces = false) (hI : kInv ka) : kMi l yL_poke (.codeWith yL_poke cL_poke 6 (some .int) [(0, 12, 15, 13), (0, 12, 19, 15), (0, 12, 23, 29)]) ({ frames := 9, cells := 3, slots := 18, locals := 163 }) D A C ka mu o sz [.ref (A 0), .int p0, .int p1, .int p2, .ref (A 57)] (cdI (f_X2_poke ka p0 p1 p2).1) ((f_X2_poke ka p0 p1 p2).2.2) mu (if (f_X2_poke ka p0 p1 p2).1 = 0 then (f_X2_poke ka p0 p1 p2).2.1 else o) := by
  refine kMi_ofH hA (by decide) (Nat.le_of_ble_eq_true rfl) (fun p e s m args below meth c G hr hlocks hx hP hS ls hl => ?_)
  have hl : lv_has ls 6 [(0, .ref (A 0)), (1, .int p0), (2, .int p1), (3, .int p2), (4, .ref (A 57))] := hl
  refine lv_aload G.1 G.2.1 dL_poke_0 (lv_at hl 4 rfl) ?_
  refine lv_iconst (v := 0) G.1 G.2.1 dL_poke_2 (by decide) ?_
  refine lv_aload_n G.1 G.2.1 dL_poke_3 rfl (lv_at hl 0 rfl) ?_
  refine lv_iload_n G.1 G.2.1 dL_poke_4 rfl (lv_at hl 1 rfl) ?_
  refine lv_iload_n G.1 G.2.1 dL_poke_5 rfl (lv_at hl 2 rfl) ?_
  refine lv_iload_n G.1 G.2.1 dL_poke_6 rfl (lv_at hl 3 rfl) ?_
  refine k_CVi (As := [.int p0, .int p1, .int p2]) (rest := [.int 0, .ref (A 57)]) G hP hS hl.1 kl_L_25 yk_X2_poke (c_X2_poke l D A C _ _ _ _ G.2.2.2.2.2.2 p0 p1 p2 hl0 hI) (kr2 G hP) (by decide) (by decide) rfl (Nat.le_of_ble_eq_true rfl) dL_poke_7 hx (fun hk0 q9 H locs hP hS => ?_) (fun hk0 H locs hP hS => ?_)
  · have hK := (kd_poke (ka := ka) (p0 := p0) (p1 := p1) (p2 := p2)).resolve_left hk0
    rcases (show (f_X2_poke ka p0 p1 p2).1 = 1 ∨ (f_X2_poke ka p0 p1 p2).1 = 2 ∨ (f_X2_poke ka p0 p1 p2).1 = 3 by omega) with hk | hk | hk
    · refine ⟨[], [(0, 12, 19, 15), (0, 12, 23, 29)], (0, 12, 15, 13), rfl, by decide, by decide, by rw [hk]; exact kq_192, by rw [hk]; exact kq_204, (fun z hz => nomatch hz), ?_⟩
      refine lv_astore (lv' := [(5, .ref q9), (0, .ref (A 0)), (1, .int p0), (2, .int p1), (3, .int p2), (4, .ref (A 57))]) G.1 G.2.1 dL_poke_15 hl (by decide) rfl (fun ls hl => ?_)
      refine lv_iconst (v := 1) G.1 G.2.1 dL_poke_17 (by decide) ?_
      refine W.widen (k := 3) (n := 18) (by decide) (by decide) ?_
      exact k_iret G hr hlocks hP hS (by rw [hk]; rfl) hK.1.symm rfl (by rw [if_neg hk0]) dL_poke_18
    · refine ⟨[(0, 12, 15, 13)], [(0, 12, 23, 29)], (0, 12, 19, 15), rfl, by decide, by decide, by rw [hk]; exact kq_193, by rw [hk]; exact kq_276, (fun z hz => by cases List.mem_singleton.mp hz; exact ⟨by decide, _, kq_192, by rw [hk]; exact G.2.2.2.2.2.1.2.2.2.2.2.1⟩), ?_⟩
      refine lv_astore (lv' := [(5, .ref q9), (0, .ref (A 0)), (1, .int p0), (2, .int p1), (3, .int p2), (4, .ref (A 57))]) G.1 G.2.1 dL_poke_19 hl (by decide) rfl (fun ls hl => ?_)
      refine lv_iconst (v := 2) G.1 G.2.1 dL_poke_21 (by decide) ?_
      refine W.widen (k := 3) (n := 18) (by decide) (by decide) ?_
      exact k_iret G hr hlocks hP hS (by rw [hk]; rfl) hK.1.symm rfl (by rw [if_neg hk0]) dL_poke_22
    · refine ⟨[(0, 12, 15, 13), (0, 12, 19, 15)], [], (0, 12, 23, 29), rfl, by decide, by decide, by rw [hk]; exact kq_337, by rw [hk]; exact kq_352, (fun z hz => by rcases List.mem_cons.mp hz with hz | hz; (cases hz; exact ⟨by decide, _, kq_192, by rw [hk]; exact G.2.2.2.2.2.1.2.2.2.2.2.2.1⟩); (cases List.mem_singleton.mp hz; exact ⟨by decide, _, kq_193, by rw [hk]; exact G.2.2.2.2.2.1.2.2.2.2.2.2.2⟩)), ?_⟩
      refine lv_astore (lv' := [(5, .ref q9), (0, .ref (A 0)), (1, .int p0), (2, .int p1), (3, .int p2), (4, .ref (A 57))]) G.1 G.2.1 dL_poke_23 hl (by decide) rfl (fun ls hl => ?_)
      refine lv_iconst (v := 3) G.1 G.2.1 dL_poke_25 (by decide) ?_
      refine W.widen (k := 3) (n := 18) (by decide) (by decide) ?_
      exact k_iret G hr hlocks hP hS (by rw [hk]; rfl) hK.1.symm rfl (by rw [if_neg hk0]) dL_poke_26
  · refine lv_i2l G.1 G.2.1 dL_poke_10 rfl ?_
    refine k_last G hP hS dL_poke_11 (fun H locs hP hS => ?_)
    refine lv_goto (tgt := 27) G.1 G.2.1 dL_poke_12 (by decide) ?_
    refine lv_iconst (v := 0) G.1 G.2.1 dL_poke_27 (by decide) ?_
    refine W.widen (k := 3) (n := 18) (by decide) (by decide) ?_
    exact k_iret G hr hlocks hP hS (by rw [hk0]; rfl) rfl rfl (by rw [if_pos hk0]) dL_poke_28
/-! L_peek -/
set_option maxHeartbeats 4000000 in
set_option maxRecDepth 100000 in
theorem c_L_peek (l : Launch) (D : va_G) (A : Nat → Nat) (C : Nat → ClassId) (ka mu : kM) (o : Int32) (sz : Nat) (hA : kinj A) (p0 : Int32) (p1 : Int32) (hl0 : l.stackTraces = false) (hI : kInv ka) : kMi l yL_peek (.codeWith yL_peek cL_peek 5 (some .int) [(0, 10, 13, 15), (0, 10, 17, 29)]) ({ frames := 9, cells := 2, slots := 12, locals := 160 }) D A C ka mu o sz [.ref (A 0), .int p0, .int p1, .ref (A 57)] (cd1 (f_X2_peek ka p0 p1).1) ka mu (if (f_X2_peek ka p0 p1).1 = 0 then (f_X2_peek ka p0 p1).2 else o) := by
  refine kMi_ofH hA (by decide) (Nat.le_of_ble_eq_true rfl) (fun p e s m args below meth c G hr hlocks hx hP hS ls hl => ?_)
  have hl : lv_has ls 5 [(0, .ref (A 0)), (1, .int p0), (2, .int p1), (3, .ref (A 57))] := hl
  refine lv_aload_n G.1 G.2.1 dL_peek_0 rfl (lv_at hl 3 rfl) ?_
  refine lv_iconst (v := 0) G.1 G.2.1 dL_peek_1 (by decide) ?_
  refine lv_aload_n G.1 G.2.1 dL_peek_2 rfl (lv_at hl 0 rfl) ?_
  refine lv_iload_n G.1 G.2.1 dL_peek_3 rfl (lv_at hl 1 rfl) ?_
  refine lv_iload_n G.1 G.2.1 dL_peek_4 rfl (lv_at hl 2 rfl) ?_
  refine k_CVi (As := [.int p0, .int p1]) (rest := [.int 0, .ref (A 57)]) G hP hS hl.1 kl_L_31 yk_X2_peek (c_X2_peek l D A C _ _ _ _ G.2.2.2.2.2.2 p0 p1 hl0 hI) (kr2 G hP) (by decide) (by decide) rfl (Nat.le_of_ble_eq_true rfl) dL_peek_5 hx (fun hk0 q9 H locs hP hS => ?_) (fun hk0 H locs hP hS => ?_)
  · have hK := (kd_peek (ka := ka) (p0 := p0) (p1 := p1)).resolve_left hk0
    rcases (show (f_X2_peek ka p0 p1).1 = 2 ∨ (f_X2_peek ka p0 p1).1 = 3 by omega) with hk | hk
    · refine ⟨[], [(0, 10, 17, 29)], (0, 10, 13, 15), rfl, by decide, by decide, by rw [hk]; exact kq_193, by rw [hk]; exact kq_276, (fun z hz => nomatch hz), ?_⟩
      refine lv_astore (lv' := [(4, .ref q9), (0, .ref (A 0)), (1, .int p0), (2, .int p1), (3, .ref (A 57))]) G.1 G.2.1 dL_peek_13 hl (by decide) rfl (fun ls hl => ?_)
      refine lv_iconst (v := 1) G.1 G.2.1 dL_peek_15 (by decide) ?_
      refine W.widen (k := 2) (n := 12) (by decide) (by decide) ?_
      exact k_iret G hr hlocks hP hS (by rw [hk]; rfl) rfl rfl (by rw [if_neg hk0]) dL_peek_16
    · refine ⟨[(0, 10, 13, 15)], [], (0, 10, 17, 29), rfl, by decide, by decide, by rw [hk]; exact kq_337, by rw [hk]; exact kq_352, (fun z hz => by cases List.mem_singleton.mp hz; exact ⟨by decide, _, kq_193, by rw [hk]; exact G.2.2.2.2.2.1.2.2.2.2.2.2.2⟩), ?_⟩
      refine lv_astore (lv' := [(4, .ref q9), (0, .ref (A 0)), (1, .int p0), (2, .int p1), (3, .ref (A 57))]) G.1 G.2.1 dL_peek_17 hl (by decide) rfl (fun ls hl => ?_)
      refine lv_iconst (v := 2) G.1 G.2.1 dL_peek_19 (by decide) ?_
      refine W.widen (k := 2) (n := 12) (by decide) (by decide) ?_
      exact k_iret G hr hlocks hP hS (by rw [hk]; rfl) rfl rfl (by rw [if_neg hk0]) dL_peek_20
  · refine lv_i2l G.1 G.2.1 dL_peek_8 rfl ?_
    refine k_last G hP hS dL_peek_9 (fun H locs hP hS => ?_)
    refine lv_goto (tgt := 21) G.1 G.2.1 dL_peek_10 (by decide) ?_
    refine lv_iconst (v := 0) G.1 G.2.1 dL_peek_21 (by decide) ?_
    refine W.widen (k := 2) (n := 12) (by decide) (by decide) ?_
    exact k_iret G hr hlocks hP hS (by rw [hk0]; rfl) rfl rfl (by rw [if_pos hk0]) dL_peek_22
/-! L_seal -/
set_option maxHeartbeats 4000000 in
set_option maxRecDepth 100000 in
theorem c_L_seal (l : Launch) (D : va_G) (A : Nat → Nat) (C : Nat → ClassId) (ka mu : kM) (o : Int32) (sz : Nat) (hA : kinj A) (hl0 : l.stackTraces = false) : kMi l yL_seal (.codeWith yL_seal cL_seal 3 (some .int) [(0, 8, 11, 13)]) ({ frames := 8, cells := 2, slots := 12, locals := 135 }) D A C ka mu o sz [.ref (A 0), .ref (A 57)] (cdI (f_X2_seal ka).1) ((f_X2_seal ka).2.2) mu (if (f_X2_seal ka).1 = 0 then (f_X2_seal ka).2.1 else o) := by
  refine kMi_ofH hA (by decide) (Nat.le_of_ble_eq_true rfl) (fun p e s m args below meth c G hr hlocks hx hP hS ls hl => ?_)
  have hl : lv_has ls 3 [(0, .ref (A 0)), (1, .ref (A 57))] := hl
  refine lv_aload_n G.1 G.2.1 dL_seal_0 rfl (lv_at hl 1 rfl) ?_
  refine lv_iconst (v := 0) G.1 G.2.1 dL_seal_1 (by decide) ?_
  refine lv_aload_n G.1 G.2.1 dL_seal_2 rfl (lv_at hl 0 rfl) ?_
  refine k_CVi (As := []) (rest := [.int 0, .ref (A 57)]) G hP hS hl.1 kl_L_34 yk_X2_seal (c_X2_seal l D A C _ _ _ _ G.2.2.2.2.2.2  hl0 ) (kr2 G hP) (by decide) (by decide) rfl (Nat.le_of_ble_eq_true rfl) dL_seal_3 hx (fun hk0 q9 H locs hP hS => ?_) (fun hk0 H locs hP hS => ?_)
  · have hK := (kd_seal (ka := ka)).resolve_left hk0
    rcases (show (f_X2_seal ka).1 = 1 by omega) with hk
    · refine ⟨[], [], (0, 8, 11, 13), rfl, by decide, by decide, by rw [hk]; exact kq_192, by rw [hk]; exact kq_204, (fun z hz => nomatch hz), ?_⟩
      refine lv_astore_n (lv' := [(2, .ref q9), (0, .ref (A 0)), (1, .ref (A 57))]) G.1 G.2.1 dL_seal_11 rfl hl (by decide) rfl (fun ls hl => ?_)
      refine lv_iconst (v := 1) G.1 G.2.1 dL_seal_12 (by decide) ?_
      refine W.widen (k := 2) (n := 12) (by decide) (by decide) ?_
      exact k_iret G hr hlocks hP hS (by rw [hk]; rfl) hK.1.symm rfl (by rw [if_neg hk0]) dL_seal_13
  · refine lv_i2l G.1 G.2.1 dL_seal_6 rfl ?_
    refine k_last G hP hS dL_seal_7 (fun H locs hP hS => ?_)
    refine lv_goto (tgt := 14) G.1 G.2.1 dL_seal_8 (by decide) ?_
    refine lv_iconst (v := 0) G.1 G.2.1 dL_seal_14 (by decide) ?_
    refine W.widen (k := 2) (n := 12) (by decide) (by decide) ?_
    exact k_iret G hr hlocks hP hS (by rw [hk0]; rfl) rfl rfl (by rw [if_pos hk0]) dL_seal_15
/-! L_step -/
set_option maxHeartbeats 4000000 in
set_option maxRecDepth 100000 in
theorem c_L_step (l : Launch) (D : va_G) (A : Nat → Nat) (C : Nat → ClassId) (ka mu : kM) (o : Int32) (sz : Nat) (hA : kinj A) (p0 : Int32) (hl0 : l.stackTraces = false) (hI : kInv ka) : kMi l yL_step (.codeWith yL_step cL_step 4 (some .int) [(0, 9, 12, 13), (0, 9, 15, 15)]) ({ frames := 8, cells := 1, slots := 6, locals := 184 }) D A C ka mu o sz [.ref (A 0), .int p0, .ref (A 57)] (cdI (f_X2_step ka p0).1) ((f_X2_step ka p0).2.2) mu (if (f_X2_step ka p0).1 = 0 then (f_X2_step ka p0).2.1 else o) := by
  refine kMi_ofH hA (by decide) (Nat.le_of_ble_eq_true rfl) (fun p e s m args below meth c G hr hlocks hx hP hS ls hl => ?_)
  have hl : lv_has ls 4 [(0, .ref (A 0)), (1, .int p0), (2, .ref (A 57))] := hl
  refine lv_aload_n G.1 G.2.1 dL_step_0 rfl (lv_at hl 2 rfl) ?_
  refine lv_iconst (v := 0) G.1 G.2.1 dL_step_1 (by decide) ?_
  refine lv_aload_n G.1 G.2.1 dL_step_2 rfl (lv_at hl 0 rfl) ?_
  refine lv_iload_n G.1 G.2.1 dL_step_3 rfl (lv_at hl 1 rfl) ?_
  refine k_CVi (As := [.int p0]) (rest := [.int 0, .ref (A 57)]) G hP hS hl.1 kl_L_38 yk_X2_step (c_X2_step l D A C _ _ _ _ G.2.2.2.2.2.2 p0 hl0 hI) (kr2 G hP) (by decide) (by decide) rfl (Nat.le_of_ble_eq_true rfl) dL_step_4 hx (fun hk0 q9 H locs hP hS => ?_) (fun hk0 H locs hP hS => ?_)
  · have hK := (kd_step (ka := ka) (p0 := p0)).resolve_left hk0
    rcases (show (f_X2_step ka p0).1 = 1 ∨ (f_X2_step ka p0).1 = 2 by omega) with hk | hk
    · refine ⟨[], [(0, 9, 15, 15)], (0, 9, 12, 13), rfl, by decide, by decide, by rw [hk]; exact kq_192, by rw [hk]; exact kq_204, (fun z hz => nomatch hz), ?_⟩
      refine lv_astore_n (lv' := [(3, .ref q9), (0, .ref (A 0)), (1, .int p0), (2, .ref (A 57))]) G.1 G.2.1 dL_step_12 rfl hl (by decide) rfl (fun ls hl => ?_)
      refine lv_iconst (v := 1) G.1 G.2.1 dL_step_13 (by decide) ?_
      refine W.widen (k := 1) (n := 6) (by decide) (by decide) ?_
      exact k_iret G hr hlocks hP hS (by rw [hk]; rfl) hK.1.symm rfl (by rw [if_neg hk0]) dL_step_14
    · refine ⟨[(0, 9, 12, 13)], [], (0, 9, 15, 15), rfl, by decide, by decide, by rw [hk]; exact kq_193, by rw [hk]; exact kq_276, (fun z hz => by cases List.mem_singleton.mp hz; exact ⟨by decide, _, kq_192, by rw [hk]; exact G.2.2.2.2.2.1.2.2.2.2.2.1⟩), ?_⟩
      refine lv_astore_n (lv' := [(3, .ref q9), (0, .ref (A 0)), (1, .int p0), (2, .ref (A 57))]) G.1 G.2.1 dL_step_15 rfl hl (by decide) rfl (fun ls hl => ?_)
      refine lv_iconst (v := 2) G.1 G.2.1 dL_step_16 (by decide) ?_
      refine W.widen (k := 1) (n := 6) (by decide) (by decide) ?_
      exact k_iret G hr hlocks hP hS (by rw [hk]; rfl) hK.1.symm rfl (by rw [if_neg hk0]) dL_step_17
  · refine lv_i2l G.1 G.2.1 dL_step_7 rfl ?_
    refine k_last G hP hS dL_step_8 (fun H locs hP hS => ?_)
    refine lv_goto (tgt := 18) G.1 G.2.1 dL_step_9 (by decide) ?_
    refine lv_iconst (v := 0) G.1 G.2.1 dL_step_18 (by decide) ?_
    refine W.widen (k := 1) (n := 6) (by decide) (by decide) ?_
    exact k_iret G hr hlocks hP hS (by rw [hk0]; rfl) rfl rfl (by rw [if_pos hk0]) dL_step_19
/-! L_told -/
set_option maxHeartbeats 4000000 in
set_option maxRecDepth 100000 in
theorem c_L_told (l : Launch) (D : va_G) (A : Nat → Nat) (C : Nat → ClassId) (ka mu : kM) (o : Int32) (sz : Nat) (hA : kinj A) (p0 : Int32) (p1 : Int32) (hl0 : l.stackTraces = false) : kMi l yL_told (.codeWith yL_told cL_told 5 (some .int) [(0, 10, 13, 15)]) ({ frames := 7, cells := 1, slots := 6, locals := 117 }) D A C ka mu o sz [.ref (A 0), .int p0, .int p1, .ref (A 57)] (cd1 (f_X2_told ka p0 p1).1) ka mu (if (f_X2_told ka p0 p1).1 = 0 then (f_X2_told ka p0 p1).2 else o) := by
  refine kMi_ofH hA (by decide) (Nat.le_of_ble_eq_true rfl) (fun p e s m args below meth c G hr hlocks hx hP hS ls hl => ?_)
  have hl : lv_has ls 5 [(0, .ref (A 0)), (1, .int p0), (2, .int p1), (3, .ref (A 57))] := hl
  refine lv_aload_n G.1 G.2.1 dL_told_0 rfl (lv_at hl 3 rfl) ?_
  refine lv_iconst (v := 0) G.1 G.2.1 dL_told_1 (by decide) ?_
  refine lv_aload_n G.1 G.2.1 dL_told_2 rfl (lv_at hl 0 rfl) ?_
  refine lv_iload_n G.1 G.2.1 dL_told_3 rfl (lv_at hl 1 rfl) ?_
  refine lv_iload_n G.1 G.2.1 dL_told_4 rfl (lv_at hl 2 rfl) ?_
  refine k_CVi (As := [.int p0, .int p1]) (rest := [.int 0, .ref (A 57)]) G hP hS hl.1 kl_L_42 yk_X2_told (c_X2_told l D A C _ _ _ _ G.2.2.2.2.2.2 p0 p1 hl0 ) (kr2 G hP) (by decide) (by decide) rfl (Nat.le_of_ble_eq_true rfl) dL_told_5 hx (fun hk0 q9 H locs hP hS => ?_) (fun hk0 H locs hP hS => ?_)
  · have hK := (kd_toldm (ka := ka) (p0 := p0) (p1 := p1)).resolve_left hk0
    rcases (show (f_X2_told ka p0 p1).1 = 2 by omega) with hk
    · refine ⟨[], [], (0, 10, 13, 15), rfl, by decide, by decide, by rw [hk]; exact kq_193, by rw [hk]; exact kq_276, (fun z hz => nomatch hz), ?_⟩
      refine lv_astore (lv' := [(4, .ref q9), (0, .ref (A 0)), (1, .int p0), (2, .int p1), (3, .ref (A 57))]) G.1 G.2.1 dL_told_13 hl (by decide) rfl (fun ls hl => ?_)
      refine lv_iconst (v := 1) G.1 G.2.1 dL_told_15 (by decide) ?_
      refine W.widen (k := 1) (n := 6) (by decide) (by decide) ?_
      exact k_iret G hr hlocks hP hS (by rw [hk]; rfl) rfl rfl (by rw [if_neg hk0]) dL_told_16
  · refine lv_i2l G.1 G.2.1 dL_told_8 rfl ?_
    refine k_last G hP hS dL_told_9 (fun H locs hP hS => ?_)
    refine lv_goto (tgt := 17) G.1 G.2.1 dL_told_10 (by decide) ?_
    refine lv_iconst (v := 0) G.1 G.2.1 dL_told_17 (by decide) ?_
    refine W.widen (k := 1) (n := 6) (by decide) (by decide) ?_
    exact k_iret G hr hlocks hP hS (by rw [hk0]; rfl) rfl rfl (by rw [if_pos hk0]) dL_told_18
/-! L_has -/
set_option maxHeartbeats 4000000 in
set_option maxRecDepth 100000 in
theorem c_L_has (l : Launch) (D : va_G) (A : Nat → Nat) (C : Nat → ClassId) (ka mu : kM) (o : Int32) (sz : Nat) (hA : kinj A) (p0 : Int32) (p1 : Int32) (hl0 : l.stackTraces = false) : kMi l yL_has (.codeWith yL_has cL_has 5 (some .int) [(0, 10, 13, 15)]) ({ frames := 7, cells := 1, slots := 6, locals := 117 }) D A C ka mu o sz [.ref (A 0), .int p0, .int p1, .ref (A 57)] (cd1 (f_X2_has ka p0 p1).1) ka mu (if (f_X2_has ka p0 p1).1 = 0 then (f_X2_has ka p0 p1).2 else o) := by
  refine kMi_ofH hA (by decide) (Nat.le_of_ble_eq_true rfl) (fun p e s m args below meth c G hr hlocks hx hP hS ls hl => ?_)
  have hl : lv_has ls 5 [(0, .ref (A 0)), (1, .int p0), (2, .int p1), (3, .ref (A 57))] := hl
  refine lv_aload_n G.1 G.2.1 dL_has_0 rfl (lv_at hl 3 rfl) ?_
  refine lv_iconst (v := 0) G.1 G.2.1 dL_has_1 (by decide) ?_
  refine lv_aload_n G.1 G.2.1 dL_has_2 rfl (lv_at hl 0 rfl) ?_
  refine lv_iload_n G.1 G.2.1 dL_has_3 rfl (lv_at hl 1 rfl) ?_
  refine lv_iload_n G.1 G.2.1 dL_has_4 rfl (lv_at hl 2 rfl) ?_
  refine k_CVi (As := [.int p0, .int p1]) (rest := [.int 0, .ref (A 57)]) G hP hS hl.1 kl_L_45 yk_X2_has (c_X2_has l D A C _ _ _ _ G.2.2.2.2.2.2 p0 p1 hl0 ) (kr2 G hP) (by decide) (by decide) rfl (Nat.le_of_ble_eq_true rfl) dL_has_5 hx (fun hk0 q9 H locs hP hS => ?_) (fun hk0 H locs hP hS => ?_)
  · have hK := (kd_has (ka := ka) (p0 := p0) (p1 := p1)).resolve_left hk0
    rcases (show (f_X2_has ka p0 p1).1 = 2 by omega) with hk
    · refine ⟨[], [], (0, 10, 13, 15), rfl, by decide, by decide, by rw [hk]; exact kq_193, by rw [hk]; exact kq_276, (fun z hz => nomatch hz), ?_⟩
      refine lv_astore (lv' := [(4, .ref q9), (0, .ref (A 0)), (1, .int p0), (2, .int p1), (3, .ref (A 57))]) G.1 G.2.1 dL_has_13 hl (by decide) rfl (fun ls hl => ?_)
      refine lv_iconst (v := 1) G.1 G.2.1 dL_has_15 (by decide) ?_
      refine W.widen (k := 1) (n := 6) (by decide) (by decide) ?_
      exact k_iret G hr hlocks hP hS (by rw [hk]; rfl) rfl rfl (by rw [if_neg hk0]) dL_has_16
  · refine lv_i2l G.1 G.2.1 dL_has_8 rfl ?_
    refine k_last G hP hS dL_has_9 (fun H locs hP hS => ?_)
    refine lv_goto (tgt := 17) G.1 G.2.1 dL_has_10 (by decide) ?_
    refine lv_iconst (v := 0) G.1 G.2.1 dL_has_17 (by decide) ?_
    refine W.widen (k := 1) (n := 6) (by decide) (by decide) ?_
    exact k_iret G hr hlocks hP hS (by rw [hk0]; rfl) rfl rfl (by rw [if_pos hk0]) dL_has_18
/-! L_queued -/
set_option maxHeartbeats 4000000 in
set_option maxRecDepth 100000 in
theorem c_L_queued (l : Launch) (D : va_G) (A : Nat → Nat) (C : Nat → ClassId) (ka mu : kM) (o : Int32) (sz : Nat) (hA : kinj A) (p0 : Int32) (p1 : Int32) (hl0 : l.stackTraces = false) : kMi l yL_queued (.codeWith yL_queued cL_queued 5 (some .int) [(0, 10, 13, 15)]) ({ frames := 7, cells := 1, slots := 6, locals := 117 }) D A C ka mu o sz [.ref (A 0), .int p0, .int p1, .ref (A 57)] (cd1 (f_X2_queued ka p0 p1).1) ka mu (if (f_X2_queued ka p0 p1).1 = 0 then (f_X2_queued ka p0 p1).2 else o) := by
  refine kMi_ofH hA (by decide) (Nat.le_of_ble_eq_true rfl) (fun p e s m args below meth c G hr hlocks hx hP hS ls hl => ?_)
  have hl : lv_has ls 5 [(0, .ref (A 0)), (1, .int p0), (2, .int p1), (3, .ref (A 57))] := hl
  refine lv_aload_n G.1 G.2.1 dL_queued_0 rfl (lv_at hl 3 rfl) ?_
  refine lv_iconst (v := 0) G.1 G.2.1 dL_queued_1 (by decide) ?_
  refine lv_aload_n G.1 G.2.1 dL_queued_2 rfl (lv_at hl 0 rfl) ?_
  refine lv_iload_n G.1 G.2.1 dL_queued_3 rfl (lv_at hl 1 rfl) ?_
  refine lv_iload_n G.1 G.2.1 dL_queued_4 rfl (lv_at hl 2 rfl) ?_
  refine k_CVi (As := [.int p0, .int p1]) (rest := [.int 0, .ref (A 57)]) G hP hS hl.1 kl_L_48 yk_X2_queued (c_X2_queued l D A C _ _ _ _ G.2.2.2.2.2.2 p0 p1 hl0 ) (kr2 G hP) (by decide) (by decide) rfl (Nat.le_of_ble_eq_true rfl) dL_queued_5 hx (fun hk0 q9 H locs hP hS => ?_) (fun hk0 H locs hP hS => ?_)
  · have hK := (kd_queued (ka := ka) (p0 := p0) (p1 := p1)).resolve_left hk0
    rcases (show (f_X2_queued ka p0 p1).1 = 2 by omega) with hk
    · refine ⟨[], [], (0, 10, 13, 15), rfl, by decide, by decide, by rw [hk]; exact kq_193, by rw [hk]; exact kq_276, (fun z hz => nomatch hz), ?_⟩
      refine lv_astore (lv' := [(4, .ref q9), (0, .ref (A 0)), (1, .int p0), (2, .int p1), (3, .ref (A 57))]) G.1 G.2.1 dL_queued_13 hl (by decide) rfl (fun ls hl => ?_)
      refine lv_iconst (v := 1) G.1 G.2.1 dL_queued_15 (by decide) ?_
      refine W.widen (k := 1) (n := 6) (by decide) (by decide) ?_
      exact k_iret G hr hlocks hP hS (by rw [hk]; rfl) rfl rfl (by rw [if_neg hk0]) dL_queued_16
  · refine lv_i2l G.1 G.2.1 dL_queued_8 rfl ?_
    refine k_last G hP hS dL_queued_9 (fun H locs hP hS => ?_)
    refine lv_goto (tgt := 17) G.1 G.2.1 dL_queued_10 (by decide) ?_
    refine lv_iconst (v := 0) G.1 G.2.1 dL_queued_17 (by decide) ?_
    refine W.widen (k := 1) (n := 6) (by decide) (by decide) ?_
    exact k_iret G hr hlocks hP hS (by rw [hk0]; rfl) rfl rfl (by rw [if_pos hk0]) dL_queued_18
