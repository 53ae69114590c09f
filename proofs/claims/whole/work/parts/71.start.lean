set_option maxHeartbeats 4000000 in
set_option maxRecDepth 100000 in
theorem whole_start {p : Program} {e : Env} {s : State} {m : MethodId} {below : List Frame} {meth : Method} {c : Code} (l : Launch) (hl0 : l.stackTraces = false) {b L : Nat} {xs : Nat → Int32} (hL : L ≤ 3072) (C0 : lw_At p s m meth c b L xs) : W p l e room_1 s m #[Value.ref b] below meth c s.heap [] 0 0 (lw_Z below #[Value.ref b] s) (entryFrame m ([Value.ref b] : List Value).toArray 7) := by
  obtain ⟨hx, hb, hr, hml, hown, htbl, hX, hbl, hlocks, hgv⟩ := C0
  have hts : ∀ w ∈ kAll, w.before #[Value.ref b] s = true := fun w hw => htbl w (List.mem_filter.mp hw).1
  have hN : ∀ w ∈ kNest, va_Nw w s := fun w hw => va_Nw.of (kisN_tab (List.mem_filter.mp hw).2) (htbl w (List.mem_filter.mp hw).1)
  obtain ⟨D, C, hK⟩ := kK_start htbl hts
  have hE : kEnv0 D C s := ⟨hK, va_AO.of (htbl _ kTb4), va_AO.of (htbl _ kTb5), hN⟩
  have hA : ∀ q : Nat, s.heap.size ≤ q → (fun q : Nat => s.heap.size ≤ q) q := fun _ h => h
  have hS : va_S (fun q : Nat => s.heap.size ≤ q) s.heap s.heap [] := va_S.rf
  have hP : va_P D vwCl [] s.heap := fun k q h => by simp at h
  have hD : va_D (fun q : Nat => s.heap.size ≤ q) [] := ⟨fun i j p q h => by simp at h, fun k q h => by simp at h⟩
  have hl := lv_entry ([.ref b]) (n := 7) (Nat.le_of_ble_eq_true rfl)
  rw [lg_entry_eq]
  generalize (lg_sl ([.ref b]) ++ List.replicate (7 - (lg_sl ([.ref b])).length) Slot.unset).toArray = ls at hl ⊢
  have hl : lv_has ls 7 [(0, .ref b)] := hl
  refine va_new (ci := 2) (fs := df2) (C := RX2) (T := TX2) (N := 12) hx hb hts kin2 tyX2 tyX2_ok hown (hts _ kq_50) (hts _ kq_51) (hts _ kq_38) hK hP hD hS hA rfl df_X2 (Nat.le_of_ble_eq_true rfl) (Nat.le_of_ble_eq_true rfl) dL_law_0 (fun q0 H hP hD hS => ?_)
  have hP : va_P D vwCl [(q0, .inr (2, df2))] H := hP
  have hD : va_D (fun q : Nat => s.heap.size ≤ q) [(q0, .inr (2, df2))] := hD
  refine lv_dup hx hb dL_law_3 rfl ?_
  have hF := k_allA hD hS hA
  refine va_callv (va_runI (As := []) (rest := [.ref q0]) ⟨hx, hb, hml, hown, hts⟩ (c_X2_init l D C q0 H.size) (cwI 0 hts (kgood1 kq_54 (fun _ h => h) (kgoodA (fun _ h => h))) rfl rfl rfl (hts _ kq_38) (hts _ kq_52) (hts _ kq_53) rfl (by decide +kernel) ⟨Nat.le_of_ble_eq_true rfl, Nat.le_of_ble_eq_true rfl⟩) ⟨kPre0_blind, fun U hU hW => ⟨rfl, by rw [hU], by rw [hU]; exact hP, hD.self, kEnv0_warm hW hE⟩⟩ rfl rfl hl.1 rfl (lv_room (Nat.le_of_ble_eq_true rfl)) dL_law_4 ⟨Nat.le_of_ble_eq_true rfl, Nat.le_of_ble_eq_true rfl⟩) hS (fun z _ h => hF z h) hF (fun f t H1 locs ht hvm hw hB hz1 hk1 hS => ?_)
  obtain ⟨hP, hD1⟩ := hB
  have hD := hD1.weaken (B := fun q : Nat => s.heap.size ≤ q) (fun _ _ _ h => hF _ h)
  rw [ht] at hP
  generalize H1 = H at hP hS ⊢
  refine lv_astore_n (lv' := [(1, .ref q0), (0, .ref b)]) hx hb dL_law_7 rfl hl (by decide) rfl (fun ls hl => ?_)
  refine va_new (ci := 3) (fs := df3) (C := RX3) (T := TX3) (N := 30) hx hb hts kin3 tyX3 tyX3_ok hown (hts _ kq_503) (hts _ kq_504) (hts _ kq_41) hK hP hD hS hA rfl df_X3 (Nat.le_of_ble_eq_true rfl) (Nat.le_of_ble_eq_true rfl) dL_law_8 (fun q3 H hP hD hS => ?_)
  refine lv_dup hx hb dL_law_11 rfl ?_
  have hPc := hP.sub (ws' := [(q3, .inr (3, df3))]) [34] rfl
  have hDc := hD.sub (ws' := [(q3, .inr (3, df3))]) [34] (by decide) rfl
  have hFc := va_free (wc := [(q3, .inr (3, df3))]) hD hS hA [34] rfl
  refine va_callv (va_runI (As := []) (rest := [.ref q3]) ⟨hx, hb, hml, hown, hts⟩ (c_X3_init l D C q3 H.size) (cwI 0 hts (kgood1 kq_507 (fun _ h => h) (kgoodA (fun _ h => h))) rfl rfl rfl (hts _ kq_41) (hts _ kq_505) (hts _ kq_506) rfl (by decide +kernel) ⟨Nat.le_of_ble_eq_true rfl, Nat.le_of_ble_eq_true rfl⟩) ⟨kPre0_blind, fun U hU hW => ⟨rfl, by rw [hU], by rw [hU]; exact hPc, hDc.self, kEnv0_warm hW hE⟩⟩ rfl rfl hl.1 rfl (lv_room (Nat.le_of_ble_eq_true rfl)) dL_law_12 ⟨Nat.le_of_ble_eq_true rfl, Nat.le_of_ble_eq_true rfl⟩) hS (fun z _ h => hFc z h) hFc (fun g t H1 locs ht hvm hw hB hz1 hk1 hS => ?_)
  obtain ⟨hP1, hD1⟩ := hB
  rw [ht] at hP1
  obtain ⟨hP, hD⟩ := va_join (wr := w2 C q0 f) (w1 := w3 C q3 g) hP hD [34] [0, 1, 2, 3, 4, 5, 6, 7, 8, 9, 10, 11, 12, 13, 14, 15, 16, 17, 18, 19, 20, 21, 22, 23, 24, 25, 26, 27, 28, 29, 30, 31, 32, 33] rfl rfl (by decide) (by decide) hk1 hFc hP1 hD1
  generalize H1 = H at hP hS ⊢
  refine lv_astore_n (lv' := [(2, .ref q3), (1, .ref q0), (0, .ref b)]) hx hb dL_law_15 rfl hl (by decide) rfl (fun ls hl => ?_)
  refine lv_iconst (v := 1) hx hb dL_law_16 (by decide) ?_
  refine k_newa (a0 := (1, .inr (.inl (fun _ => 0)))) (N' := 1) (atype := .long) (ty := .long) hx hb (hts _ kq_686) rfl hK 1 rfl hP hD hS hA (fun _ => rfl) (by decide) rfl (Nat.le_of_ble_eq_true rfl) (Nat.le_of_ble_eq_true rfl) (Nat.le_of_ble_eq_true rfl) dL_law_17 (fun q9 H hP hD hS => ?_)
  have hP : va_P D vwCl (wAll C q0 f q3 g q9) H := hP
  have hD : va_D (fun q : Nat => s.heap.size ≤ q) (wAll C q0 f q3 g q9) := hD
  refine lv_astore_n (lv' := [(3, .ref q9), (2, .ref q3), (1, .ref q0), (0, .ref b)]) hx hb dL_law_19 rfl hl (by decide) rfl (fun ls hl => ?_)
  refine lv_iconst (v := 0) hx hb dL_law_20 (by decide) ?_
  refine lv_istore (lv' := [(4, .int 0), (3, .ref q9), (2, .ref q3), (1, .ref q0), (0, .ref b)]) hx hb dL_law_21 hl (by decide) rfl (fun ls hl => ?_)
  have hA0 : ∀ k, k < 58 → s.heap.size ≤ kAdr q0 f q3 g q9 k := fun k hk => wAll_in hD k hk
  have hnA : ∀ a : Nat, a < s.heap.size → ¬ kA (kAdr q0 f q3 g q9) s.heap.size a := by
    rintro a ha (⟨k, hk, rfl⟩ | h)
    · have := hA0 k hk; omega
    · omega
  have G : kCtx D (kAdr q0 f q3 g q9) C p s m #[Value.ref b] c code 7 RL := ⟨hx, hb, hml, hown, hts, ⟨hK, hN, kThr_start htbl hgv hnA⟩, wAll_inj hD⟩
  have hS' : kS (kAdr q0 f q3 g q9) s H locs := ⟨hS.1, fun q h1 h2 => hS.2.1 q h1 (Nat.not_le.mpr h1), fun z hz => Or.inr (hS.2.2 z hz)⟩
  refine W.widen (k := 1000 + 10 * 0) (n := 10000 + 100 * 0) (by decide) (by decide) ?_
  exact law_loop hl0 G hr hlocks hX hbl hA0 hL 513 0 (by decide) (by omega) _ _ _ H locs ls RV_0 (wAll_kP hP) hS' hl
