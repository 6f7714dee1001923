set_option maxHeartbeats 400000 in
set_option maxRecDepth 100000 in
theorem c_X0_wireCapacity (l : Launch) (G : xG) (a : Nat → Nat) (S T : Nat → Nat → Int32) (L : Nat → Nat → Int64) (F : Nat → Int32) (bs : Int64) (k : Nat) (hk : k < 19) : xMl l yX0_wireCapacity wsX0_wireCapacity { frames := 0, cells := 0, slots := 0, locals := 0 } [.ref (a 19), .ref (a 6), .int (nI k)] G (wX G a S T L F bs) (capL F T k) (wX G a S T L F bs) 0 0 := by
  refine x_ofl (cc := cX0_wireCapacity) (maxL := 3) (by decide) rfl (Nat.le_of_ble_eq_true rfl) ?_
  intro p e s m args below meth c ls A Q C hml hA hH hl hE
  have hl : lv_has ls 3 [(0, .ref (a 19)), (1, .ref (a 6)), (2, .int (nI k))] := hl
  have inX0 : ∀ w ∈ wsX00, w ∈ wsX0_wireCapacity := fun _ h => (List.mem_cons_of_mem _ (List.mem_append_left _ (List.mem_append_right _ h)))
  have inX2 : ∀ w ∈ wsX20, w ∈ wsX0_wireCapacity := fun _ h => (List.mem_cons_of_mem _ (List.mem_append_right _ h))
  refine lv_aload_n C.1 C.2.1 dX0_wireCapacity_0 rfl (lv_at hl 0 rfl) ?_
  refine x_get (C := RX0) (T := TX0) (N := 10) (v := .int (F 8)) C inX0 hH 19 gX_19 rfl 4 (by decide) rfl rfl 1 rfl dX0_wireCapacity_1 ?_
  refine lv_i2l C.1 C.2.1 dX0_wireCapacity_4 rfl ?_
  refine lv_aload_n C.1 C.2.1 dX0_wireCapacity_5 rfl (lv_at hl 1 rfl) ?_
  refine x_get (C := RX2) (T := TX2) (N := 14) (v := .ref (a 15)) C inX2 hH 6 gX_6 rfl 8 (by decide) rfl rfl 2 rfl dX0_wireCapacity_6 ?_
  refine lv_iload_n C.1 C.2.1 dX0_wireCapacity_9 rfl (lv_at hl 2 rfl) ?_
  refine x_iald (f := T 8) (j := k) (v := T 8 k) C hH 15 gX_15 (by omega) (by decide) (rfl) dX0_wireCapacity_10 ?_
  refine lv_i2l C.1 C.2.1 dX0_wireCapacity_11 rfl ?_
  refine lv_lmul C.1 C.2.1 dX0_wireCapacity_12 ?_
  exact hE _ _ _ _ _ hH (rfl) dX0_wireCapacity_13
set_option maxHeartbeats 400000 in
set_option maxRecDepth 100000 in
theorem c_X0_wireDelay (l : Launch) (G : xG) (a : Nat → Nat) (S T : Nat → Nat → Int32) (L : Nat → Nat → Int64) (F : Nat → Int32) (bs : Int64) (k : Nat) (hk : k < 19) : xMl l yX0_wireDelay wsX0_wireDelay { frames := 1, cells := 0, slots := 0, locals := 22 } [.ref (a 19), .ref (a 6), .int (nI k)] G (wX G a S T L F bs) (wdL F T L k) (wX G a S T L F bs) 0 0 := by
  refine x_ofl (cc := cX0_wireDelay) (maxL := 3) (by decide) rfl (Nat.le_of_ble_eq_true rfl) ?_
  intro p e s m args below meth c ls A Q C hml hA hH hl hE
  have hl : lv_has ls 3 [(0, .ref (a 19)), (1, .ref (a 6)), (2, .int (nI k))] := hl
  have inX0 : ∀ w ∈ wsX00, w ∈ wsX0_wireDelay := fun _ h => (List.mem_cons_of_mem _ (List.mem_append_left _ (List.mem_append_right _ h)))
  have inX2 : ∀ w ∈ wsX20, w ∈ wsX0_wireDelay := fun _ h => (List.mem_cons_of_mem _ (List.mem_append_right _ h))
  refine lv_aload_n C.1 C.2.1 dX0_wireDelay_0 rfl (lv_at hl 0 rfl) ?_
  refine x_get (C := RX0) (T := TX0) (N := 10) (v := .int (F 7)) C inX0 hH 19 gX_19 rfl 3 (by decide) rfl rfl 1 rfl dX0_wireDelay_1 ?_
  refine lv_i2l C.1 C.2.1 dX0_wireDelay_4 rfl ?_
  refine lv_aload_n C.1 C.2.1 dX0_wireDelay_5 rfl (lv_at hl 1 rfl) ?_
  refine x_get (C := RX2) (T := TX2) (N := 14) (v := .ref (a 15)) C inX2 hH 6 gX_6 rfl 8 (by decide) rfl rfl 2 rfl dX0_wireDelay_6 ?_
  refine lv_iload_n C.1 C.2.1 dX0_wireDelay_9 rfl (lv_at hl 2 rfl) ?_
  refine x_iald (f := T 8) (j := k) (v := T 8 k) C hH 15 gX_15 (by omega) (by decide) (rfl) dX0_wireDelay_10 ?_
  refine lv_i2l C.1 C.2.1 dX0_wireDelay_11 rfl ?_
  refine lv_lmul C.1 C.2.1 dX0_wireDelay_12 ?_
  refine lv_aload_n C.1 C.2.1 dX0_wireDelay_13 rfl (lv_at hl 0 rfl) ?_
  refine lv_aload_n C.1 C.2.1 dX0_wireDelay_14 rfl (lv_at hl 1 rfl) ?_
  refine lv_iload_n C.1 C.2.1 dX0_wireDelay_15 rfl (lv_at hl 2 rfl) ?_
  refine x_cl (w' := wX G a S T L F bs) (va_runV (As := [.ref (a 6), .int (nI k)]) (rest := [.long (((F 7).toInt64) * ((T 8 k).toInt64))]) (x_fix C hml) (c_X0_wireCapacity l G a S T L F bs k (by omega) _) (cwV 2 C.2.2.2.1 gX0_wireDelay_X0_wireCapacity rfl rfl rfl (by decide +kernel) ⟨Nat.le_of_ble_eq_true rfl, Nat.le_of_ble_eq_true rfl⟩) (x_pv C hH rfl gX_19 rfl rfl) rfl rfl hl.1 rfl (lv_room (Nat.le_of_ble_eq_true rfl)) dX0_wireDelay_16 ⟨Nat.le_of_ble_eq_true rfl, Nat.le_of_ble_eq_true rfl⟩) hH hA (fun H locs hH => ?_)
  refine lv_ldc2 C.1 C.2.1 C.2.2.1 (C.2.2.2.1 _ (List.mem_of_getElem? (i := 3) rfl)) dX0_wireDelay_19 ?_
  refine lv_aload_n C.1 C.2.1 dX0_wireDelay_22 rfl (lv_at hl 0 rfl) ?_
  refine x_get (C := RX0) (T := TX0) (N := 10) (v := .ref (a 21)) C inX0 hH 19 gX_19 rfl 1 (by decide) rfl rfl 4 rfl dX0_wireDelay_23 ?_
  refine lv_iload_n C.1 C.2.1 dX0_wireDelay_26 rfl (lv_at hl 2 rfl) ?_
  refine x_lald (f := L 1) (j := k) (v := L 1 k) C hH 21 gX_21 (by omega) (by decide) (rfl) dX0_wireDelay_27 ?_
  refine lv_lmul C.1 C.2.1 dX0_wireDelay_28 ?_
  refine lv_ladd C.1 C.2.1 dX0_wireDelay_29 ?_
  refine lv_lmul C.1 C.2.1 dX0_wireDelay_30 ?_
  exact hE _ _ _ _ _ hH (rfl) dX0_wireDelay_31
set_option maxHeartbeats 400000 in
set_option maxRecDepth 100000 in
theorem c_X0_bufferDelay (l : Launch) (G : xG) (a : Nat → Nat) (S T : Nat → Nat → Int32) (L : Nat → Nat → Int64) (F : Nat → Int32) (bs : Int64) (k : Nat) (hk : k < 19) : xMl l yX0_bufferDelay wsX0_bufferDelay { frames := 0, cells := 0, slots := 0, locals := 0 } [.ref (a 19), .int (nI k)] G (wX G a S T L F bs) (bdL F L k) (wX G a S T L F bs) 0 0 := by
  refine x_ofl (cc := cX0_bufferDelay) (maxL := 2) (by decide) rfl (Nat.le_of_ble_eq_true rfl) ?_
  intro p e s m args below meth c ls A Q C hml hA hH hl hE
  have hl : lv_has ls 2 [(0, .ref (a 19)), (1, .int (nI k))] := hl
  have inX0 : ∀ w ∈ wsX00, w ∈ wsX0_bufferDelay := fun _ h => (List.mem_cons_of_mem _ (List.mem_append_right _ h))
  refine lv_aload_n C.1 C.2.1 dX0_bufferDelay_0 rfl (lv_at hl 0 rfl) ?_
  refine x_get (C := RX0) (T := TX0) (N := 10) (v := .int (F 11)) C inX0 hH 19 gX_19 rfl 7 (by decide) rfl rfl 1 rfl dX0_bufferDelay_1 ?_
  refine lv_i2l C.1 C.2.1 dX0_bufferDelay_4 rfl ?_
  refine lv_ldc2 C.1 C.2.1 C.2.2.1 (C.2.2.2.1 _ (List.mem_of_getElem? (i := 2) rfl)) dX0_bufferDelay_5 ?_
  refine lv_aload_n C.1 C.2.1 dX0_bufferDelay_8 rfl (lv_at hl 0 rfl) ?_
  refine x_get (C := RX0) (T := TX0) (N := 10) (v := .int (F 10)) C inX0 hH 19 gX_19 rfl 6 (by decide) rfl rfl 3 rfl dX0_bufferDelay_9 ?_
  refine lv_i2l C.1 C.2.1 dX0_bufferDelay_12 rfl ?_
  refine lv_lmul C.1 C.2.1 dX0_bufferDelay_13 ?_
  refine lv_aload_n C.1 C.2.1 dX0_bufferDelay_14 rfl (lv_at hl 0 rfl) ?_
  refine x_get (C := RX0) (T := TX0) (N := 10) (v := .ref (a 20)) C inX0 hH 19 gX_19 rfl 0 (by decide) rfl rfl 4 rfl dX0_bufferDelay_15 ?_
  refine lv_iload_n C.1 C.2.1 dX0_bufferDelay_18 rfl (lv_at hl 1 rfl) ?_
  refine x_lald (f := L 0) (j := k) (v := L 0 k) C hH 20 gX_20 (by omega) (by decide) (rfl) dX0_bufferDelay_19 ?_
  refine lv_lmul C.1 C.2.1 dX0_bufferDelay_20 ?_
  refine lv_ladd C.1 C.2.1 dX0_bufferDelay_21 ?_
  exact hE _ _ _ _ _ hH (rfl) dX0_bufferDelay_22
set_option maxHeartbeats 400000 in
set_option maxRecDepth 100000 in
theorem c_X0_slackAbove (l : Launch) (G : xG) (a : Nat → Nat) (S T : Nat → Nat → Int32) (L : Nat → Nat → Int64) (F : Nat → Int32) (bs : Int64) (k : Nat) (hk : k < 19) : xMl l yX0_slackAbove wsX0_slackAbove { frames := 2, cells := 0, slots := 0, locals := 44 } [.ref (a 19), .ref (a 6), .int (nI k)] G (wX G a S T L F bs) (slL F T L k) (wX G a S T L F bs) 0 0 := by
  refine x_ofl (cc := cX0_slackAbove) (maxL := 3) (by decide) rfl (Nat.le_of_ble_eq_true rfl) ?_
  intro p e s m args below meth c ls A Q C hml hA hH hl hE
  have hl : lv_has ls 3 [(0, .ref (a 19)), (1, .ref (a 6)), (2, .int (nI k))] := hl
  have inX0 : ∀ w ∈ wsX00, w ∈ wsX0_slackAbove := fun _ h => (List.mem_cons_of_mem _ (List.mem_append_left _ (List.mem_append_right _ h)))
  refine lv_aload_n C.1 C.2.1 dX0_slackAbove_0 rfl (lv_at hl 0 rfl) ?_
  refine x_get (C := RX0) (T := TX0) (N := 10) (v := .ref (a 22)) C inX0 hH 19 gX_19 rfl 2 (by decide) rfl rfl 1 rfl dX0_slackAbove_1 ?_
  refine lv_iload_n C.1 C.2.1 dX0_slackAbove_4 rfl (lv_at hl 2 rfl) ?_
  refine x_lald (f := L 2) (j := k) (v := L 2 k) C hH 22 gX_22 (by omega) (by decide) (rfl) dX0_slackAbove_5 ?_
  refine lv_aload_n C.1 C.2.1 dX0_slackAbove_6 rfl (lv_at hl 0 rfl) ?_
  refine lv_aload_n C.1 C.2.1 dX0_slackAbove_7 rfl (lv_at hl 1 rfl) ?_
  refine lv_iload_n C.1 C.2.1 dX0_slackAbove_8 rfl (lv_at hl 2 rfl) ?_
  refine x_cl (w' := wX G a S T L F bs) (va_runV (As := [.ref (a 6), .int (nI k)]) (rest := [.long (L 2 k)]) (x_fix C hml) (c_X0_wireDelay l G a S T L F bs k (by omega) _) (cwV 2 C.2.2.2.1 gX0_slackAbove_X0_wireDelay rfl rfl rfl (by decide +kernel) ⟨Nat.le_of_ble_eq_true rfl, Nat.le_of_ble_eq_true rfl⟩) (x_pv C hH rfl gX_19 rfl rfl) rfl rfl hl.1 rfl (lv_room (Nat.le_of_ble_eq_true rfl)) dX0_slackAbove_9 ⟨Nat.le_of_ble_eq_true rfl, Nat.le_of_ble_eq_true rfl⟩) hH hA (fun H locs hH => ?_)
  refine lv_lsub C.1 C.2.1 dX0_slackAbove_12 ?_
  exact hE _ _ _ _ _ hH (rfl) dX0_slackAbove_13
set_option maxHeartbeats 400000 in
set_option maxRecDepth 100000 in
theorem c_X0_slackAtSource (l : Launch) (G : xG) (a : Nat → Nat) (S T : Nat → Nat → Int32) (L : Nat → Nat → Int64) (F : Nat → Int32) (bs : Int64) (nd : Nat) (h6 : F 6 = nI nd) (h1 : 1 ≤ nd) (h2 : nd ≤ 19) : xMl l yX0_slackAtSource wsX0_slackAtSource { frames := 3, cells := 0, slots := 0, locals := 66 } [.ref (a 19), .ref (a 6)] G (wX G a S T L F bs) (slL F T L (nd - 1)) (wX G a S T L F bs) 0 0 := by
  refine x_ofl (cc := cX0_slackAtSource) (maxL := 2) (by decide) rfl (Nat.le_of_ble_eq_true rfl) ?_
  intro p e s m args below meth c ls A Q C hml hA hH hl hE
  have hl : lv_has ls 2 [(0, .ref (a 19)), (1, .ref (a 6))] := hl
  have inX2 : ∀ w ∈ wsX20, w ∈ wsX0_slackAtSource := fun _ h => (List.mem_cons_of_mem _ (List.mem_append_left _ (List.mem_append_right _ h)))
  refine lv_aload_n C.1 C.2.1 dX0_slackAtSource_0 rfl (lv_at hl 0 rfl) ?_
  refine lv_aload_n C.1 C.2.1 dX0_slackAtSource_1 rfl (lv_at hl 1 rfl) ?_
  refine lv_aload_n C.1 C.2.1 dX0_slackAtSource_2 rfl (lv_at hl 1 rfl) ?_
  refine x_get (C := RX2) (T := TX2) (N := 14) (v := .int (F 6)) C inX2 hH 6 gX_6 rfl 13 (by decide) rfl rfl 1 rfl dX0_slackAtSource_3 ?_
  refine x_toi h6 ?_
  refine lv_iconst (v := nI 1) C.1 C.2.1 dX0_slackAtSource_6 (by decide) ?_
  refine lv_isub C.1 C.2.1 dX0_slackAtSource_7 ?_
  refine x_toi (pk_sub (a := nd) (b := 1) (by omega)) ?_
  refine x_cl (w' := wX G a S T L F bs) (va_runV (As := [.ref (a 6), .int (nI (nd - 1))]) (rest := []) (x_fix C hml) (c_X0_slackAbove l G a S T L F bs (nd - 1) (by omega) _) (cwV 2 C.2.2.2.1 gX0_slackAtSource_X0_slackAbove rfl rfl rfl (by decide +kernel) ⟨Nat.le_of_ble_eq_true rfl, Nat.le_of_ble_eq_true rfl⟩) (x_pv C hH rfl gX_19 rfl rfl) rfl rfl hl.1 rfl (lv_room (Nat.le_of_ble_eq_true rfl)) dX0_slackAtSource_8 ⟨Nat.le_of_ble_eq_true rfl, Nat.le_of_ble_eq_true rfl⟩) hH hA (fun H locs hH => ?_)
  exact hE _ _ _ _ _ hH (rfl) dX0_slackAtSource_11
set_option maxHeartbeats 400000 in
set_option maxRecDepth 100000 in
theorem c_X0_weighSinks (l : Launch) (G : xG) (a : Nat → Nat) (S T : Nat → Nat → Int32) (L : Nat → Nat → Int64) (F : Nat → Int32) (bs : Int64) (lv : Nat) (h5 : F 5 = nI lv) (hl9 : lv ≤ 10) : xMv l yX0_weighSinks wsX0_weighSinks { frames := 0, cells := 0, slots := 0, locals := 0 } [.ref (a 19), .ref (a 6), .ref (a 1)] G (wX G a S T L F bs) (wX G a S T (wsF S lv 0 L) F bs) 0 0 := by
  refine x_ofv (cc := cX0_weighSinks) (maxL := 4) (by decide) rfl (Nat.le_of_ble_eq_true rfl) ?_
  intro p e s m args below meth c ls A Q C hml hA hH hl hE
  have hl : lv_has ls 4 [(0, .ref (a 19)), (1, .ref (a 6)), (2, .ref (a 1))] := hl
  have inX0 : ∀ w ∈ wsX00, w ∈ wsX0_weighSinks := fun _ h => (List.mem_cons_of_mem _ (List.mem_append_left _ (List.mem_append_right _ h)))
  have inX1 : ∀ w ∈ wsX10, w ∈ wsX0_weighSinks := fun _ h => (List.mem_cons_of_mem _ (List.mem_append_right _ h))
  have inX2 : ∀ w ∈ wsX20, w ∈ wsX0_weighSinks := fun _ h => (List.mem_cons_of_mem _ (List.mem_append_left _ (List.mem_append_left _ (List.mem_append_right _ h))))
  refine lv_iconst (v := nI 0) C.1 C.2.1 dX0_weighSinks_0 (by decide) ?_
  refine lv_istore_n (lv' := [(3, .int (nI 0)), (0, .ref (a 19)), (1, .ref (a 6)), (2, .ref (a 1))]) C.1 C.2.1 dX0_weighSinks_1 rfl hl (by decide) rfl (fun ls hl => ?_)
  have lp : ∀ (n : Nat) (i : Nat) (L1 : Nat → Nat → Int64) (H : Heap) (locs : List Loc) (ls : Array Slot), i + n = lv → wsF S n i L1 = wsF S lv 0 L → xH G A s.heap H locs (wX G a S T L1 F bs) → lv_has ls 4 [(0, .ref (a 19)), (1, .ref (a 6)), (2, .ref (a 1)), (3, .int (nI i))] → W p l e ({ frames := 0, cells := 0, slots := 0, locals := 0 }) s m args below meth c H locs 0 0 Q (F0 m 2 ls []) := by
    intro n
    induction n with
    | zero =>
      intro i L1 H locs ls hin hf hH hl
      refine lv_iload_n C.1 C.2.1 dX0_weighSinks_2 rfl (lv_at hl 3 rfl) ?_
      refine lv_aload_n C.1 C.2.1 dX0_weighSinks_3 rfl (lv_at hl 1 rfl) ?_
      refine x_get (C := RX2) (T := TX2) (N := 14) (v := .int (F 5)) C inX2 hH 6 gX_6 rfl 12 (by decide) rfl rfl 1 rfl dX0_weighSinks_4 ?_
      refine x_toi h5 ?_
      refine lv_icmp_ge (tgt := 62) C.1 C.2.1 dX0_weighSinks_7 (by decide) (fun _ => ?_) (fun c_1 => absurd ((nI_leI (a := lv) (b := i) (by omega) (by omega)).mpr (by omega)) c_1)
      have hH := x_eqw (w' := wX G a S T (wsF S lv 0 L) F bs) (by rw [← hf]; rfl) hH
      exact hE _ _ _ _ hH dX0_weighSinks_62
    | succ n ih2 =>
      intro i L1 H locs ls hin hf hH hl
      refine lv_iload_n C.1 C.2.1 dX0_weighSinks_2 rfl (lv_at hl 3 rfl) ?_
      refine lv_aload_n C.1 C.2.1 dX0_weighSinks_3 rfl (lv_at hl 1 rfl) ?_
      refine x_get (C := RX2) (T := TX2) (N := 14) (v := .int (F 5)) C inX2 hH 6 gX_6 rfl 12 (by decide) rfl rfl 1 rfl dX0_weighSinks_4 ?_
      refine x_toi h5 ?_
      refine lv_icmp_ge (tgt := 62) C.1 C.2.1 dX0_weighSinks_7 (by decide) (fun c_2 => absurd ((nI_leI (a := lv) (b := i) (by omega) (by omega)).mp c_2) (by omega)) (fun _ => ?_)
      refine lv_aload_n C.1 C.2.1 dX0_weighSinks_10 rfl (lv_at hl 0 rfl) ?_
      refine x_get (C := RX0) (T := TX0) (N := 10) (v := .ref (a 20)) C inX0 hH 19 gX_19 rfl 0 (by decide) rfl rfl 2 rfl dX0_weighSinks_11 ?_
      refine lv_iload_n C.1 C.2.1 dX0_weighSinks_14 rfl (lv_at hl 3 rfl) ?_
      refine lv_ldc2 C.1 C.2.1 C.2.2.1 (C.2.2.2.1 _ (List.mem_of_getElem? (i := 3) rfl)) dX0_weighSinks_15 ?_
      refine lv_aload_n C.1 C.2.1 dX0_weighSinks_18 rfl (lv_at hl 2 rfl) ?_
      refine x_get (C := RX1) (T := TX1) (N := 5) (v := .ref (a 4)) C inX1 hH 1 gX_1 rfl 2 (by decide) rfl rfl 4 rfl dX0_weighSinks_19 ?_
      refine lv_iload_n C.1 C.2.1 dX0_weighSinks_22 rfl (lv_at hl 3 rfl) ?_
      refine x_iald (f := S 2) (j := i) (v := S 2 i) C hH 4 gX_4 (by omega) (by decide) (rfl) dX0_weighSinks_23 ?_
      refine lv_i2l C.1 C.2.1 dX0_weighSinks_24 rfl ?_
      refine lv_lmul C.1 C.2.1 dX0_weighSinks_25 ?_
      refine x_last (f := L1 0) (j := i) (x := 1024 * ((S 2 i).toInt64)) (w' := wX G a S T ((tS L1 0 (vp_updL (L1 0) i (1024 * ((S 2 i).toInt64))))) F bs) C hH 20 gX_20 (by omega) (by decide) sX_20 dX0_weighSinks_26 (fun H locs hH => ?_)
      refine lv_aload_n C.1 C.2.1 dX0_weighSinks_27 rfl (lv_at hl 0 rfl) ?_
      refine x_get (C := RX0) (T := TX0) (N := 10) (v := .ref (a 21)) C inX0 hH 19 gX_19 rfl 1 (by decide) rfl rfl 5 rfl dX0_weighSinks_28 ?_
      refine lv_iload_n C.1 C.2.1 dX0_weighSinks_31 rfl (lv_at hl 3 rfl) ?_
      refine lv_aload_n C.1 C.2.1 dX0_weighSinks_32 rfl (lv_at hl 0 rfl) ?_
      refine x_get (C := RX0) (T := TX0) (N := 10) (v := .ref (a 20)) C inX0 hH 19 gX_19 rfl 0 (by decide) rfl rfl 2 rfl dX0_weighSinks_33 ?_
      refine lv_iload_n C.1 C.2.1 dX0_weighSinks_36 rfl (lv_at hl 3 rfl) ?_
      refine x_lald (f := vp_updL (L1 0) i (1024 * ((S 2 i).toInt64))) (j := i) (v := 1024 * ((S 2 i).toInt64)) C hH 20 gX_20 (by omega) (by decide) (pk_uLs) dX0_weighSinks_37 ?_
      refine x_last (f := L1 1) (j := i) (x := 1024 * ((S 2 i).toInt64)) (w' := wX G a S T ((tS ((tS L1 0 (vp_updL (L1 0) i (1024 * ((S 2 i).toInt64))))) 1 (vp_updL (L1 1) i (1024 * ((S 2 i).toInt64))))) F bs) C hH 21 gX_21 (by omega) (by decide) sX_21 dX0_weighSinks_38 (fun H locs hH => ?_)
      refine lv_aload_n C.1 C.2.1 dX0_weighSinks_39 rfl (lv_at hl 0 rfl) ?_
      refine x_get (C := RX0) (T := TX0) (N := 10) (v := .ref (a 22)) C inX0 hH 19 gX_19 rfl 2 (by decide) rfl rfl 6 rfl dX0_weighSinks_40 ?_
      refine lv_iload_n C.1 C.2.1 dX0_weighSinks_43 rfl (lv_at hl 3 rfl) ?_
      refine lv_ldc2 C.1 C.2.1 C.2.2.1 (C.2.2.2.1 _ (List.mem_of_getElem? (i := 7) rfl)) dX0_weighSinks_44 ?_
      refine lv_aload_n C.1 C.2.1 dX0_weighSinks_47 rfl (lv_at hl 2 rfl) ?_
      refine x_get (C := RX1) (T := TX1) (N := 5) (v := .ref (a 5)) C inX1 hH 1 gX_1 rfl 3 (by decide) rfl rfl 8 rfl dX0_weighSinks_48 ?_
      refine lv_iload_n C.1 C.2.1 dX0_weighSinks_51 rfl (lv_at hl 3 rfl) ?_
      refine x_iald (f := S 3) (j := i) (v := S 3 i) C hH 5 gX_5 (by omega) (by decide) (rfl) dX0_weighSinks_52 ?_
      refine lv_i2l C.1 C.2.1 dX0_weighSinks_53 rfl ?_
      refine lv_lmul C.1 C.2.1 dX0_weighSinks_54 ?_
      refine x_last (f := L1 2) (j := i) (x := 1048576 * ((S 3 i).toInt64)) (w' := wX G a S T ((tS ((tS ((tS L1 0 (vp_updL (L1 0) i (1024 * ((S 2 i).toInt64))))) 1 (vp_updL (L1 1) i (1024 * ((S 2 i).toInt64))))) 2 (vp_updL (L1 2) i (1048576 * ((S 3 i).toInt64))))) F bs) C hH 22 gX_22 (by omega) (by decide) sX_22 dX0_weighSinks_55 (fun H locs hH => ?_)
      refine lv_iinc (v := nI (i + 1)) (lv' := [(3, .int (nI (i + 1))), (0, .ref (a 19)), (1, .ref (a 6)), (2, .ref (a 1))]) C.1 C.2.1 dX0_weighSinks_56 hl (k := 3) rfl (nI_add i 1) (by decide) rfl (fun ls hl => ?_)
      refine lv_goto (tgt := 2) C.1 C.2.1 dX0_weighSinks_59 (by decide) ?_
      have hH := x_eqw (w' := wX G a S T (wsK S L1 i) F bs) (rfl) hH
      exact ih2 (i + 1) (wsK S L1 i) _ _ _ (by omega) (hf) hH (lv_sub hl [1, 2, 3, 0] rfl)
  exact lp (lv) 0 L _ _ _ (by omega) (rfl) hH (lv_sub hl [1, 2, 3, 0] rfl)
set_option maxHeartbeats 400000 in
set_option maxRecDepth 100000 in
theorem c_X0_weighJoin (l : Launch) (G : xG) (a : Nat → Nat) (S T : Nat → Nat → Int32) (L : Nat → Nat → Int64) (F : Nat → Int32) (bs : Int64) (j p9 q9 : Nat) (hb : Bool) (hp : T 0 j = nI p9) (hq : T 1 j = nI q9) (hj : j < 19) (hp1 : p9 < 19) (hq1 : q9 < 19) : xMv l yX0_weighJoin wsX0_weighJoin { frames := 3, cells := 0, slots := 0, locals := 66 } [.ref (a 19), .ref (a 6), .int (nI j), .int (xb (hb = true))] G (wX G a S T L F bs) (wX G a S T (wjL F T L j p9 q9 hb) F bs) 0 0 := by
  refine x_ofv (cc := cX0_weighJoin) (maxL := 6) (by decide) rfl (Nat.le_of_ble_eq_true rfl) ?_
  intro p e s m args below meth c ls A Q C hml hA hH hl hE
  have hl : lv_has ls 6 [(0, .ref (a 19)), (1, .ref (a 6)), (2, .int (nI j)), (3, .int (xb (hb = true)))] := hl
  have inX0 : ∀ w ∈ wsX00, w ∈ wsX0_weighJoin := fun _ h => (List.mem_cons_of_mem _ (List.mem_append_right _ h))
  have inX2 : ∀ w ∈ wsX20, w ∈ wsX0_weighJoin := fun _ h => (List.mem_cons_of_mem _ (List.mem_append_left _ (List.mem_append_right _ h)))
  refine lv_aload_n C.1 C.2.1 dX0_weighJoin_0 rfl (lv_at hl 1 rfl) ?_
  refine x_get (C := RX2) (T := TX2) (N := 14) (v := .ref (a 7)) C inX2 hH 6 gX_6 rfl 0 (by decide) rfl rfl 1 rfl dX0_weighJoin_1 ?_
  refine lv_iload_n C.1 C.2.1 dX0_weighJoin_4 rfl (lv_at hl 2 rfl) ?_
  refine x_iald (f := T 0) (j := j) (v := nI p9) C hH 7 gX_7 (by omega) (by decide) (hp) dX0_weighJoin_5 ?_
  refine lv_istore (lv' := [(4, .int (nI p9)), (0, .ref (a 19)), (1, .ref (a 6)), (2, .int (nI j)), (3, .int (xb (hb = true)))]) C.1 C.2.1 dX0_weighJoin_6 hl (by decide) rfl (fun ls hl => ?_)
  refine lv_aload_n C.1 C.2.1 dX0_weighJoin_8 rfl (lv_at hl 2 rfl) ?_
  refine x_get (C := RX2) (T := TX2) (N := 14) (v := .ref (a 8)) C inX2 hH 6 gX_6 rfl 1 (by decide) rfl rfl 2 rfl dX0_weighJoin_9 ?_
  refine lv_iload_n C.1 C.2.1 dX0_weighJoin_12 rfl (lv_at hl 3 rfl) ?_
  refine x_iald (f := T 1) (j := j) (v := nI q9) C hH 8 gX_8 (by omega) (by decide) (hq) dX0_weighJoin_13 ?_
  refine lv_istore (lv' := [(5, .int (nI q9)), (4, .int (nI p9)), (0, .ref (a 19)), (1, .ref (a 6)), (2, .int (nI j)), (3, .int (xb (hb = true)))]) C.1 C.2.1 dX0_weighJoin_14 hl (by decide) rfl (fun ls hl => ?_)
  refine lv_aload_n C.1 C.2.1 dX0_weighJoin_16 rfl (lv_at hl 2 rfl) ?_
  refine x_get (C := RX0) (T := TX0) (N := 10) (v := .ref (a 20)) C inX0 hH 19 gX_19 rfl 0 (by decide) rfl rfl 3 rfl dX0_weighJoin_17 ?_
  refine lv_iload_n C.1 C.2.1 dX0_weighJoin_20 rfl (lv_at hl 4 rfl) ?_
  refine lv_aload_n C.1 C.2.1 dX0_weighJoin_21 rfl (lv_at hl 2 rfl) ?_
  refine x_get (C := RX0) (T := TX0) (N := 10) (v := .ref (a 21)) C inX0 hH 19 gX_19 rfl 1 (by decide) rfl rfl 4 rfl dX0_weighJoin_22 ?_
  refine lv_iload C.1 C.2.1 dX0_weighJoin_25 (lv_at hl 1 rfl) ?_
  refine x_lald (f := L 1) (j := p9) (v := L 1 p9) C hH 21 gX_21 (by omega) (by decide) (rfl) dX0_weighJoin_27 ?_
  refine lv_aload_n C.1 C.2.1 dX0_weighJoin_28 rfl (lv_at hl 2 rfl) ?_
  refine lv_aload_n C.1 C.2.1 dX0_weighJoin_29 rfl (lv_at hl 3 rfl) ?_
  refine lv_iload C.1 C.2.1 dX0_weighJoin_30 (lv_at hl 1 rfl) ?_
  refine x_cl (w' := wX G a S T L F bs) (va_runV (As := [.ref (a 6), .int (nI p9)]) (rest := [.long (L 1 p9), .int (nI j), .ref (a 20)]) (x_fix C hml) (c_X0_wireCapacity l G a S T L F bs p9 (by omega) _) (cwV 2 C.2.2.2.1 gX0_weighJoin_X0_wireCapacity rfl rfl rfl (by decide +kernel) ⟨Nat.le_of_ble_eq_true rfl, Nat.le_of_ble_eq_true rfl⟩) (x_pv C hH rfl gX_19 rfl rfl) rfl rfl hl.1 rfl (lv_room (Nat.le_of_ble_eq_true rfl)) dX0_weighJoin_32 ⟨Nat.le_of_ble_eq_true rfl, Nat.le_of_ble_eq_true rfl⟩) hH hA (fun H locs hH => ?_)
  refine lv_ladd C.1 C.2.1 dX0_weighJoin_35 ?_
  refine lv_aload_n C.1 C.2.1 dX0_weighJoin_36 rfl (lv_at hl 2 rfl) ?_
  refine x_get (C := RX0) (T := TX0) (N := 10) (v := .ref (a 21)) C inX0 hH 19 gX_19 rfl 1 (by decide) rfl rfl 4 rfl dX0_weighJoin_37 ?_
  refine lv_iload C.1 C.2.1 dX0_weighJoin_40 (lv_at hl 0 rfl) ?_
  refine x_lald (f := L 1) (j := q9) (v := L 1 q9) C hH 21 gX_21 (by omega) (by decide) (rfl) dX0_weighJoin_42 ?_
  refine lv_ladd C.1 C.2.1 dX0_weighJoin_43 ?_
  refine lv_aload_n C.1 C.2.1 dX0_weighJoin_44 rfl (lv_at hl 2 rfl) ?_
  refine lv_aload_n C.1 C.2.1 dX0_weighJoin_45 rfl (lv_at hl 3 rfl) ?_
  refine lv_iload C.1 C.2.1 dX0_weighJoin_46 (lv_at hl 0 rfl) ?_
  refine x_cl (w' := wX G a S T L F bs) (va_runV (As := [.ref (a 6), .int (nI q9)]) (rest := [.long (((L 1 p9) + (capL F T p9)) + (L 1 q9)), .int (nI j), .ref (a 20)]) (x_fix C hml) (c_X0_wireCapacity l G a S T L F bs q9 (by omega) _) (cwV 2 C.2.2.2.1 gX0_weighJoin_X0_wireCapacity rfl rfl rfl (by decide +kernel) ⟨Nat.le_of_ble_eq_true rfl, Nat.le_of_ble_eq_true rfl⟩) (x_pv C hH rfl gX_19 rfl rfl) rfl rfl hl.1 rfl (lv_room (Nat.le_of_ble_eq_true rfl)) dX0_weighJoin_48 ⟨Nat.le_of_ble_eq_true rfl, Nat.le_of_ble_eq_true rfl⟩) hH hA (fun H locs hH => ?_)
  refine lv_ladd C.1 C.2.1 dX0_weighJoin_51 ?_
  refine x_last (f := L 0) (j := j) (x := (((L 1 p9) + (capL F T p9)) + (L 1 q9)) + (capL F T q9)) (w' := wX G a S T ((tS L 0 (vp_updL (L 0) j ((((L 1 p9) + (capL F T p9)) + (L 1 q9)) + (capL F T q9))))) F bs) C hH 20 gX_20 (by omega) (by decide) sX_20 dX0_weighJoin_52 (fun H locs hH => ?_)
  refine lv_aload_n C.1 C.2.1 dX0_weighJoin_53 rfl (lv_at hl 2 rfl) ?_
  refine x_get (C := RX0) (T := TX0) (N := 10) (v := .ref (a 21)) C inX0 hH 19 gX_19 rfl 1 (by decide) rfl rfl 4 rfl dX0_weighJoin_54 ?_
  refine lv_iload_n C.1 C.2.1 dX0_weighJoin_57 rfl (lv_at hl 4 rfl) ?_
  refine lv_aload_n C.1 C.2.1 dX0_weighJoin_58 rfl (lv_at hl 2 rfl) ?_
  refine x_get (C := RX0) (T := TX0) (N := 10) (v := .ref (a 20)) C inX0 hH 19 gX_19 rfl 0 (by decide) rfl rfl 3 rfl dX0_weighJoin_59 ?_
  refine lv_iload_n C.1 C.2.1 dX0_weighJoin_62 rfl (lv_at hl 4 rfl) ?_
  refine x_lald (f := vp_updL (L 0) j ((((L 1 p9) + (capL F T p9)) + (L 1 q9)) + (capL F T q9))) (j := j) (v := (((L 1 p9) + (capL F T p9)) + (L 1 q9)) + (capL F T q9)) C hH 20 gX_20 (by omega) (by decide) (pk_uLs) dX0_weighJoin_63 ?_
  refine x_last (f := L 1) (j := j) (x := (((L 1 p9) + (capL F T p9)) + (L 1 q9)) + (capL F T q9)) (w' := wX G a S T ((tS ((tS L 0 (vp_updL (L 0) j ((((L 1 p9) + (capL F T p9)) + (L 1 q9)) + (capL F T q9))))) 1 (vp_updL (L 1) j ((((L 1 p9) + (capL F T p9)) + (L 1 q9)) + (capL F T q9))))) F bs) C hH 21 gX_21 (by omega) (by decide) sX_21 dX0_weighJoin_64 (fun H locs hH => ?_)
  refine lv_aload_n C.1 C.2.1 dX0_weighJoin_65 rfl (lv_at hl 2 rfl) ?_
  refine x_get (C := RX0) (T := TX0) (N := 10) (v := .ref (a 22)) C inX0 hH 19 gX_19 rfl 2 (by decide) rfl rfl 5 rfl dX0_weighJoin_66 ?_
  refine lv_iload_n C.1 C.2.1 dX0_weighJoin_69 rfl (lv_at hl 4 rfl) ?_
  refine lv_aload_n C.1 C.2.1 dX0_weighJoin_70 rfl (lv_at hl 2 rfl) ?_
  refine lv_aload_n C.1 C.2.1 dX0_weighJoin_71 rfl (lv_at hl 3 rfl) ?_
  refine lv_iload C.1 C.2.1 dX0_weighJoin_72 (lv_at hl 1 rfl) ?_
  refine x_cl (w' := wX G a S T ((tS ((tS L 0 (vp_updL (L 0) j ((((L 1 p9) + (capL F T p9)) + (L 1 q9)) + (capL F T q9))))) 1 (vp_updL (L 1) j ((((L 1 p9) + (capL F T p9)) + (L 1 q9)) + (capL F T q9))))) F bs) (va_runV (As := [.ref (a 6), .int (nI p9)]) (rest := [.int (nI j), .ref (a 22)]) (x_fix C hml) (c_X0_slackAbove l G a S T ((tS ((tS L 0 (vp_updL (L 0) j ((((L 1 p9) + (capL F T p9)) + (L 1 q9)) + (capL F T q9))))) 1 (vp_updL (L 1) j ((((L 1 p9) + (capL F T p9)) + (L 1 q9)) + (capL F T q9))))) F bs p9 (by omega) _) (cwV 2 C.2.2.2.1 gX0_weighJoin_X0_slackAbove rfl rfl rfl (by decide +kernel) ⟨Nat.le_of_ble_eq_true rfl, Nat.le_of_ble_eq_true rfl⟩) (x_pv C hH rfl gX_19 rfl rfl) rfl rfl hl.1 rfl (lv_room (Nat.le_of_ble_eq_true rfl)) dX0_weighJoin_74 ⟨Nat.le_of_ble_eq_true rfl, Nat.le_of_ble_eq_true rfl⟩) hH hA (fun H locs hH => ?_)
  refine lv_aload_n C.1 C.2.1 dX0_weighJoin_77 rfl (lv_at hl 2 rfl) ?_
  refine lv_aload_n C.1 C.2.1 dX0_weighJoin_78 rfl (lv_at hl 3 rfl) ?_
  refine lv_iload C.1 C.2.1 dX0_weighJoin_79 (lv_at hl 0 rfl) ?_
  refine x_cl (w' := wX G a S T ((tS ((tS L 0 (vp_updL (L 0) j ((((L 1 p9) + (capL F T p9)) + (L 1 q9)) + (capL F T q9))))) 1 (vp_updL (L 1) j ((((L 1 p9) + (capL F T p9)) + (L 1 q9)) + (capL F T q9))))) F bs) (va_runV (As := [.ref (a 6), .int (nI q9)]) (rest := [.long (slL F T ((tS ((tS L 0 (vp_updL (L 0) j ((((L 1 p9) + (capL F T p9)) + (L 1 q9)) + (capL F T q9))))) 1 (vp_updL (L 1) j ((((L 1 p9) + (capL F T p9)) + (L 1 q9)) + (capL F T q9))))) p9), .int (nI j), .ref (a 22)]) (x_fix C hml) (c_X0_slackAbove l G a S T ((tS ((tS L 0 (vp_updL (L 0) j ((((L 1 p9) + (capL F T p9)) + (L 1 q9)) + (capL F T q9))))) 1 (vp_updL (L 1) j ((((L 1 p9) + (capL F T p9)) + (L 1 q9)) + (capL F T q9))))) F bs q9 (by omega) _) (cwV 2 C.2.2.2.1 gX0_weighJoin_X0_slackAbove rfl rfl rfl (by decide +kernel) ⟨Nat.le_of_ble_eq_true rfl, Nat.le_of_ble_eq_true rfl⟩) (x_pv C hH rfl gX_19 rfl rfl) rfl rfl hl.1 rfl (lv_room (Nat.le_of_ble_eq_true rfl)) dX0_weighJoin_81 ⟨Nat.le_of_ble_eq_true rfl, Nat.le_of_ble_eq_true rfl⟩) hH hA (fun H locs hH => ?_)
  refine va_mmin_long C.1 C.2.1 (hml.trans hl.1.symm) C.2.2.1 (C.2.2.2.1 _ (List.mem_of_getElem? (i := 6) rfl)) (C.2.2.2.1 _ (List.mem_of_getElem? (i := 7) rfl)) (C.2.2.2.1 _ (List.mem_of_getElem? (i := 8) rfl)) (C.2.2.2.1 _ (List.mem_of_getElem? (i := 9) rfl)) (Nat.le_of_ble_eq_true rfl) (Nat.le_of_ble_eq_true rfl) (Nat.le_of_ble_eq_true rfl) (Nat.le_of_ble_eq_true rfl) dX0_weighJoin_84 ?_
  refine x_tol (show _ = lmin (slL F T ((tS ((tS L 0 (vp_updL (L 0) j ((((L 1 p9) + (capL F T p9)) + (L 1 q9)) + (capL F T q9))))) 1 (vp_updL (L 1) j ((((L 1 p9) + (capL F T p9)) + (L 1 q9)) + (capL F T q9))))) p9) (slL F T ((tS ((tS L 0 (vp_updL (L 0) j ((((L 1 p9) + (capL F T p9)) + (L 1 q9)) + (capL F T q9))))) 1 (vp_updL (L 1) j ((((L 1 p9) + (capL F T p9)) + (L 1 q9)) + (capL F T q9))))) q9) from rfl) ?_
  refine x_last (f := L 2) (j := j) (x := lmin (slL F T ((tS ((tS L 0 (vp_updL (L 0) j ((((L 1 p9) + (capL F T p9)) + (L 1 q9)) + (capL F T q9))))) 1 (vp_updL (L 1) j ((((L 1 p9) + (capL F T p9)) + (L 1 q9)) + (capL F T q9))))) p9) (slL F T ((tS ((tS L 0 (vp_updL (L 0) j ((((L 1 p9) + (capL F T p9)) + (L 1 q9)) + (capL F T q9))))) 1 (vp_updL (L 1) j ((((L 1 p9) + (capL F T p9)) + (L 1 q9)) + (capL F T q9))))) q9)) (w' := wX G a S T ((tS ((tS ((tS L 0 (vp_updL (L 0) j ((((L 1 p9) + (capL F T p9)) + (L 1 q9)) + (capL F T q9))))) 1 (vp_updL (L 1) j ((((L 1 p9) + (capL F T p9)) + (L 1 q9)) + (capL F T q9))))) 2 (vp_updL (L 2) j (lmin (slL F T ((tS ((tS L 0 (vp_updL (L 0) j ((((L 1 p9) + (capL F T p9)) + (L 1 q9)) + (capL F T q9))))) 1 (vp_updL (L 1) j ((((L 1 p9) + (capL F T p9)) + (L 1 q9)) + (capL F T q9))))) p9) (slL F T ((tS ((tS L 0 (vp_updL (L 0) j ((((L 1 p9) + (capL F T p9)) + (L 1 q9)) + (capL F T q9))))) 1 (vp_updL (L 1) j ((((L 1 p9) + (capL F T p9)) + (L 1 q9)) + (capL F T q9))))) q9))))) F bs) C hH 22 gX_22 (by omega) (by decide) sX_22 dX0_weighJoin_87 (fun H locs hH => ?_)
  refine lv_iload_n C.1 C.2.1 dX0_weighJoin_88 rfl (lv_at hl 5 rfl) ?_
  refine lv_if_eq (tgt := 121) C.1 C.2.1 dX0_weighJoin_89 (by decide) (fun c_1 => ?_) (fun c_1 => ?_)
  · rw [xb_0] at c_1
    have hH := x_eqw (w' := wX G a S T (wjL F T L j p9 q9 hb) F bs) (by first | (rw [wjL, if_pos c_1]; rfl) | (rw [wjL, if_neg c_1]; rfl)) hH
    exact hE _ _ _ _ hH dX0_weighJoin_121
  · rw [xb_0] at c_1
    have c_1 := Classical.not_not.mp c_1
    refine lv_aload_n C.1 C.2.1 dX0_weighJoin_92 rfl (lv_at hl 2 rfl) ?_
    refine x_get (C := RX0) (T := TX0) (N := 10) (v := .ref (a 21)) C inX0 hH 19 gX_19 rfl 1 (by decide) rfl rfl 4 rfl dX0_weighJoin_93 ?_
    refine lv_iload_n C.1 C.2.1 dX0_weighJoin_96 rfl (lv_at hl 4 rfl) ?_
    refine lv_ldc2 C.1 C.2.1 C.2.2.1 (C.2.2.2.1 _ (List.mem_of_getElem? (i := 10) rfl)) dX0_weighJoin_97 ?_
    refine lv_aload_n C.1 C.2.1 dX0_weighJoin_100 rfl (lv_at hl 2 rfl) ?_
    refine x_get (C := RX0) (T := TX0) (N := 10) (v := .int (F 9)) C inX0 hH 19 gX_19 rfl 5 (by decide) rfl rfl 11 rfl dX0_weighJoin_101 ?_
    refine lv_i2l C.1 C.2.1 dX0_weighJoin_104 rfl ?_
    refine lv_lmul C.1 C.2.1 dX0_weighJoin_105 ?_
    refine x_last (f := vp_updL (L 1) j ((((L 1 p9) + (capL F T p9)) + (L 1 q9)) + (capL F T q9))) (j := j) (x := 1024 * ((F 9).toInt64)) (w' := wX G a S T ((tS ((tS ((tS L 0 (vp_updL (L 0) j ((((L 1 p9) + (capL F T p9)) + (L 1 q9)) + (capL F T q9))))) 2 (vp_updL (L 2) j (lmin (slL F T ((tS ((tS L 0 (vp_updL (L 0) j ((((L 1 p9) + (capL F T p9)) + (L 1 q9)) + (capL F T q9))))) 1 (vp_updL (L 1) j ((((L 1 p9) + (capL F T p9)) + (L 1 q9)) + (capL F T q9))))) p9) (slL F T ((tS ((tS L 0 (vp_updL (L 0) j ((((L 1 p9) + (capL F T p9)) + (L 1 q9)) + (capL F T q9))))) 1 (vp_updL (L 1) j ((((L 1 p9) + (capL F T p9)) + (L 1 q9)) + (capL F T q9))))) q9))))) 1 (vp_updL (vp_updL (L 1) j ((((L 1 p9) + (capL F T p9)) + (L 1 q9)) + (capL F T q9))) j (1024 * ((F 9).toInt64))))) F bs) C hH 21 gX_21 (by omega) (by decide) sX_21 dX0_weighJoin_106 (fun H locs hH => ?_)
    refine lv_aload_n C.1 C.2.1 dX0_weighJoin_107 rfl (lv_at hl 2 rfl) ?_
    refine x_get (C := RX0) (T := TX0) (N := 10) (v := .ref (a 22)) C inX0 hH 19 gX_19 rfl 2 (by decide) rfl rfl 5 rfl dX0_weighJoin_108 ?_
    refine lv_iload_n C.1 C.2.1 dX0_weighJoin_111 rfl (lv_at hl 4 rfl) ?_
    refine lv_dup2_11 C.1 C.2.1 dX0_weighJoin_112 rfl rfl ?_
    refine x_lald (f := vp_updL (L 2) j (lmin (slL F T ((tS ((tS L 0 (vp_updL (L 0) j ((((L 1 p9) + (capL F T p9)) + (L 1 q9)) + (capL F T q9))))) 1 (vp_updL (L 1) j ((((L 1 p9) + (capL F T p9)) + (L 1 q9)) + (capL F T q9))))) p9) (slL F T ((tS ((tS L 0 (vp_updL (L 0) j ((((L 1 p9) + (capL F T p9)) + (L 1 q9)) + (capL F T q9))))) 1 (vp_updL (L 1) j ((((L 1 p9) + (capL F T p9)) + (L 1 q9)) + (capL F T q9))))) q9))) (j := j) (v := lmin (slL F T ((tS ((tS L 0 (vp_updL (L 0) j ((((L 1 p9) + (capL F T p9)) + (L 1 q9)) + (capL F T q9))))) 1 (vp_updL (L 1) j ((((L 1 p9) + (capL F T p9)) + (L 1 q9)) + (capL F T q9))))) p9) (slL F T ((tS ((tS L 0 (vp_updL (L 0) j ((((L 1 p9) + (capL F T p9)) + (L 1 q9)) + (capL F T q9))))) 1 (vp_updL (L 1) j ((((L 1 p9) + (capL F T p9)) + (L 1 q9)) + (capL F T q9))))) q9)) C hH 22 gX_22 (by omega) (by decide) (pk_uLs) dX0_weighJoin_113 ?_
    refine lv_aload_n C.1 C.2.1 dX0_weighJoin_114 rfl (lv_at hl 2 rfl) ?_
    refine lv_iload_n C.1 C.2.1 dX0_weighJoin_115 rfl (lv_at hl 4 rfl) ?_
    refine x_cl (w' := wX G a S T ((tS ((tS ((tS L 0 (vp_updL (L 0) j ((((L 1 p9) + (capL F T p9)) + (L 1 q9)) + (capL F T q9))))) 2 (vp_updL (L 2) j (lmin (slL F T ((tS ((tS L 0 (vp_updL (L 0) j ((((L 1 p9) + (capL F T p9)) + (L 1 q9)) + (capL F T q9))))) 1 (vp_updL (L 1) j ((((L 1 p9) + (capL F T p9)) + (L 1 q9)) + (capL F T q9))))) p9) (slL F T ((tS ((tS L 0 (vp_updL (L 0) j ((((L 1 p9) + (capL F T p9)) + (L 1 q9)) + (capL F T q9))))) 1 (vp_updL (L 1) j ((((L 1 p9) + (capL F T p9)) + (L 1 q9)) + (capL F T q9))))) q9))))) 1 (vp_updL (vp_updL (L 1) j ((((L 1 p9) + (capL F T p9)) + (L 1 q9)) + (capL F T q9))) j (1024 * ((F 9).toInt64))))) F bs) (va_runV (As := [.int (nI j)]) (rest := [.long (lmin (slL F T ((tS ((tS L 0 (vp_updL (L 0) j ((((L 1 p9) + (capL F T p9)) + (L 1 q9)) + (capL F T q9))))) 1 (vp_updL (L 1) j ((((L 1 p9) + (capL F T p9)) + (L 1 q9)) + (capL F T q9))))) p9) (slL F T ((tS ((tS L 0 (vp_updL (L 0) j ((((L 1 p9) + (capL F T p9)) + (L 1 q9)) + (capL F T q9))))) 1 (vp_updL (L 1) j ((((L 1 p9) + (capL F T p9)) + (L 1 q9)) + (capL F T q9))))) q9)), .int (nI j), .ref (a 22)]) (x_fix C hml) (c_X0_bufferDelay l G a S T ((tS ((tS ((tS L 0 (vp_updL (L 0) j ((((L 1 p9) + (capL F T p9)) + (L 1 q9)) + (capL F T q9))))) 2 (vp_updL (L 2) j (lmin (slL F T ((tS ((tS L 0 (vp_updL (L 0) j ((((L 1 p9) + (capL F T p9)) + (L 1 q9)) + (capL F T q9))))) 1 (vp_updL (L 1) j ((((L 1 p9) + (capL F T p9)) + (L 1 q9)) + (capL F T q9))))) p9) (slL F T ((tS ((tS L 0 (vp_updL (L 0) j ((((L 1 p9) + (capL F T p9)) + (L 1 q9)) + (capL F T q9))))) 1 (vp_updL (L 1) j ((((L 1 p9) + (capL F T p9)) + (L 1 q9)) + (capL F T q9))))) q9))))) 1 (vp_updL (vp_updL (L 1) j ((((L 1 p9) + (capL F T p9)) + (L 1 q9)) + (capL F T q9))) j (1024 * ((F 9).toInt64))))) F bs j (by omega) _) (cwV 1 C.2.2.2.1 gX0_weighJoin_X0_bufferDelay rfl rfl rfl (by decide +kernel) ⟨Nat.le_of_ble_eq_true rfl, Nat.le_of_ble_eq_true rfl⟩) (x_pv C hH rfl gX_19 rfl rfl) rfl rfl hl.1 rfl (lv_room (Nat.le_of_ble_eq_true rfl)) dX0_weighJoin_116 ⟨Nat.le_of_ble_eq_true rfl, Nat.le_of_ble_eq_true rfl⟩) hH hA (fun H locs hH => ?_)
    refine lv_lsub C.1 C.2.1 dX0_weighJoin_119 ?_
    refine x_last (f := vp_updL (L 2) j (lmin (slL F T ((tS ((tS L 0 (vp_updL (L 0) j ((((L 1 p9) + (capL F T p9)) + (L 1 q9)) + (capL F T q9))))) 1 (vp_updL (L 1) j ((((L 1 p9) + (capL F T p9)) + (L 1 q9)) + (capL F T q9))))) p9) (slL F T ((tS ((tS L 0 (vp_updL (L 0) j ((((L 1 p9) + (capL F T p9)) + (L 1 q9)) + (capL F T q9))))) 1 (vp_updL (L 1) j ((((L 1 p9) + (capL F T p9)) + (L 1 q9)) + (capL F T q9))))) q9))) (j := j) (x := (lmin (slL F T ((tS ((tS L 0 (vp_updL (L 0) j ((((L 1 p9) + (capL F T p9)) + (L 1 q9)) + (capL F T q9))))) 1 (vp_updL (L 1) j ((((L 1 p9) + (capL F T p9)) + (L 1 q9)) + (capL F T q9))))) p9) (slL F T ((tS ((tS L 0 (vp_updL (L 0) j ((((L 1 p9) + (capL F T p9)) + (L 1 q9)) + (capL F T q9))))) 1 (vp_updL (L 1) j ((((L 1 p9) + (capL F T p9)) + (L 1 q9)) + (capL F T q9))))) q9)) - (bdL F ((tS ((tS ((tS L 0 (vp_updL (L 0) j ((((L 1 p9) + (capL F T p9)) + (L 1 q9)) + (capL F T q9))))) 2 (vp_updL (L 2) j (lmin (slL F T ((tS ((tS L 0 (vp_updL (L 0) j ((((L 1 p9) + (capL F T p9)) + (L 1 q9)) + (capL F T q9))))) 1 (vp_updL (L 1) j ((((L 1 p9) + (capL F T p9)) + (L 1 q9)) + (capL F T q9))))) p9) (slL F T ((tS ((tS L 0 (vp_updL (L 0) j ((((L 1 p9) + (capL F T p9)) + (L 1 q9)) + (capL F T q9))))) 1 (vp_updL (L 1) j ((((L 1 p9) + (capL F T p9)) + (L 1 q9)) + (capL F T q9))))) q9))))) 1 (vp_updL (vp_updL (L 1) j ((((L 1 p9) + (capL F T p9)) + (L 1 q9)) + (capL F T q9))) j (1024 * ((F 9).toInt64))))) j)) (w' := wX G a S T ((tS ((tS ((tS L 0 (vp_updL (L 0) j ((((L 1 p9) + (capL F T p9)) + (L 1 q9)) + (capL F T q9))))) 1 (vp_updL (vp_updL (L 1) j ((((L 1 p9) + (capL F T p9)) + (L 1 q9)) + (capL F T q9))) j (1024 * ((F 9).toInt64))))) 2 (vp_updL (vp_updL (L 2) j (lmin (slL F T ((tS ((tS L 0 (vp_updL (L 0) j ((((L 1 p9) + (capL F T p9)) + (L 1 q9)) + (capL F T q9))))) 1 (vp_updL (L 1) j ((((L 1 p9) + (capL F T p9)) + (L 1 q9)) + (capL F T q9))))) p9) (slL F T ((tS ((tS L 0 (vp_updL (L 0) j ((((L 1 p9) + (capL F T p9)) + (L 1 q9)) + (capL F T q9))))) 1 (vp_updL (L 1) j ((((L 1 p9) + (capL F T p9)) + (L 1 q9)) + (capL F T q9))))) q9))) j ((lmin (slL F T ((tS ((tS L 0 (vp_updL (L 0) j ((((L 1 p9) + (capL F T p9)) + (L 1 q9)) + (capL F T q9))))) 1 (vp_updL (L 1) j ((((L 1 p9) + (capL F T p9)) + (L 1 q9)) + (capL F T q9))))) p9) (slL F T ((tS ((tS L 0 (vp_updL (L 0) j ((((L 1 p9) + (capL F T p9)) + (L 1 q9)) + (capL F T q9))))) 1 (vp_updL (L 1) j ((((L 1 p9) + (capL F T p9)) + (L 1 q9)) + (capL F T q9))))) q9)) - (bdL F ((tS ((tS ((tS L 0 (vp_updL (L 0) j ((((L 1 p9) + (capL F T p9)) + (L 1 q9)) + (capL F T q9))))) 2 (vp_updL (L 2) j (lmin (slL F T ((tS ((tS L 0 (vp_updL (L 0) j ((((L 1 p9) + (capL F T p9)) + (L 1 q9)) + (capL F T q9))))) 1 (vp_updL (L 1) j ((((L 1 p9) + (capL F T p9)) + (L 1 q9)) + (capL F T q9))))) p9) (slL F T ((tS ((tS L 0 (vp_updL (L 0) j ((((L 1 p9) + (capL F T p9)) + (L 1 q9)) + (capL F T q9))))) 1 (vp_updL (L 1) j ((((L 1 p9) + (capL F T p9)) + (L 1 q9)) + (capL F T q9))))) q9))))) 1 (vp_updL (vp_updL (L 1) j ((((L 1 p9) + (capL F T p9)) + (L 1 q9)) + (capL F T q9))) j (1024 * ((F 9).toInt64))))) j))))) F bs) C hH 22 gX_22 (by omega) (by decide) sX_22 dX0_weighJoin_120 (fun H locs hH => ?_)
    have hH := x_eqw (w' := wX G a S T (wjL F T L j p9 q9 hb) F bs) (by first | (rw [wjL, if_pos c_1]; rfl) | (rw [wjL, if_neg c_1]; rfl)) hH
    exact hE _ _ _ _ hH dX0_weighJoin_121
set_option maxHeartbeats 400000 in
set_option maxRecDepth 100000 in
theorem c_X0_weigh (l : Launch) (G : xG) (a : Nat → Nat) (S T : Nat → Nat → Int32) (L : Nat → Nat → Int64) (F : Nat → Int32) (bs : Int64) (v : Int32) (lc rc : Nat → Nat) (lv nd : Nat) (h5 : F 5 = nI lv) (h6 : F 6 = nI nd) (h1 : 1 ≤ lv) (hl9 : lv ≤ nd) (hl10 : lv ≤ 10) (hn : nd ≤ 19) (hPQ : ∀ i, lv ≤ i → i < nd → T 0 i = nI (lc i) ∧ T 1 i = nI (rc i) ∧ lc i < 19 ∧ rc i < 19) : xMv l yX0_weigh wsX0_weigh { frames := 4, cells := 0, slots := 0, locals := 91 } [.ref (a 19), .ref (a 6), .ref (a 1), .int v] G (wX G a S T L F bs) (wX G a S T (wgF F T lc rc lv v (nd - lv) lv (wsF S lv 0 L)) F bs) 0 0 := by
  refine x_ofv (cc := cX0_weigh) (maxL := 5) (by decide) rfl (Nat.le_of_ble_eq_true rfl) ?_
  intro p e s m args below meth c ls A Q C hml hA hH hl hE
  have hl : lv_has ls 5 [(0, .ref (a 19)), (1, .ref (a 6)), (2, .ref (a 1)), (3, .int v)] := hl
  have inX2 : ∀ w ∈ wsX20, w ∈ wsX0_weigh := fun _ h => (List.mem_cons_of_mem _ (List.mem_append_left _ (List.mem_append_left _ (List.mem_append_right _ h))))
  refine lv_aload_n C.1 C.2.1 dX0_weigh_0 rfl (lv_at hl 0 rfl) ?_
  refine lv_aload_n C.1 C.2.1 dX0_weigh_1 rfl (lv_at hl 1 rfl) ?_
  refine lv_aload_n C.1 C.2.1 dX0_weigh_2 rfl (lv_at hl 2 rfl) ?_
  refine x_cv (w' := wX G a S T (wsF S lv 0 L) F bs) (va_runV (As := [.ref (a 6), .ref (a 1)]) (rest := []) (x_fix C hml) (c_X0_weighSinks l G a S T L F bs lv h5 (by omega) _) (cwV 2 C.2.2.2.1 gX0_weigh_X0_weighSinks rfl rfl rfl (by decide +kernel) ⟨Nat.le_of_ble_eq_true rfl, Nat.le_of_ble_eq_true rfl⟩) (x_pv C hH rfl gX_19 rfl rfl) rfl rfl hl.1 rfl (lv_room (Nat.le_of_ble_eq_true rfl)) dX0_weigh_3 ⟨Nat.le_of_ble_eq_true rfl, Nat.le_of_ble_eq_true rfl⟩) hH hA (fun H locs hH => ?_)
  refine lv_aload_n C.1 C.2.1 dX0_weigh_6 rfl (lv_at hl 1 rfl) ?_
  refine x_get (C := RX2) (T := TX2) (N := 14) (v := .int (F 5)) C inX2 hH 6 gX_6 rfl 12 (by decide) rfl rfl 1 rfl dX0_weigh_7 ?_
  refine x_toi h5 ?_
  refine lv_istore (lv' := [(4, .int (nI lv)), (0, .ref (a 19)), (1, .ref (a 6)), (2, .ref (a 1)), (3, .int v)]) C.1 C.2.1 dX0_weigh_10 hl (by decide) rfl (fun ls hl => ?_)
  have lp : ∀ (n : Nat) (i : Nat) (L1 : Nat → Nat → Int64) (H : Heap) (locs : List Loc) (ls : Array Slot), i + n = nd → lv ≤ i → wgF F T lc rc lv v n i L1 = wgF F T lc rc lv v (nd - lv) lv (wsF S lv 0 L) → xH G A s.heap H locs (wX G a S T L1 F bs) → lv_has ls 5 [(0, .ref (a 19)), (1, .ref (a 6)), (2, .ref (a 1)), (3, .int v), (4, .int (nI i))] → W p l e ({ frames := 4, cells := 0, slots := 0, locals := 91 }) s m args below meth c H locs 0 0 Q (F0 m 12 ls []) := by
    intro n
    induction n with
    | zero =>
      intro i L1 H locs ls hin hli hf hH hl
      refine lv_iload C.1 C.2.1 dX0_weigh_12 (lv_at hl 4 rfl) ?_
      refine lv_aload_n C.1 C.2.1 dX0_weigh_14 rfl (lv_at hl 1 rfl) ?_
      refine x_get (C := RX2) (T := TX2) (N := 14) (v := .int (F 6)) C inX2 hH 6 gX_6 rfl 13 (by decide) rfl rfl 2 rfl dX0_weigh_15 ?_
      refine x_toi h6 ?_
      refine lv_icmp_ge (tgt := 50) C.1 C.2.1 dX0_weigh_18 (by decide) (fun _ => ?_) (fun c_1 => absurd ((nI_leI (a := nd) (b := i) (by omega) (by omega)).mpr (by omega)) c_1)
      have hH := x_eqw (w' := wX G a S T (wgF F T lc rc lv v (nd - lv) lv (wsF S lv 0 L)) F bs) (by rw [← hf]; rfl) hH
      exact hE _ _ _ _ hH dX0_weigh_50
    | succ n ih12 =>
      intro i L1 H locs ls hin hli hf hH hl
      refine lv_iload C.1 C.2.1 dX0_weigh_12 (lv_at hl 4 rfl) ?_
      refine lv_aload_n C.1 C.2.1 dX0_weigh_14 rfl (lv_at hl 1 rfl) ?_
      refine x_get (C := RX2) (T := TX2) (N := 14) (v := .int (F 6)) C inX2 hH 6 gX_6 rfl 13 (by decide) rfl rfl 2 rfl dX0_weigh_15 ?_
      refine x_toi h6 ?_
      refine lv_icmp_ge (tgt := 50) C.1 C.2.1 dX0_weigh_18 (by decide) (fun c_2 => absurd ((nI_leI (a := nd) (b := i) (by omega) (by omega)).mp c_2) (by omega)) (fun _ => ?_)
      refine lv_aload_n C.1 C.2.1 dX0_weigh_21 rfl (lv_at hl 0 rfl) ?_
      refine lv_aload_n C.1 C.2.1 dX0_weigh_22 rfl (lv_at hl 1 rfl) ?_
      refine lv_iload C.1 C.2.1 dX0_weigh_23 (lv_at hl 4 rfl) ?_
      refine lv_iload_n C.1 C.2.1 dX0_weigh_25 rfl (lv_at hl 3 rfl) ?_
      refine lv_aload_n C.1 C.2.1 dX0_weigh_26 rfl (lv_at hl 1 rfl) ?_
      refine lv_iload C.1 C.2.1 dX0_weigh_27 (lv_at hl 4 rfl) ?_
      refine x_ci (w' := wX G a S T L1 F bs) (va_runV (As := [.int (nI i)]) (rest := [.int v, .int (nI i), .ref (a 6), .ref (a 19)]) (x_fix C hml) (c_X2_bitOf l G a S T L1 F bs (i) (lv) h5 (by omega) _) (cwV 1 C.2.2.2.1 gX0_weigh_X2_bitOf rfl rfl rfl (by decide +kernel) ⟨Nat.le_of_ble_eq_true rfl, Nat.le_of_ble_eq_true rfl⟩) (x_pv C hH rfl gX_6 rfl rfl) rfl rfl hl.1 rfl (lv_room (Nat.le_of_ble_eq_true rfl)) dX0_weigh_29 ⟨Nat.le_of_ble_eq_true rfl, Nat.le_of_ble_eq_true rfl⟩) hH hA (fun H locs hH => ?_)
      refine lv_iand C.1 C.2.1 dX0_weigh_32 ?_
      refine x_mrg (g := F0 m 0 ls []) (pc2 := 41) (v := xb (hasB v (i - lv) = true)) (st := [.int (nI i), .ref (a 6), .ref (a 19)]) ?_ (fun hm_4 => ?_)
      · refine x_cv (w' := wX G a S T (wjL F T L1 i (lc i) (rc i) (hasB v (i - lv))) F bs) (va_runV (As := [.ref (a 6), .int (nI i), .int (xb (hasB v (i - lv) = true))]) (rest := []) (x_fix C hml) (c_X0_weighJoin l G a S T L1 F bs i (lc i) (rc i) (hasB v (i - lv)) (hPQ i (by omega) (by omega)).1 (hPQ i (by omega) (by omega)).2.1 (by omega) (hPQ i (by omega) (by omega)).2.2.1 (hPQ i (by omega) (by omega)).2.2.2 _) (cwV 3 C.2.2.2.1 gX0_weigh_X0_weighJoin rfl rfl rfl (by decide +kernel) ⟨Nat.le_of_ble_eq_true rfl, Nat.le_of_ble_eq_true rfl⟩) (x_pv C hH rfl gX_19 rfl rfl) rfl rfl hl.1 rfl (lv_room (Nat.le_of_ble_eq_true rfl)) dX0_weigh_41 ⟨Nat.le_of_ble_eq_true rfl, Nat.le_of_ble_eq_true rfl⟩) hH hA (fun H locs hH => ?_)
        refine lv_iinc (v := nI (i + 1)) (lv' := [(4, .int (nI (i + 1))), (0, .ref (a 19)), (1, .ref (a 6)), (2, .ref (a 1)), (3, .int v)]) C.1 C.2.1 dX0_weigh_44 hl (k := 4) rfl (nI_add i 1) (by decide) rfl (fun ls hl => ?_)
        refine lv_goto (tgt := 12) C.1 C.2.1 dX0_weigh_47 (by decide) ?_
        exact ih12 (i + 1) (wjL F T L1 i (lc i) (rc i) (hasB v (i - lv))) _ _ _ (by omega) (by omega) (hf) hH (lv_sub hl [1, 2, 3, 4, 0] rfl)
      · refine lv_if_eq (tgt := 40) C.1 C.2.1 dX0_weigh_33 (by decide) (fun c_5 => ?_) (fun c_5 => ?_)
        · refine lv_iconst (v := nI 0) C.1 C.2.1 dX0_weigh_40 (by decide) ?_
          exact x_toi (by first | exact hasB_t c_5 | exact hasB_f c_5) hm_4
        · refine lv_iconst (v := nI 1) C.1 C.2.1 dX0_weigh_36 (by decide) ?_
          refine lv_goto (tgt := 41) C.1 C.2.1 dX0_weigh_37 (by decide) ?_
          exact x_toi (by first | exact hasB_t c_5 | exact hasB_f c_5) hm_4
  exact lp (nd - lv) lv (wsF S lv 0 L) _ _ _ (by omega) (by omega) (rfl) hH (lv_sub hl [1, 2, 3, 4, 0] rfl)
set_option maxHeartbeats 400000 in
set_option maxRecDepth 100000 in
theorem c_X0_delayTo (l : Launch) (G : xG) (a : Nat → Nat) (S T : Nat → Nat → Int32) (L : Nat → Nat → Int64) (F : Nat → Int32) (bs : Int64) (k : Nat) (v : Int32) (lv nd : Nat) (h5 : F 5 = nI lv) (h6 : F 6 = nI nd) (hl9 : lv ≤ nd) (hn : nd ≤ 19) (hk : k < 19) : xMl l yX0_delayTo wsX0_delayTo { frames := 2, cells := 0, slots := 0, locals := 44 } [.ref (a 19), .ref (a 6), .int (nI k), .int v] G (wX G a S T L F bs) (dlF F T L lv v (nd - lv) lv k (wdL F T L k)) (wX G a S T L F bs) 0 0 := by
  refine x_ofl (cc := cX0_delayTo) (maxL := 8) (by decide) rfl (Nat.le_of_ble_eq_true rfl) ?_
  intro p e s m args below meth c ls A Q C hml hA hH hl hE
  have hl : lv_has ls 8 [(0, .ref (a 19)), (1, .ref (a 6)), (2, .int (nI k)), (3, .int v)] := hl
  have inX2 : ∀ w ∈ wsX20, w ∈ wsX0_delayTo := fun _ h => (List.mem_cons_of_mem _ (List.mem_append_left _ (List.mem_append_right _ h)))
  refine lv_iload_n C.1 C.2.1 dX0_delayTo_0 rfl (lv_at hl 2 rfl) ?_
  refine lv_istore (lv' := [(4, .int (nI k)), (0, .ref (a 19)), (1, .ref (a 6)), (2, .int (nI k)), (3, .int v)]) C.1 C.2.1 dX0_delayTo_1 hl (by decide) rfl (fun ls hl => ?_)
  refine lv_aload_n C.1 C.2.1 dX0_delayTo_3 rfl (lv_at hl 1 rfl) ?_
  refine lv_aload_n C.1 C.2.1 dX0_delayTo_4 rfl (lv_at hl 2 rfl) ?_
  refine lv_iload_n C.1 C.2.1 dX0_delayTo_5 rfl (lv_at hl 3 rfl) ?_
  refine x_cl (w' := wX G a S T L F bs) (va_runV (As := [.ref (a 6), .int (nI k)]) (rest := []) (x_fix C hml) (c_X0_wireDelay l G a S T L F bs k (by omega) _) (cwV 2 C.2.2.2.1 gX0_delayTo_X0_wireDelay rfl rfl rfl (by decide +kernel) ⟨Nat.le_of_ble_eq_true rfl, Nat.le_of_ble_eq_true rfl⟩) (x_pv C hH rfl gX_19 rfl rfl) rfl rfl hl.1 rfl (lv_room (Nat.le_of_ble_eq_true rfl)) dX0_delayTo_6 ⟨Nat.le_of_ble_eq_true rfl, Nat.le_of_ble_eq_true rfl⟩) hH hA (fun H locs hH => ?_)
  refine lv_lstore (lv' := [(5, .long (wdL F T L k)), (4, .int (nI k)), (0, .ref (a 19)), (1, .ref (a 6)), (2, .int (nI k)), (3, .int v)]) C.1 C.2.1 dX0_delayTo_9 hl (by decide) rfl (fun ls hl => ?_)
  refine lv_aload_n C.1 C.2.1 dX0_delayTo_11 rfl (lv_at hl 3 rfl) ?_
  refine x_get (C := RX2) (T := TX2) (N := 14) (v := .int (F 5)) C inX2 hH 6 gX_6 rfl 12 (by decide) rfl rfl 1 rfl dX0_delayTo_12 ?_
  refine x_toi h5 ?_
  refine lv_istore (lv' := [(7, .int (nI lv)), (5, .long (wdL F T L k)), (4, .int (nI k)), (0, .ref (a 19)), (1, .ref (a 6)), (2, .int (nI k)), (3, .int v)]) C.1 C.2.1 dX0_delayTo_15 hl (by decide) rfl (fun ls hl => ?_)
  have lp : ∀ (n : Nat) (j : Nat) (q : Nat) (x : Int64) (H : Heap) (locs : List Loc) (ls : Array Slot), j + n = nd → lv ≤ j → q < 19 → dlF F T L lv v n j q x = dlF F T L lv v (nd - lv) lv k (wdL F T L k) → xH G A s.heap H locs (wX G a S T L F bs) → lv_has ls 8 [(0, .ref (a 19)), (1, .ref (a 6)), (2, .int (nI k)), (3, .int v), (4, .int (nI q)), (5, .long x), (7, .int (nI j))] → W p l e ({ frames := 2, cells := 0, slots := 0, locals := 44 }) s m args below meth c H locs 0 0 Q (F0 m 17 ls []) := by
    intro n
    induction n with
    | zero =>
      intro j q x H locs ls hin hlj hq hf hH hl
      refine lv_iload C.1 C.2.1 dX0_delayTo_17 (lv_at hl 6 rfl) ?_
      refine lv_aload_n C.1 C.2.1 dX0_delayTo_19 rfl (lv_at hl 1 rfl) ?_
      refine x_get (C := RX2) (T := TX2) (N := 14) (v := .int (F 6)) C inX2 hH 6 gX_6 rfl 13 (by decide) rfl rfl 2 rfl dX0_delayTo_20 ?_
      refine x_toi h6 ?_
      refine lv_icmp_ge (tgt := 86) C.1 C.2.1 dX0_delayTo_23 (by decide) (fun _ => ?_) (fun c_1 => absurd ((nI_leI (a := nd) (b := j) (by omega) (by omega)).mpr (by omega)) c_1)
      refine lv_lload C.1 C.2.1 dX0_delayTo_86 (lv_at hl 5 rfl) ?_
      exact hE _ _ _ _ _ hH (hf) dX0_delayTo_88
    | succ n ih17 =>
      intro j q x H locs ls hin hlj hq hf hH hl
      refine lv_iload C.1 C.2.1 dX0_delayTo_17 (lv_at hl 6 rfl) ?_
      refine lv_aload_n C.1 C.2.1 dX0_delayTo_19 rfl (lv_at hl 1 rfl) ?_
      refine x_get (C := RX2) (T := TX2) (N := 14) (v := .int (F 6)) C inX2 hH 6 gX_6 rfl 13 (by decide) rfl rfl 2 rfl dX0_delayTo_20 ?_
      refine x_toi h6 ?_
      refine lv_icmp_ge (tgt := 86) C.1 C.2.1 dX0_delayTo_23 (by decide) (fun c_2 => absurd ((nI_leI (a := nd) (b := j) (by omega) (by omega)).mp c_2) (by omega)) (fun _ => ?_)
      refine lv_aload_n C.1 C.2.1 dX0_delayTo_26 rfl (lv_at hl 1 rfl) ?_
      refine x_get (C := RX2) (T := TX2) (N := 14) (v := .ref (a 9)) C inX2 hH 6 gX_6 rfl 2 (by decide) rfl rfl 3 rfl dX0_delayTo_27 ?_
      refine lv_iload C.1 C.2.1 dX0_delayTo_30 (lv_at hl 4 rfl) ?_
      refine x_iald (f := T 2) (j := q) (v := T 2 q) C hH 9 gX_9 (by omega) (by decide) (rfl) dX0_delayTo_32 ?_
      refine lv_iload C.1 C.2.1 dX0_delayTo_33 (lv_at hl 6 rfl) ?_
      refine lv_icmp_ne (tgt := 80) C.1 C.2.1 dX0_delayTo_35 (by decide) (fun c_3 => ?_) (fun c_3 => ?_)
      · refine lv_iinc (v := nI (j + 1)) (lv' := [(7, .int (nI (j + 1))), (0, .ref (a 19)), (1, .ref (a 6)), (2, .int (nI k)), (3, .int v), (4, .int (nI q)), (5, .long x)]) C.1 C.2.1 dX0_delayTo_80 hl (k := 6) rfl (nI_add j 1) (by decide) rfl (fun ls hl => ?_)
        refine lv_goto (tgt := 17) C.1 C.2.1 dX0_delayTo_83 (by decide) ?_
        exact ih17 (j + 1) q x _ _ _ (by omega) (by omega) (by omega) (by first | (rw [dlF, if_neg c_3] at hf; exact hf) | (rw [dlF, if_pos c_3, if_pos c_3] at hf; exact hf) | (rw [dlF, if_pos c_3, if_neg c_3] at hf; exact hf)) hH (lv_sub hl [1, 2, 3, 4, 5, 6, 0] rfl)
      · refine lv_iload C.1 C.2.1 dX0_delayTo_38 (lv_at hl 6 rfl) ?_
        refine lv_istore (lv' := [(4, .int (nI j)), (0, .ref (a 19)), (1, .ref (a 6)), (2, .int (nI k)), (3, .int v), (5, .long x), (7, .int (nI j))]) C.1 C.2.1 dX0_delayTo_40 hl (by decide) rfl (fun ls hl => ?_)
        refine lv_lload C.1 C.2.1 dX0_delayTo_42 (lv_at hl 5 rfl) ?_
        refine lv_aload_n C.1 C.2.1 dX0_delayTo_44 rfl (lv_at hl 1 rfl) ?_
        refine lv_aload_n C.1 C.2.1 dX0_delayTo_45 rfl (lv_at hl 2 rfl) ?_
        refine lv_iload C.1 C.2.1 dX0_delayTo_46 (lv_at hl 6 rfl) ?_
        refine x_cl (w' := wX G a S T L F bs) (va_runV (As := [.ref (a 6), .int (nI j)]) (rest := [.long x]) (x_fix C hml) (c_X0_wireDelay l G a S T L F bs j (by omega) _) (cwV 2 C.2.2.2.1 gX0_delayTo_X0_wireDelay rfl rfl rfl (by decide +kernel) ⟨Nat.le_of_ble_eq_true rfl, Nat.le_of_ble_eq_true rfl⟩) (x_pv C hH rfl gX_19 rfl rfl) rfl rfl hl.1 rfl (lv_room (Nat.le_of_ble_eq_true rfl)) dX0_delayTo_48 ⟨Nat.le_of_ble_eq_true rfl, Nat.le_of_ble_eq_true rfl⟩) hH hA (fun H locs hH => ?_)
        refine lv_ladd C.1 C.2.1 dX0_delayTo_51 ?_
        refine lv_lstore (lv' := [(5, .long (x + (wdL F T L j))), (4, .int (nI j)), (0, .ref (a 19)), (1, .ref (a 6)), (2, .int (nI k)), (3, .int v), (7, .int (nI j))]) C.1 C.2.1 dX0_delayTo_52 hl (by decide) rfl (fun ls hl => ?_)
        refine lv_lload C.1 C.2.1 dX0_delayTo_54 (lv_at hl 0 rfl) ?_
        refine lv_iload_n C.1 C.2.1 dX0_delayTo_56 rfl (lv_at hl 5 rfl) ?_
        refine lv_aload_n C.1 C.2.1 dX0_delayTo_57 rfl (lv_at hl 3 rfl) ?_
        refine lv_iload C.1 C.2.1 dX0_delayTo_58 (lv_at hl 6 rfl) ?_
        refine x_ci (w' := wX G a S T L F bs) (va_runV (As := [.int (nI j)]) (rest := [.int v, .long (x + (wdL F T L j))]) (x_fix C hml) (c_X2_bitOf l G a S T L F bs (j) (lv) h5 (by omega) _) (cwV 1 C.2.2.2.1 gX0_delayTo_X2_bitOf rfl rfl rfl (by decide +kernel) ⟨Nat.le_of_ble_eq_true rfl, Nat.le_of_ble_eq_true rfl⟩) (x_pv C hH rfl gX_6 rfl rfl) rfl rfl hl.1 rfl (lv_room (Nat.le_of_ble_eq_true rfl)) dX0_delayTo_60 ⟨Nat.le_of_ble_eq_true rfl, Nat.le_of_ble_eq_true rfl⟩) hH hA (fun H locs hH => ?_)
        refine lv_iand C.1 C.2.1 dX0_delayTo_63 ?_
        refine lv_if_eq (tgt := 76) C.1 C.2.1 dX0_delayTo_64 (by decide) (fun c_4 => ?_) (fun c_4 => ?_)
        · refine lv_lconst (v := 0) C.1 C.2.1 dX0_delayTo_76 (by decide) ?_
          refine lv_ladd C.1 C.2.1 dX0_delayTo_77 ?_
          refine lv_lstore (lv' := [(5, .long ((x + (wdL F T L j)) + 0)), (4, .int (nI j)), (0, .ref (a 19)), (1, .ref (a 6)), (2, .int (nI k)), (3, .int v), (7, .int (nI j))]) C.1 C.2.1 dX0_delayTo_78 hl (by decide) rfl (fun ls hl => ?_)
          refine lv_iinc (v := nI (j + 1)) (lv' := [(7, .int (nI (j + 1))), (5, .long ((x + (wdL F T L j)) + 0)), (4, .int (nI j)), (0, .ref (a 19)), (1, .ref (a 6)), (2, .int (nI k)), (3, .int v)]) C.1 C.2.1 dX0_delayTo_80 hl (k := 6) rfl (nI_add j 1) (by decide) rfl (fun ls hl => ?_)
          refine lv_goto (tgt := 17) C.1 C.2.1 dX0_delayTo_83 (by decide) ?_
          exact ih17 (j + 1) j ((x + (wdL F T L j)) + 0) _ _ _ (by omega) (by omega) (by omega) (by first | (rw [dlF, if_neg c_3] at hf; exact hf) | (rw [dlF, if_pos c_3, if_pos c_4] at hf; exact hf) | (rw [dlF, if_pos c_3, if_neg c_4] at hf; exact hf)) hH (lv_sub hl [3, 4, 5, 6, 2, 1, 0] rfl)
        · refine lv_aload_n C.1 C.2.1 dX0_delayTo_67 rfl (lv_at hl 2 rfl) ?_
          refine lv_iload C.1 C.2.1 dX0_delayTo_68 (lv_at hl 6 rfl) ?_
          refine x_cl (w' := wX G a S T L F bs) (va_runV (As := [.int (nI j)]) (rest := [.long (x + (wdL F T L j))]) (x_fix C hml) (c_X0_bufferDelay l G a S T L F bs j (by omega) _) (cwV 1 C.2.2.2.1 gX0_delayTo_X0_bufferDelay rfl rfl rfl (by decide +kernel) ⟨Nat.le_of_ble_eq_true rfl, Nat.le_of_ble_eq_true rfl⟩) (x_pv C hH rfl gX_19 rfl rfl) rfl rfl hl.1 rfl (lv_room (Nat.le_of_ble_eq_true rfl)) dX0_delayTo_70 ⟨Nat.le_of_ble_eq_true rfl, Nat.le_of_ble_eq_true rfl⟩) hH hA (fun H locs hH => ?_)
          refine lv_goto (tgt := 77) C.1 C.2.1 dX0_delayTo_73 (by decide) ?_
          refine lv_ladd C.1 C.2.1 dX0_delayTo_77 ?_
          refine lv_lstore (lv' := [(5, .long ((x + (wdL F T L j)) + (bdL F L j))), (4, .int (nI j)), (0, .ref (a 19)), (1, .ref (a 6)), (2, .int (nI k)), (3, .int v), (7, .int (nI j))]) C.1 C.2.1 dX0_delayTo_78 hl (by decide) rfl (fun ls hl => ?_)
          refine lv_iinc (v := nI (j + 1)) (lv' := [(7, .int (nI (j + 1))), (5, .long ((x + (wdL F T L j)) + (bdL F L j))), (4, .int (nI j)), (0, .ref (a 19)), (1, .ref (a 6)), (2, .int (nI k)), (3, .int v)]) C.1 C.2.1 dX0_delayTo_80 hl (k := 6) rfl (nI_add j 1) (by decide) rfl (fun ls hl => ?_)
          refine lv_goto (tgt := 17) C.1 C.2.1 dX0_delayTo_83 (by decide) ?_
          exact ih17 (j + 1) j ((x + (wdL F T L j)) + (bdL F L j)) _ _ _ (by omega) (by omega) (by omega) (by first | (rw [dlF, if_neg c_3] at hf; exact hf) | (rw [dlF, if_pos c_3, if_pos c_4] at hf; exact hf) | (rw [dlF, if_pos c_3, if_neg c_4] at hf; exact hf)) hH (lv_sub hl [3, 4, 5, 6, 2, 1, 0] rfl)
  exact lp (nd - lv) lv k (wdL F T L k) _ _ _ (by omega) (by omega) (by omega) (rfl) hH (lv_sub hl [3, 4, 5, 6, 2, 1, 0] rfl)
set_option maxHeartbeats 400000 in
set_option maxRecDepth 100000 in
theorem c_X0_keepIfBetter (l : Launch) (G : xG) (a : Nat → Nat) (S T : Nat → Nat → Int32) (L : Nat → Nat → Int64) (F : Nat → Int32) (bs : Int64) (bt : Int32) (x : Int64) (v : Int32) : xMv l yX0_keepIfBetter wsX0_keepIfBetter { frames := 0, cells := 0, slots := 0, locals := 0 } [.ref (a 19), .long x, .int v] G (wX G a S T L ((tS F 12 bt)) bs) (wX G a S T L ((tS F 12 ((kbF x v (bs, bt)).2))) ((kbF x v (bs, bt)).1)) 0 0 := by
  refine x_ofv (cc := cX0_keepIfBetter) (maxL := 5) (by decide) rfl (Nat.le_of_ble_eq_true rfl) ?_
  intro p e s m args below meth c ls A Q C hml hA hH hl hE
  have hl : lv_has ls 5 [(0, .ref (a 19)), (1, .long x), (3, .int v)] := hl
  have inX0 : ∀ w ∈ wsX00, w ∈ wsX0_keepIfBetter := fun _ h => (List.mem_cons_of_mem _ (List.mem_append_right _ h))
  refine lv_aload_n C.1 C.2.1 dX0_keepIfBetter_0 rfl (lv_at hl 0 rfl) ?_
  refine x_get (C := RX0) (T := TX0) (N := 10) (v := .int bt) C inX0 hH 19 gX_19 rfl 9 (by decide) rfl rfl 1 rfl dX0_keepIfBetter_1 ?_
  refine lv_iconst (v := (-1)) C.1 C.2.1 dX0_keepIfBetter_4 (by decide) ?_
  refine lv_icmp_eq (tgt := 34) C.1 C.2.1 dX0_keepIfBetter_5 (by decide) (fun c_1 => ?_) (fun c_1 => ?_)
  · refine lv_iconst (v := nI 1) C.1 C.2.1 dX0_keepIfBetter_34 (by decide) ?_
    refine lv_goto (tgt := 39) C.1 C.2.1 dX0_keepIfBetter_35 (by decide) ?_
    refine lv_istore (lv' := [(4, .int (nI 1)), (0, .ref (a 19)), (1, .long x), (3, .int v)]) C.1 C.2.1 dX0_keepIfBetter_39 hl (by decide) rfl (fun ls hl => ?_)
    refine lv_iload C.1 C.2.1 dX0_keepIfBetter_41 (lv_at hl 0 rfl) ?_
    refine lv_if_eq (tgt := 56) C.1 C.2.1 dX0_keepIfBetter_43 (by decide) (fun c_2 => absurd c_2 (by decide)) (fun _ => ?_)
    refine lv_aload_n C.1 C.2.1 dX0_keepIfBetter_46 rfl (lv_at hl 1 rfl) ?_
    refine lv_lload_n C.1 C.2.1 dX0_keepIfBetter_47 rfl (lv_at hl 2 rfl) ?_
    refine x_put (C := RX0) (T := TX0) (N := 10) (v := .long x) (w' := wX G a S T L ((tS F 12 bt)) x) C inX0 tyX0 tyX0_ok nmX0 hH 19 gX_19 rfl 8 (by decide) rfl rfl rfl rfl (Nat.le_of_ble_eq_true rfl) fX_19_8 2 rfl dX0_keepIfBetter_48 (fun H locs hH => ?_)
    refine lv_aload_n C.1 C.2.1 dX0_keepIfBetter_51 rfl (lv_at hl 1 rfl) ?_
    refine lv_iload_n C.1 C.2.1 dX0_keepIfBetter_52 rfl (lv_at hl 3 rfl) ?_
    refine x_put (C := RX0) (T := TX0) (N := 10) (v := .int v) (w' := wX G a S T L ((tS F 12 v)) x) C inX0 tyX0 tyX0_ok nmX0 hH 19 gX_19 rfl 9 (by decide) rfl rfl rfl rfl (Nat.le_of_ble_eq_true rfl) fX_19_9 1 rfl dX0_keepIfBetter_53 (fun H locs hH => ?_)
    have hH := x_eqw (w' := wX G a S T L ((tS F 12 ((kbF x v (bs, bt)).2))) ((kbF x v (bs, bt)).1)) (by first | (rw [kbF, if_pos (Or.inl c_1)]; done) | (rw [kbF, if_pos (Or.inr (Or.inl rfl))]; done) | (rw [kbF, if_pos (Or.inr (Or.inr ⟨rfl, Int32.not_le.mp rfl⟩))]; done) | (rw [kbF, if_neg (fun h => h.elim c_1 (fun h => h.elim rfl (fun h => rfl h.1)))]; done) | (rw [kbF, if_neg (fun h => h.elim c_1 (fun h => h.elim rfl (fun h => Int32.not_lt.mpr rfl h.2)))]; done)) hH
    exact hE _ _ _ _ hH dX0_keepIfBetter_56
  · refine lv_lload_n C.1 C.2.1 dX0_keepIfBetter_8 rfl (lv_at hl 1 rfl) ?_
    refine lv_aload_n C.1 C.2.1 dX0_keepIfBetter_9 rfl (lv_at hl 0 rfl) ?_
    refine x_get (C := RX0) (T := TX0) (N := 10) (v := .long bs) C inX0 hH 19 gX_19 rfl 8 (by decide) rfl rfl 2 rfl dX0_keepIfBetter_10 ?_
    refine x_lcmp_gt (tgt := 34) C.1 C.2.1 dX0_keepIfBetter_13 dX0_keepIfBetter_14 (by decide) (fun c_3 => ?_) (fun c_3 => ?_)
    · refine lv_iconst (v := nI 1) C.1 C.2.1 dX0_keepIfBetter_34 (by decide) ?_
      refine lv_goto (tgt := 39) C.1 C.2.1 dX0_keepIfBetter_35 (by decide) ?_
      refine lv_istore (lv' := [(4, .int (nI 1)), (0, .ref (a 19)), (1, .long x), (3, .int v)]) C.1 C.2.1 dX0_keepIfBetter_39 hl (by decide) rfl (fun ls hl => ?_)
      refine lv_iload C.1 C.2.1 dX0_keepIfBetter_41 (lv_at hl 0 rfl) ?_
      refine lv_if_eq (tgt := 56) C.1 C.2.1 dX0_keepIfBetter_43 (by decide) (fun c_4 => absurd c_4 (by decide)) (fun _ => ?_)
      refine lv_aload_n C.1 C.2.1 dX0_keepIfBetter_46 rfl (lv_at hl 1 rfl) ?_
      refine lv_lload_n C.1 C.2.1 dX0_keepIfBetter_47 rfl (lv_at hl 2 rfl) ?_
      refine x_put (C := RX0) (T := TX0) (N := 10) (v := .long x) (w' := wX G a S T L ((tS F 12 bt)) x) C inX0 tyX0 tyX0_ok nmX0 hH 19 gX_19 rfl 8 (by decide) rfl rfl rfl rfl (Nat.le_of_ble_eq_true rfl) fX_19_8 2 rfl dX0_keepIfBetter_48 (fun H locs hH => ?_)
      refine lv_aload_n C.1 C.2.1 dX0_keepIfBetter_51 rfl (lv_at hl 1 rfl) ?_
      refine lv_iload_n C.1 C.2.1 dX0_keepIfBetter_52 rfl (lv_at hl 3 rfl) ?_
      refine x_put (C := RX0) (T := TX0) (N := 10) (v := .int v) (w' := wX G a S T L ((tS F 12 v)) x) C inX0 tyX0 tyX0_ok nmX0 hH 19 gX_19 rfl 9 (by decide) rfl rfl rfl rfl (Nat.le_of_ble_eq_true rfl) fX_19_9 1 rfl dX0_keepIfBetter_53 (fun H locs hH => ?_)
      have hH := x_eqw (w' := wX G a S T L ((tS F 12 ((kbF x v (bs, bt)).2))) ((kbF x v (bs, bt)).1)) (by first | (rw [kbF, if_pos (Or.inl c_1)]; done) | (rw [kbF, if_pos (Or.inr (Or.inl c_3))]; done) | (rw [kbF, if_pos (Or.inr (Or.inr ⟨rfl, Int32.not_le.mp rfl⟩))]; done) | (rw [kbF, if_neg (fun h => h.elim c_1 (fun h => h.elim c_3 (fun h => rfl h.1)))]; done) | (rw [kbF, if_neg (fun h => h.elim c_1 (fun h => h.elim c_3 (fun h => Int32.not_lt.mpr rfl h.2)))]; done)) hH
      exact hE _ _ _ _ hH dX0_keepIfBetter_56
    · refine lv_lload_n C.1 C.2.1 dX0_keepIfBetter_17 rfl (lv_at hl 1 rfl) ?_
      refine lv_aload_n C.1 C.2.1 dX0_keepIfBetter_18 rfl (lv_at hl 0 rfl) ?_
      refine x_get (C := RX0) (T := TX0) (N := 10) (v := .long bs) C inX0 hH 19 gX_19 rfl 8 (by decide) rfl rfl 2 rfl dX0_keepIfBetter_19 ?_
      refine x_lcmp_ne (tgt := 38) C.1 C.2.1 dX0_keepIfBetter_22 dX0_keepIfBetter_23 (by decide) (fun c_5 => ?_) (fun c_5 => ?_)
      · refine lv_iconst (v := nI 0) C.1 C.2.1 dX0_keepIfBetter_38 (by decide) ?_
        refine lv_istore (lv' := [(4, .int (nI 0)), (0, .ref (a 19)), (1, .long x), (3, .int v)]) C.1 C.2.1 dX0_keepIfBetter_39 hl (by decide) rfl (fun ls hl => ?_)
        refine lv_iload C.1 C.2.1 dX0_keepIfBetter_41 (lv_at hl 0 rfl) ?_
        refine lv_if_eq (tgt := 56) C.1 C.2.1 dX0_keepIfBetter_43 (by decide) (fun _ => ?_) (fun c_6 => absurd (by decide) c_6)
        have hH := x_eqw (w' := wX G a S T L ((tS F 12 ((kbF x v (bs, bt)).2))) ((kbF x v (bs, bt)).1)) (by first | (rw [kbF, if_pos (Or.inl c_1)]; done) | (rw [kbF, if_pos (Or.inr (Or.inl c_3))]; done) | (rw [kbF, if_pos (Or.inr (Or.inr ⟨c_5, Int32.not_le.mp rfl⟩))]; done) | (rw [kbF, if_neg (fun h => h.elim c_1 (fun h => h.elim c_3 (fun h => c_5 h.1)))]; done) | (rw [kbF, if_neg (fun h => h.elim c_1 (fun h => h.elim c_3 (fun h => Int32.not_lt.mpr rfl h.2)))]; done)) hH
        exact hE _ _ _ _ hH dX0_keepIfBetter_56
      · refine lv_iload_n C.1 C.2.1 dX0_keepIfBetter_26 rfl (lv_at hl 2 rfl) ?_
        refine lv_aload_n C.1 C.2.1 dX0_keepIfBetter_27 rfl (lv_at hl 0 rfl) ?_
        refine x_get (C := RX0) (T := TX0) (N := 10) (v := .int bt) C inX0 hH 19 gX_19 rfl 9 (by decide) rfl rfl 1 rfl dX0_keepIfBetter_28 ?_
        refine lv_icmp_ge (tgt := 38) C.1 C.2.1 dX0_keepIfBetter_31 (by decide) (fun c_7 => ?_) (fun c_7 => ?_)
        · refine lv_iconst (v := nI 0) C.1 C.2.1 dX0_keepIfBetter_38 (by decide) ?_
          refine lv_istore (lv' := [(4, .int (nI 0)), (0, .ref (a 19)), (1, .long x), (3, .int v)]) C.1 C.2.1 dX0_keepIfBetter_39 hl (by decide) rfl (fun ls hl => ?_)
          refine lv_iload C.1 C.2.1 dX0_keepIfBetter_41 (lv_at hl 0 rfl) ?_
          refine lv_if_eq (tgt := 56) C.1 C.2.1 dX0_keepIfBetter_43 (by decide) (fun _ => ?_) (fun c_8 => absurd (by decide) c_8)
          have hH := x_eqw (w' := wX G a S T L ((tS F 12 ((kbF x v (bs, bt)).2))) ((kbF x v (bs, bt)).1)) (by first | (rw [kbF, if_pos (Or.inl c_1)]; done) | (rw [kbF, if_pos (Or.inr (Or.inl c_3))]; done) | (rw [kbF, if_pos (Or.inr (Or.inr ⟨c_5, Int32.not_le.mp c_7⟩))]; done) | (rw [kbF, if_neg (fun h => h.elim c_1 (fun h => h.elim c_3 (fun h => c_5 h.1)))]; done) | (rw [kbF, if_neg (fun h => h.elim c_1 (fun h => h.elim c_3 (fun h => Int32.not_lt.mpr c_7 h.2)))]; done)) hH
          exact hE _ _ _ _ hH dX0_keepIfBetter_56
        · refine lv_iconst (v := nI 1) C.1 C.2.1 dX0_keepIfBetter_34 (by decide) ?_
          refine lv_goto (tgt := 39) C.1 C.2.1 dX0_keepIfBetter_35 (by decide) ?_
          refine lv_istore (lv' := [(4, .int (nI 1)), (0, .ref (a 19)), (1, .long x), (3, .int v)]) C.1 C.2.1 dX0_keepIfBetter_39 hl (by decide) rfl (fun ls hl => ?_)
          refine lv_iload C.1 C.2.1 dX0_keepIfBetter_41 (lv_at hl 0 rfl) ?_
          refine lv_if_eq (tgt := 56) C.1 C.2.1 dX0_keepIfBetter_43 (by decide) (fun c_9 => absurd c_9 (by decide)) (fun _ => ?_)
          refine lv_aload_n C.1 C.2.1 dX0_keepIfBetter_46 rfl (lv_at hl 1 rfl) ?_
          refine lv_lload_n C.1 C.2.1 dX0_keepIfBetter_47 rfl (lv_at hl 2 rfl) ?_
          refine x_put (C := RX0) (T := TX0) (N := 10) (v := .long x) (w' := wX G a S T L ((tS F 12 bt)) x) C inX0 tyX0 tyX0_ok nmX0 hH 19 gX_19 rfl 8 (by decide) rfl rfl rfl rfl (Nat.le_of_ble_eq_true rfl) fX_19_8 2 rfl dX0_keepIfBetter_48 (fun H locs hH => ?_)
          refine lv_aload_n C.1 C.2.1 dX0_keepIfBetter_51 rfl (lv_at hl 1 rfl) ?_
          refine lv_iload_n C.1 C.2.1 dX0_keepIfBetter_52 rfl (lv_at hl 3 rfl) ?_
          refine x_put (C := RX0) (T := TX0) (N := 10) (v := .int v) (w' := wX G a S T L ((tS F 12 v)) x) C inX0 tyX0 tyX0_ok nmX0 hH 19 gX_19 rfl 9 (by decide) rfl rfl rfl rfl (Nat.le_of_ble_eq_true rfl) fX_19_9 1 rfl dX0_keepIfBetter_53 (fun H locs hH => ?_)
          have hH := x_eqw (w' := wX G a S T L ((tS F 12 ((kbF x v (bs, bt)).2))) ((kbF x v (bs, bt)).1)) (by first | (rw [kbF, if_pos (Or.inl c_1)]; done) | (rw [kbF, if_pos (Or.inr (Or.inl c_3))]; done) | (rw [kbF, if_pos (Or.inr (Or.inr ⟨c_5, Int32.not_le.mp c_7⟩))]; done) | (rw [kbF, if_neg (fun h => h.elim c_1 (fun h => h.elim c_3 (fun h => c_5 h.1)))]; done) | (rw [kbF, if_neg (fun h => h.elim c_1 (fun h => h.elim c_3 (fun h => Int32.not_lt.mpr c_7 h.2)))]; done)) hH
          exact hE _ _ _ _ hH dX0_keepIfBetter_56
