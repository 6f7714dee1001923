set_option maxHeartbeats 400000 in
set_option maxRecDepth 100000 in
theorem c_X3_sink_x1 (l : Launch) (hl0 : l.stackTraces = false) (G : xG) (sa : Nat → Nat) (a : Nat → Nat) (S T : Nat → Nat → Int32) (L : Nat → Nat → Int64) (F : Nat → Int32) (bs : Int64) (x y z u : Int32) (hneg : ¬ ((inW x (nI 0) (nI 200) ∧ inW y (nI 0) (nI 200)) ∧ inW z (nI 1) (nI 100) ∧ inW u (nI 0) (nI 1000000000))) : xMx l yX3_sink wsX3_sink { frames := 6, cells := 1, slots := 6, locals := 82 } [.ref (a 0), .int x, .int y, .int z, .int u] G sa (wX G a S T L F bs) "java/lang/IllegalArgumentException" := by
  refine x_ofx (cc := cX3_sink) (maxL := 5) (ret := (some .int)) (by decide) rfl (Nat.le_of_ble_eq_true rfl) ?_
  intro p e s m args below meth c ls A C hml hA hH hl hX hZ hlocks hno
  have hl : lv_has ls 5 [(0, .ref (a 0)), (1, .int x), (2, .int y), (3, .int z), (4, .int u)] := hl
  refine lv_iload_n C.1 C.2.1 dX3_sink_0 rfl (lv_at hl 1 rfl) ?_
  refine lv_iload_n C.1 C.2.1 dX3_sink_1 rfl (lv_at hl 2 rfl) ?_
  refine x_ci (w' := wX G a S T L F bs) (va_runS (As := [.int x, .int y]) (rest := []) (x_fix C hml) (c_X3_isPlace l G a S T L F bs x y _) (cwS 2 C.2.2.2.1 gX3_sink_X3_isPlace rfl rfl rfl (by decide +kernel) ⟨Nat.le_of_ble_eq_true rfl, Nat.le_of_ble_eq_true rfl⟩) (x_ps C hH) rfl rfl hl.1 rfl (lv_room (Nat.le_of_ble_eq_true rfl)) dX3_sink_2 ⟨Nat.le_of_ble_eq_true rfl, Nat.le_of_ble_eq_true rfl⟩) hH hA (fun H locs hH => ?_)
  refine lv_if_eq (tgt := 29) C.1 C.2.1 dX3_sink_5 (by decide) (fun c_1 => ?_) (fun c_1 => ?_)
  · rw [xb_0] at c_1
    exact x_thr_IAE C hl0 hX.1 (hX.2.1) hZ (hl.1.trans hml.symm) hlocks hno hH 1 2 rfl rfl (fun _ h => (List.mem_cons_of_mem _ (List.mem_append_left _ (List.mem_append_right _ h)))) dX3_sink_29 dX3_sink_32 dX3_sink_33 dX3_sink_35 dX3_sink_38 (Nat.le_of_ble_eq_true rfl) (Nat.le_of_ble_eq_true rfl) (Nat.le_of_ble_eq_true rfl) (Nat.le_of_ble_eq_true rfl) (Nat.le_of_ble_eq_true rfl) (Nat.le_of_ble_eq_true rfl)
  · rw [xb_0] at c_1
    have c_1 := Classical.not_not.mp c_1
    refine lv_iload_n C.1 C.2.1 dX3_sink_8 rfl (lv_at hl 3 rfl) ?_
    refine lv_iconst (v := nI 1) C.1 C.2.1 dX3_sink_9 (by decide) ?_
    refine lv_bipush (v := nI 100) C.1 C.2.1 dX3_sink_10 (by decide) ?_
    refine x_ci (w' := wX G a S T L F bs) (va_runS (As := [.int z, .int (nI 1), .int (nI 100)]) (rest := []) (x_fix C hml) (c_X3_isWithin l G a S T L F bs z (nI 1) (nI 100) _) (cwS 3 C.2.2.2.1 gX3_sink_X3_isWithin rfl rfl rfl (by decide +kernel) ⟨Nat.le_of_ble_eq_true rfl, Nat.le_of_ble_eq_true rfl⟩) (x_ps C hH) rfl rfl hl.1 rfl (lv_room (Nat.le_of_ble_eq_true rfl)) dX3_sink_12 ⟨Nat.le_of_ble_eq_true rfl, Nat.le_of_ble_eq_true rfl⟩) hH hA (fun H locs hH => ?_)
    refine lv_if_eq (tgt := 29) C.1 C.2.1 dX3_sink_15 (by decide) (fun c_2 => ?_) (fun c_2 => ?_)
    · rw [xb_0] at c_2
      exact x_thr_IAE C hl0 hX.1 (hX.2.1) hZ (hl.1.trans hml.symm) hlocks hno hH 1 2 rfl rfl (fun _ h => (List.mem_cons_of_mem _ (List.mem_append_left _ (List.mem_append_right _ h)))) dX3_sink_29 dX3_sink_32 dX3_sink_33 dX3_sink_35 dX3_sink_38 (Nat.le_of_ble_eq_true rfl) (Nat.le_of_ble_eq_true rfl) (Nat.le_of_ble_eq_true rfl) (Nat.le_of_ble_eq_true rfl) (Nat.le_of_ble_eq_true rfl) (Nat.le_of_ble_eq_true rfl)
    · rw [xb_0] at c_2
      have c_2 := Classical.not_not.mp c_2
      refine lv_iload C.1 C.2.1 dX3_sink_18 (lv_at hl 4 rfl) ?_
      refine lv_iconst (v := nI 0) C.1 C.2.1 dX3_sink_20 (by decide) ?_
      refine lv_ldc C.1 C.2.1 C.2.2.1 (C.2.2.2.1 _ (List.mem_of_getElem? (i := 5) rfl)) dX3_sink_21 ?_
      refine x_toi (show (1000000000 : Int32) = nI 1000000000 by decide) ?_
      refine x_ci (w' := wX G a S T L F bs) (va_runS (As := [.int u, .int (nI 0), .int (nI 1000000000)]) (rest := []) (x_fix C hml) (c_X3_isWithin l G a S T L F bs u (nI 0) (nI 1000000000) _) (cwS 3 C.2.2.2.1 gX3_sink_X3_isWithin rfl rfl rfl (by decide +kernel) ⟨Nat.le_of_ble_eq_true rfl, Nat.le_of_ble_eq_true rfl⟩) (x_ps C hH) rfl rfl hl.1 rfl (lv_room (Nat.le_of_ble_eq_true rfl)) dX3_sink_23 ⟨Nat.le_of_ble_eq_true rfl, Nat.le_of_ble_eq_true rfl⟩) hH hA (fun H locs hH => ?_)
      refine lv_if_ne (tgt := 39) C.1 C.2.1 dX3_sink_26 (by decide) (fun c_3 => ?_) (fun c_3 => ?_)
      · rw [xb_0] at c_3
        have c_3 := Classical.not_not.mp c_3
        exact absurd ⟨c_1, c_2, c_3⟩ hneg
      · rw [xb_0] at c_3
        exact x_thr_IAE C hl0 hX.1 (hX.2.1) hZ (hl.1.trans hml.symm) hlocks hno hH 1 2 rfl rfl (fun _ h => (List.mem_cons_of_mem _ (List.mem_append_left _ (List.mem_append_right _ h)))) dX3_sink_29 dX3_sink_32 dX3_sink_33 dX3_sink_35 dX3_sink_38 (Nat.le_of_ble_eq_true rfl) (Nat.le_of_ble_eq_true rfl) (Nat.le_of_ble_eq_true rfl) (Nat.le_of_ble_eq_true rfl) (Nat.le_of_ble_eq_true rfl) (Nat.le_of_ble_eq_true rfl)
set_option maxHeartbeats 400000 in
set_option maxRecDepth 100000 in
theorem c_X3_sink_x2 (l : Launch) (hl0 : l.stackTraces = false) (G : xG) (sa : Nat → Nat) (a : Nat → Nat) (S T : Nat → Nat → Int32) (L : Nat → Nat → Int64) (F : Nat → Int32) (bs : Int64) (x y z u : Int32) (h4 : F 4 = nI 10) (hxy : inW x (nI 0) (nI 200) ∧ inW y (nI 0) (nI 200)) (hz : inW z (nI 1) (nI 100)) (hu : inW u (nI 0) (nI 1000000000)) : xMx l yX3_sink wsX3_sink { frames := 6, cells := 1, slots := 6, locals := 82 } [.ref (a 0), .int x, .int y, .int z, .int u] G sa (wX G a S T L F bs) "java/lang/UnsupportedOperationException" := by
  refine x_ofx (cc := cX3_sink) (maxL := 5) (ret := (some .int)) (by decide) rfl (Nat.le_of_ble_eq_true rfl) ?_
  intro p e s m args below meth c ls A C hml hA hH hl hX hZ hlocks hno
  have hl : lv_has ls 5 [(0, .ref (a 0)), (1, .int x), (2, .int y), (3, .int z), (4, .int u)] := hl
  have inX1 : ∀ w ∈ wsX10, w ∈ wsX3_sink := fun _ h => (List.mem_cons_of_mem _ (List.mem_append_left _ (List.mem_append_left _ (List.mem_append_right _ h))))
  have inX3 : ∀ w ∈ wsX30, w ∈ wsX3_sink := fun _ h => (List.mem_cons_of_mem _ (List.mem_append_left _ (List.mem_append_left _ (List.mem_append_left _ (List.mem_append_right _ h)))))
  refine lv_iload_n C.1 C.2.1 dX3_sink_0 rfl (lv_at hl 1 rfl) ?_
  refine lv_iload_n C.1 C.2.1 dX3_sink_1 rfl (lv_at hl 2 rfl) ?_
  refine x_ci (w' := wX G a S T L F bs) (va_runS (As := [.int x, .int y]) (rest := []) (x_fix C hml) (c_X3_isPlace l G a S T L F bs x y _) (cwS 2 C.2.2.2.1 gX3_sink_X3_isPlace rfl rfl rfl (by decide +kernel) ⟨Nat.le_of_ble_eq_true rfl, Nat.le_of_ble_eq_true rfl⟩) (x_ps C hH) rfl rfl hl.1 rfl (lv_room (Nat.le_of_ble_eq_true rfl)) dX3_sink_2 ⟨Nat.le_of_ble_eq_true rfl, Nat.le_of_ble_eq_true rfl⟩) hH hA (fun H locs hH => ?_)
  refine lv_if_eq (tgt := 29) C.1 C.2.1 dX3_sink_5 (by decide) (fun z8 => absurd z8 (fun z9 => xb_0.mp z9 hxy)) (fun _ => ?_)
  refine lv_iload_n C.1 C.2.1 dX3_sink_8 rfl (lv_at hl 3 rfl) ?_
  refine lv_iconst (v := nI 1) C.1 C.2.1 dX3_sink_9 (by decide) ?_
  refine lv_bipush (v := nI 100) C.1 C.2.1 dX3_sink_10 (by decide) ?_
  refine x_ci (w' := wX G a S T L F bs) (va_runS (As := [.int z, .int (nI 1), .int (nI 100)]) (rest := []) (x_fix C hml) (c_X3_isWithin l G a S T L F bs z (nI 1) (nI 100) _) (cwS 3 C.2.2.2.1 gX3_sink_X3_isWithin rfl rfl rfl (by decide +kernel) ⟨Nat.le_of_ble_eq_true rfl, Nat.le_of_ble_eq_true rfl⟩) (x_ps C hH) rfl rfl hl.1 rfl (lv_room (Nat.le_of_ble_eq_true rfl)) dX3_sink_12 ⟨Nat.le_of_ble_eq_true rfl, Nat.le_of_ble_eq_true rfl⟩) hH hA (fun H locs hH => ?_)
  refine lv_if_eq (tgt := 29) C.1 C.2.1 dX3_sink_15 (by decide) (fun z8 => absurd z8 (fun z9 => xb_0.mp z9 hz)) (fun _ => ?_)
  refine lv_iload C.1 C.2.1 dX3_sink_18 (lv_at hl 4 rfl) ?_
  refine lv_iconst (v := nI 0) C.1 C.2.1 dX3_sink_20 (by decide) ?_
  refine lv_ldc C.1 C.2.1 C.2.2.1 (C.2.2.2.1 _ (List.mem_of_getElem? (i := 5) rfl)) dX3_sink_21 ?_
  refine x_toi (show (1000000000 : Int32) = nI 1000000000 by decide) ?_
  refine x_ci (w' := wX G a S T L F bs) (va_runS (As := [.int u, .int (nI 0), .int (nI 1000000000)]) (rest := []) (x_fix C hml) (c_X3_isWithin l G a S T L F bs u (nI 0) (nI 1000000000) _) (cwS 3 C.2.2.2.1 gX3_sink_X3_isWithin rfl rfl rfl (by decide +kernel) ⟨Nat.le_of_ble_eq_true rfl, Nat.le_of_ble_eq_true rfl⟩) (x_ps C hH) rfl rfl hl.1 rfl (lv_room (Nat.le_of_ble_eq_true rfl)) dX3_sink_23 ⟨Nat.le_of_ble_eq_true rfl, Nat.le_of_ble_eq_true rfl⟩) hH hA (fun H locs hH => ?_)
  refine lv_if_ne (tgt := 39) C.1 C.2.1 dX3_sink_26 (by decide) (fun _ => ?_) (fun z8 => absurd z8 (fun z9 => xb_0.mp z9 hu))
  refine lv_aload_n C.1 C.2.1 dX3_sink_39 rfl (lv_at hl 0 rfl) ?_
  refine x_get (C := RX3) (T := TX3) (N := 7) (v := .ref (a 1)) C inX3 hH 0 gX_0 rfl 0 (by decide) rfl rfl 6 rfl dX3_sink_40 ?_
  refine x_get (C := RX1) (T := TX1) (N := 5) (v := .int (F 4)) C inX1 hH 1 gX_1 rfl 4 (by decide) rfl rfl 7 rfl dX3_sink_43 ?_
  refine x_toi h4 ?_
  refine lv_bipush (v := nI 10) C.1 C.2.1 dX3_sink_46 (by decide) ?_
  refine lv_icmp_lt (tgt := 61) C.1 C.2.1 dX3_sink_48 (by decide) (fun c_4 => absurd c_4 (by decide)) (fun _ => ?_)
  exact x_thr_UOE C hl0 hX.1 (hX.2.2.1) hZ (hl.1.trans hml.symm) hlocks hno hH 3 4 rfl rfl (fun _ h => (List.mem_cons_of_mem _ (List.mem_append_right _ h))) dX3_sink_51 dX3_sink_54 dX3_sink_55 dX3_sink_57 dX3_sink_60 (Nat.le_of_ble_eq_true rfl) (Nat.le_of_ble_eq_true rfl) (Nat.le_of_ble_eq_true rfl) (Nat.le_of_ble_eq_true rfl) (Nat.le_of_ble_eq_true rfl) (Nat.le_of_ble_eq_true rfl)
set_option maxHeartbeats 400000 in
set_option maxRecDepth 100000 in
theorem c_X3_cut_x1 (l : Launch) (hl0 : l.stackTraces = false) (G : xG) (sa : Nat → Nat) (a : Nat → Nat) (S T : Nat → Nat → Int32) (L : Nat → Nat → Int64) (F : Nat → Int32) (bs : Int64) (x : Int32) (hneg : ¬ inW x (nI 0) (F 4)) : xMx l yX3_cut wsX3_cut { frames := 6, cells := 1, slots := 6, locals := 82 } [.ref (a 0), .int x] G sa (wX G a S T L F bs) "java/lang/IllegalArgumentException" := by
  refine x_ofx (cc := cX3_cut) (maxL := 2) (ret := none) (by decide) rfl (Nat.le_of_ble_eq_true rfl) ?_
  intro p e s m args below meth c ls A C hml hA hH hl hX hZ hlocks hno
  have hl : lv_has ls 2 [(0, .ref (a 0)), (1, .int x)] := hl
  have inX1 : ∀ w ∈ wsX10, w ∈ wsX3_cut := fun _ h => (List.mem_cons_of_mem _ (List.mem_append_left _ (List.mem_append_right _ h)))
  have inX3 : ∀ w ∈ wsX30, w ∈ wsX3_cut := fun _ h => (List.mem_cons_of_mem _ (List.mem_append_left _ (List.mem_append_left _ (List.mem_append_right _ h))))
  refine lv_iload_n C.1 C.2.1 dX3_cut_0 rfl (lv_at hl 1 rfl) ?_
  refine lv_iconst (v := nI 0) C.1 C.2.1 dX3_cut_1 (by decide) ?_
  refine lv_aload_n C.1 C.2.1 dX3_cut_2 rfl (lv_at hl 0 rfl) ?_
  refine x_get (C := RX3) (T := TX3) (N := 7) (v := .ref (a 1)) C inX3 hH 0 gX_0 rfl 0 (by decide) rfl rfl 3 rfl dX3_cut_3 ?_
  refine x_get (C := RX1) (T := TX1) (N := 5) (v := .int (F 4)) C inX1 hH 1 gX_1 rfl 4 (by decide) rfl rfl 4 rfl dX3_cut_6 ?_
  refine x_ci (w' := wX G a S T L F bs) (va_runS (As := [.int x, .int (nI 0), .int (F 4)]) (rest := []) (x_fix C hml) (c_X3_isWithin l G a S T L F bs x (nI 0) (F 4) _) (cwS 3 C.2.2.2.1 gX3_cut_X3_isWithin rfl rfl rfl (by decide +kernel) ⟨Nat.le_of_ble_eq_true rfl, Nat.le_of_ble_eq_true rfl⟩) (x_ps C hH) rfl rfl hl.1 rfl (lv_room (Nat.le_of_ble_eq_true rfl)) dX3_cut_9 ⟨Nat.le_of_ble_eq_true rfl, Nat.le_of_ble_eq_true rfl⟩) hH hA (fun H locs hH => ?_)
  refine lv_if_ne (tgt := 25) C.1 C.2.1 dX3_cut_12 (by decide) (fun z8 => absurd (xb_0.mpr hneg) z8) (fun _ => ?_)
  exact x_thr_IAE C hl0 hX.1 (hX.2.2.2.1) hZ (hl.1.trans hml.symm) hlocks hno hH 1 2 rfl rfl (fun _ h => (List.mem_cons_of_mem _ (List.mem_append_right _ h))) dX3_cut_15 dX3_cut_18 dX3_cut_19 dX3_cut_21 dX3_cut_24 (Nat.le_of_ble_eq_true rfl) (Nat.le_of_ble_eq_true rfl) (Nat.le_of_ble_eq_true rfl) (Nat.le_of_ble_eq_true rfl) (Nat.le_of_ble_eq_true rfl) (Nat.le_of_ble_eq_true rfl)
set_option maxHeartbeats 400000 in
set_option maxRecDepth 100000 in
theorem c_X3_source_x1 (l : Launch) (hl0 : l.stackTraces = false) (G : xG) (sa : Nat → Nat) (a : Nat → Nat) (S T : Nat → Nat → Int32) (L : Nat → Nat → Int64) (F : Nat → Int32) (bs : Int64) (x y : Int32) (hneg : ¬ (inW x (nI 0) (nI 200) ∧ inW y (nI 0) (nI 200))) : xMx l yX3_source wsX3_source { frames := 6, cells := 1, slots := 6, locals := 82 } [.ref (a 0), .int x, .int y] G sa (wX G a S T L F bs) "java/lang/IllegalArgumentException" := by
  refine x_ofx (cc := cX3_source) (maxL := 3) (ret := none) (by decide) rfl (Nat.le_of_ble_eq_true rfl) ?_
  intro p e s m args below meth c ls A C hml hA hH hl hX hZ hlocks hno
  have hl : lv_has ls 3 [(0, .ref (a 0)), (1, .int x), (2, .int y)] := hl
  refine lv_iload_n C.1 C.2.1 dX3_source_0 rfl (lv_at hl 1 rfl) ?_
  refine lv_iload_n C.1 C.2.1 dX3_source_1 rfl (lv_at hl 2 rfl) ?_
  refine x_ci (w' := wX G a S T L F bs) (va_runS (As := [.int x, .int y]) (rest := []) (x_fix C hml) (c_X3_isPlace l G a S T L F bs x y _) (cwS 2 C.2.2.2.1 gX3_source_X3_isPlace rfl rfl rfl (by decide +kernel) ⟨Nat.le_of_ble_eq_true rfl, Nat.le_of_ble_eq_true rfl⟩) (x_ps C hH) rfl rfl hl.1 rfl (lv_room (Nat.le_of_ble_eq_true rfl)) dX3_source_2 ⟨Nat.le_of_ble_eq_true rfl, Nat.le_of_ble_eq_true rfl⟩) hH hA (fun H locs hH => ?_)
  refine lv_if_ne (tgt := 18) C.1 C.2.1 dX3_source_5 (by decide) (fun z8 => absurd (xb_0.mpr hneg) z8) (fun _ => ?_)
  exact x_thr_IAE C hl0 hX.1 (hX.2.2.2.2.1) hZ (hl.1.trans hml.symm) hlocks hno hH 1 2 rfl rfl (fun _ h => (List.mem_cons_of_mem _ (List.mem_append_right _ h))) dX3_source_8 dX3_source_11 dX3_source_12 dX3_source_14 dX3_source_17 (Nat.le_of_ble_eq_true rfl) (Nat.le_of_ble_eq_true rfl) (Nat.le_of_ble_eq_true rfl) (Nat.le_of_ble_eq_true rfl) (Nat.le_of_ble_eq_true rfl) (Nat.le_of_ble_eq_true rfl)
set_option maxHeartbeats 400000 in
set_option maxRecDepth 100000 in
theorem c_X3_wires_x1 (l : Launch) (hl0 : l.stackTraces = false) (G : xG) (sa : Nat → Nat) (a : Nat → Nat) (S T : Nat → Nat → Int32) (L : Nat → Nat → Int64) (F : Nat → Int32) (bs : Int64) (x y : Int32) (hneg : ¬ (inW x (nI 1) (nI 20) ∧ inW y (nI 1) (nI 20))) : xMx l yX3_wires wsX3_wires { frames := 6, cells := 1, slots := 6, locals := 82 } [.ref (a 0), .int x, .int y] G sa (wX G a S T L F bs) "java/lang/IllegalArgumentException" := by
  refine x_ofx (cc := cX3_wires) (maxL := 3) (ret := none) (by decide) rfl (Nat.le_of_ble_eq_true rfl) ?_
  intro p e s m args below meth c ls A C hml hA hH hl hX hZ hlocks hno
  have hl : lv_has ls 3 [(0, .ref (a 0)), (1, .int x), (2, .int y)] := hl
  refine lv_iload_n C.1 C.2.1 dX3_wires_0 rfl (lv_at hl 1 rfl) ?_
  refine lv_iconst (v := nI 1) C.1 C.2.1 dX3_wires_1 (by decide) ?_
  refine lv_bipush (v := nI 20) C.1 C.2.1 dX3_wires_2 (by decide) ?_
  refine x_ci (w' := wX G a S T L F bs) (va_runS (As := [.int x, .int (nI 1), .int (nI 20)]) (rest := []) (x_fix C hml) (c_X3_isWithin l G a S T L F bs x (nI 1) (nI 20) _) (cwS 3 C.2.2.2.1 gX3_wires_X3_isWithin rfl rfl rfl (by decide +kernel) ⟨Nat.le_of_ble_eq_true rfl, Nat.le_of_ble_eq_true rfl⟩) (x_ps C hH) rfl rfl hl.1 rfl (lv_room (Nat.le_of_ble_eq_true rfl)) dX3_wires_4 ⟨Nat.le_of_ble_eq_true rfl, Nat.le_of_ble_eq_true rfl⟩) hH hA (fun H locs hH => ?_)
  refine lv_if_eq (tgt := 20) C.1 C.2.1 dX3_wires_7 (by decide) (fun c_1 => ?_) (fun c_1 => ?_)
  · rw [xb_0] at c_1
    exact x_thr_IAE C hl0 hX.1 (hX.2.2.2.2.2.1) hZ (hl.1.trans hml.symm) hlocks hno hH 1 2 rfl rfl (fun _ h => (List.mem_cons_of_mem _ (List.mem_append_right _ h))) dX3_wires_20 dX3_wires_23 dX3_wires_24 dX3_wires_26 dX3_wires_29 (Nat.le_of_ble_eq_true rfl) (Nat.le_of_ble_eq_true rfl) (Nat.le_of_ble_eq_true rfl) (Nat.le_of_ble_eq_true rfl) (Nat.le_of_ble_eq_true rfl) (Nat.le_of_ble_eq_true rfl)
  · rw [xb_0] at c_1
    have c_1 := Classical.not_not.mp c_1
    refine lv_iload_n C.1 C.2.1 dX3_wires_10 rfl (lv_at hl 2 rfl) ?_
    refine lv_iconst (v := nI 1) C.1 C.2.1 dX3_wires_11 (by decide) ?_
    refine lv_bipush (v := nI 20) C.1 C.2.1 dX3_wires_12 (by decide) ?_
    refine x_ci (w' := wX G a S T L F bs) (va_runS (As := [.int y, .int (nI 1), .int (nI 20)]) (rest := []) (x_fix C hml) (c_X3_isWithin l G a S T L F bs y (nI 1) (nI 20) _) (cwS 3 C.2.2.2.1 gX3_wires_X3_isWithin rfl rfl rfl (by decide +kernel) ⟨Nat.le_of_ble_eq_true rfl, Nat.le_of_ble_eq_true rfl⟩) (x_ps C hH) rfl rfl hl.1 rfl (lv_room (Nat.le_of_ble_eq_true rfl)) dX3_wires_14 ⟨Nat.le_of_ble_eq_true rfl, Nat.le_of_ble_eq_true rfl⟩) hH hA (fun H locs hH => ?_)
    refine lv_if_ne (tgt := 30) C.1 C.2.1 dX3_wires_17 (by decide) (fun c_2 => ?_) (fun c_2 => ?_)
    · rw [xb_0] at c_2
      have c_2 := Classical.not_not.mp c_2
      exact absurd ⟨c_1, c_2⟩ hneg
    · rw [xb_0] at c_2
      exact x_thr_IAE C hl0 hX.1 (hX.2.2.2.2.2.1) hZ (hl.1.trans hml.symm) hlocks hno hH 1 2 rfl rfl (fun _ h => (List.mem_cons_of_mem _ (List.mem_append_right _ h))) dX3_wires_20 dX3_wires_23 dX3_wires_24 dX3_wires_26 dX3_wires_29 (Nat.le_of_ble_eq_true rfl) (Nat.le_of_ble_eq_true rfl) (Nat.le_of_ble_eq_true rfl) (Nat.le_of_ble_eq_true rfl) (Nat.le_of_ble_eq_true rfl) (Nat.le_of_ble_eq_true rfl)
set_option maxHeartbeats 400000 in
set_option maxRecDepth 100000 in
theorem c_X3_buffer_x1 (l : Launch) (hl0 : l.stackTraces = false) (G : xG) (sa : Nat → Nat) (a : Nat → Nat) (S T : Nat → Nat → Int32) (L : Nat → Nat → Int64) (F : Nat → Int32) (bs : Int64) (x y z : Int32) (hneg : ¬ (inW x (nI 1) (nI 1000000) ∧ inW y (nI 1) (nI 1000) ∧ inW z (nI 0) (nI 1000000000))) : xMx l yX3_buffer wsX3_buffer { frames := 6, cells := 1, slots := 6, locals := 82 } [.ref (a 0), .int x, .int y, .int z] G sa (wX G a S T L F bs) "java/lang/IllegalArgumentException" := by
  refine x_ofx (cc := cX3_buffer) (maxL := 4) (ret := none) (by decide) rfl (Nat.le_of_ble_eq_true rfl) ?_
  intro p e s m args below meth c ls A C hml hA hH hl hX hZ hlocks hno
  have hl : lv_has ls 4 [(0, .ref (a 0)), (1, .int x), (2, .int y), (3, .int z)] := hl
  refine lv_iload_n C.1 C.2.1 dX3_buffer_0 rfl (lv_at hl 1 rfl) ?_
  refine lv_iconst (v := nI 1) C.1 C.2.1 dX3_buffer_1 (by decide) ?_
  refine lv_ldc C.1 C.2.1 C.2.2.1 (C.2.2.2.1 _ (List.mem_of_getElem? (i := 3) rfl)) dX3_buffer_2 ?_
  refine x_toi (show (1000000 : Int32) = nI 1000000 by decide) ?_
  refine x_ci (w' := wX G a S T L F bs) (va_runS (As := [.int x, .int (nI 1), .int (nI 1000000)]) (rest := []) (x_fix C hml) (c_X3_isWithin l G a S T L F bs x (nI 1) (nI 1000000) _) (cwS 3 C.2.2.2.1 gX3_buffer_X3_isWithin rfl rfl rfl (by decide +kernel) ⟨Nat.le_of_ble_eq_true rfl, Nat.le_of_ble_eq_true rfl⟩) (x_ps C hH) rfl rfl hl.1 rfl (lv_room (Nat.le_of_ble_eq_true rfl)) dX3_buffer_4 ⟨Nat.le_of_ble_eq_true rfl, Nat.le_of_ble_eq_true rfl⟩) hH hA (fun H locs hH => ?_)
  refine lv_if_eq (tgt := 31) C.1 C.2.1 dX3_buffer_7 (by decide) (fun c_1 => ?_) (fun c_1 => ?_)
  · rw [xb_0] at c_1
    exact x_thr_IAE C hl0 hX.1 (hX.2.2.2.2.2.2.1) hZ (hl.1.trans hml.symm) hlocks hno hH 1 2 rfl rfl (fun _ h => (List.mem_cons_of_mem _ (List.mem_append_right _ h))) dX3_buffer_31 dX3_buffer_34 dX3_buffer_35 dX3_buffer_37 dX3_buffer_40 (Nat.le_of_ble_eq_true rfl) (Nat.le_of_ble_eq_true rfl) (Nat.le_of_ble_eq_true rfl) (Nat.le_of_ble_eq_true rfl) (Nat.le_of_ble_eq_true rfl) (Nat.le_of_ble_eq_true rfl)
  · rw [xb_0] at c_1
    have c_1 := Classical.not_not.mp c_1
    refine lv_iload_n C.1 C.2.1 dX3_buffer_10 rfl (lv_at hl 2 rfl) ?_
    refine lv_iconst (v := nI 1) C.1 C.2.1 dX3_buffer_11 (by decide) ?_
    refine lv_sipush (v := nI 1000) C.1 C.2.1 dX3_buffer_12 (by decide) ?_
    refine x_ci (w' := wX G a S T L F bs) (va_runS (As := [.int y, .int (nI 1), .int (nI 1000)]) (rest := []) (x_fix C hml) (c_X3_isWithin l G a S T L F bs y (nI 1) (nI 1000) _) (cwS 3 C.2.2.2.1 gX3_buffer_X3_isWithin rfl rfl rfl (by decide +kernel) ⟨Nat.le_of_ble_eq_true rfl, Nat.le_of_ble_eq_true rfl⟩) (x_ps C hH) rfl rfl hl.1 rfl (lv_room (Nat.le_of_ble_eq_true rfl)) dX3_buffer_15 ⟨Nat.le_of_ble_eq_true rfl, Nat.le_of_ble_eq_true rfl⟩) hH hA (fun H locs hH => ?_)
    refine lv_if_eq (tgt := 31) C.1 C.2.1 dX3_buffer_18 (by decide) (fun c_2 => ?_) (fun c_2 => ?_)
    · rw [xb_0] at c_2
      exact x_thr_IAE C hl0 hX.1 (hX.2.2.2.2.2.2.1) hZ (hl.1.trans hml.symm) hlocks hno hH 1 2 rfl rfl (fun _ h => (List.mem_cons_of_mem _ (List.mem_append_right _ h))) dX3_buffer_31 dX3_buffer_34 dX3_buffer_35 dX3_buffer_37 dX3_buffer_40 (Nat.le_of_ble_eq_true rfl) (Nat.le_of_ble_eq_true rfl) (Nat.le_of_ble_eq_true rfl) (Nat.le_of_ble_eq_true rfl) (Nat.le_of_ble_eq_true rfl) (Nat.le_of_ble_eq_true rfl)
    · rw [xb_0] at c_2
      have c_2 := Classical.not_not.mp c_2
      refine lv_iload_n C.1 C.2.1 dX3_buffer_21 rfl (lv_at hl 3 rfl) ?_
      refine lv_iconst (v := nI 0) C.1 C.2.1 dX3_buffer_22 (by decide) ?_
      refine lv_ldc C.1 C.2.1 C.2.2.1 (C.2.2.2.1 _ (List.mem_of_getElem? (i := 4) rfl)) dX3_buffer_23 ?_
      refine x_toi (show (1000000000 : Int32) = nI 1000000000 by decide) ?_
      refine x_ci (w' := wX G a S T L F bs) (va_runS (As := [.int z, .int (nI 0), .int (nI 1000000000)]) (rest := []) (x_fix C hml) (c_X3_isWithin l G a S T L F bs z (nI 0) (nI 1000000000) _) (cwS 3 C.2.2.2.1 gX3_buffer_X3_isWithin rfl rfl rfl (by decide +kernel) ⟨Nat.le_of_ble_eq_true rfl, Nat.le_of_ble_eq_true rfl⟩) (x_ps C hH) rfl rfl hl.1 rfl (lv_room (Nat.le_of_ble_eq_true rfl)) dX3_buffer_25 ⟨Nat.le_of_ble_eq_true rfl, Nat.le_of_ble_eq_true rfl⟩) hH hA (fun H locs hH => ?_)
      refine lv_if_ne (tgt := 41) C.1 C.2.1 dX3_buffer_28 (by decide) (fun c_3 => ?_) (fun c_3 => ?_)
      · rw [xb_0] at c_3
        have c_3 := Classical.not_not.mp c_3
        exact absurd ⟨c_1, c_2, c_3⟩ hneg
      · rw [xb_0] at c_3
        exact x_thr_IAE C hl0 hX.1 (hX.2.2.2.2.2.2.1) hZ (hl.1.trans hml.symm) hlocks hno hH 1 2 rfl rfl (fun _ h => (List.mem_cons_of_mem _ (List.mem_append_right _ h))) dX3_buffer_31 dX3_buffer_34 dX3_buffer_35 dX3_buffer_37 dX3_buffer_40 (Nat.le_of_ble_eq_true rfl) (Nat.le_of_ble_eq_true rfl) (Nat.le_of_ble_eq_true rfl) (Nat.le_of_ble_eq_true rfl) (Nat.le_of_ble_eq_true rfl) (Nat.le_of_ble_eq_true rfl)
set_option maxHeartbeats 400000 in
set_option maxRecDepth 100000 in
theorem c_X3_build_x1 (l : Launch) (hl0 : l.stackTraces = false) (G : xG) (sa : Nat → Nat) (a : Nat → Nat) (S T : Nat → Nat → Int32) (L : Nat → Nat → Int64) (F : Nat → Int32) (bs : Int64) (x : Int32) (hneg : ¬ inW x (nI 0) (nI 1)) : xMx l yX3_build wsX3_build { frames := 6, cells := 1, slots := 6, locals := 82 } [.ref (a 0), .int x] G sa (wX G a S T L F bs) "java/lang/IllegalArgumentException" := by
  refine x_ofx (cc := cX3_build) (maxL := 2) (ret := (some .int)) (by decide) rfl (Nat.le_of_ble_eq_true rfl) ?_
  intro p e s m args below meth c ls A C hml hA hH hl hX hZ hlocks hno
  have hl : lv_has ls 2 [(0, .ref (a 0)), (1, .int x)] := hl
  refine lv_iload_n C.1 C.2.1 dX3_build_0 rfl (lv_at hl 1 rfl) ?_
  refine lv_iconst (v := nI 0) C.1 C.2.1 dX3_build_1 (by decide) ?_
  refine lv_iconst (v := nI 1) C.1 C.2.1 dX3_build_2 (by decide) ?_
  refine x_ci (w' := wX G a S T L F bs) (va_runS (As := [.int x, .int (nI 0), .int (nI 1)]) (rest := []) (x_fix C hml) (c_X3_isWithin l G a S T L F bs x (nI 0) (nI 1) _) (cwS 3 C.2.2.2.1 gX3_build_X3_isWithin rfl rfl rfl (by decide +kernel) ⟨Nat.le_of_ble_eq_true rfl, Nat.le_of_ble_eq_true rfl⟩) (x_ps C hH) rfl rfl hl.1 rfl (lv_room (Nat.le_of_ble_eq_true rfl)) dX3_build_3 ⟨Nat.le_of_ble_eq_true rfl, Nat.le_of_ble_eq_true rfl⟩) hH hA (fun H locs hH => ?_)
  refine lv_if_ne (tgt := 19) C.1 C.2.1 dX3_build_6 (by decide) (fun z8 => absurd (xb_0.mpr hneg) z8) (fun _ => ?_)
  exact x_thr_IAE C hl0 hX.1 (hX.2.2.2.2.2.2.2.1) hZ (hl.1.trans hml.symm) hlocks hno hH 1 2 rfl rfl (fun _ h => (List.mem_cons_of_mem _ (List.mem_append_left _ (List.mem_append_right _ h)))) dX3_build_9 dX3_build_12 dX3_build_13 dX3_build_15 dX3_build_18 (Nat.le_of_ble_eq_true rfl) (Nat.le_of_ble_eq_true rfl) (Nat.le_of_ble_eq_true rfl) (Nat.le_of_ble_eq_true rfl) (Nat.le_of_ble_eq_true rfl) (Nat.le_of_ble_eq_true rfl)
set_option maxHeartbeats 400000 in
set_option maxRecDepth 100000 in
theorem c_X3_requireTree_x (l : Launch) (hl0 : l.stackTraces = false) (G : xG) (sa : Nat → Nat) (a : Nat → Nat) (S T : Nat → Nat → Int32) (L : Nat → Nat → Int64) (F : Nat → Int32) (bs : Int64) (h2 : F 2 = nI 0) : xMx l yX3_requireTree wsX3_requireTree { frames := 6, cells := 1, slots := 6, locals := 82 } [.ref (a 0)] G sa (wX G a S T L F bs) "java/lang/IllegalStateException" := by
  refine x_ofx (cc := cX3_requireTree) (maxL := 1) (ret := none) (by decide) rfl (Nat.le_of_ble_eq_true rfl) ?_
  intro p e s m args below meth c ls A C hml hA hH hl hX hZ hlocks hno
  have hl : lv_has ls 1 [(0, .ref (a 0))] := hl
  have inX3 : ∀ w ∈ wsX30, w ∈ wsX3_requireTree := fun _ h => (List.mem_cons_of_mem _ (List.mem_append_left _ (List.mem_append_right _ h)))
  refine lv_aload_n C.1 C.2.1 dX3_requireTree_0 rfl (lv_at hl 0 rfl) ?_
  refine x_get (C := RX3) (T := TX3) (N := 7) (v := .int (F 2)) C inX3 hH 0 gX_0 rfl 5 (by decide) rfl rfl 3 rfl dX3_requireTree_1 ?_
  refine x_toi h2 ?_
  refine lv_if_ne (tgt := 17) C.1 C.2.1 dX3_requireTree_4 (by decide) (fun c_1 => absurd (by decide) c_1) (fun _ => ?_)
  exact x_thr_ISE C hl0 hX.1 (hX.2.2.2.2.2.2.2.2.2.2.2.2.1) hZ (hl.1.trans hml.symm) hlocks hno hH 1 2 rfl rfl (fun _ h => (List.mem_cons_of_mem _ (List.mem_append_right _ h))) dX3_requireTree_7 dX3_requireTree_10 dX3_requireTree_11 dX3_requireTree_13 dX3_requireTree_16 (Nat.le_of_ble_eq_true rfl) (Nat.le_of_ble_eq_true rfl) (Nat.le_of_ble_eq_true rfl) (Nat.le_of_ble_eq_true rfl) (Nat.le_of_ble_eq_true rfl) (Nat.le_of_ble_eq_true rfl)
set_option maxHeartbeats 400000 in
set_option maxRecDepth 100000 in
theorem c_X3_requireSink_x (l : Launch) (hl0 : l.stackTraces = false) (G : xG) (sa : Nat → Nat) (a : Nat → Nat) (S T : Nat → Nat → Int32) (L : Nat → Nat → Int64) (F : Nat → Int32) (bs : Int64) (x : Int32) (lv : Nat) (h5 : F 5 = nI lv) (h1 : 1 ≤ lv) (hl10 : lv ≤ 10) (hneg : ¬ inW x (nI 0) (nI (lv - 1))) : xMx l yX3_requireSink wsX3_requireSink { frames := 6, cells := 1, slots := 6, locals := 82 } [.ref (a 0), .int x] G sa (wX G a S T L F bs) "java/lang/IndexOutOfBoundsException" := by
  refine x_ofx (cc := cX3_requireSink) (maxL := 2) (ret := none) (by decide) rfl (Nat.le_of_ble_eq_true rfl) ?_
  intro p e s m args below meth c ls A C hml hA hH hl hX hZ hlocks hno
  have hl : lv_has ls 2 [(0, .ref (a 0)), (1, .int x)] := hl
  have inX2 : ∀ w ∈ wsX20, w ∈ wsX3_requireSink := fun _ h => (List.mem_cons_of_mem _ (List.mem_append_left _ (List.mem_append_right _ h)))
  have inX3 : ∀ w ∈ wsX30, w ∈ wsX3_requireSink := fun _ h => (List.mem_cons_of_mem _ (List.mem_append_left _ (List.mem_append_left _ (List.mem_append_right _ h))))
  refine lv_iload_n C.1 C.2.1 dX3_requireSink_0 rfl (lv_at hl 1 rfl) ?_
  refine lv_iconst (v := nI 0) C.1 C.2.1 dX3_requireSink_1 (by decide) ?_
  refine lv_aload_n C.1 C.2.1 dX3_requireSink_2 rfl (lv_at hl 0 rfl) ?_
  refine x_get (C := RX3) (T := TX3) (N := 7) (v := .ref (a 6)) C inX3 hH 0 gX_0 rfl 1 (by decide) rfl rfl 3 rfl dX3_requireSink_3 ?_
  refine x_get (C := RX2) (T := TX2) (N := 14) (v := .int (F 5)) C inX2 hH 6 gX_6 rfl 12 (by decide) rfl rfl 4 rfl dX3_requireSink_6 ?_
  refine x_toi h5 ?_
  refine lv_iconst (v := nI 1) C.1 C.2.1 dX3_requireSink_9 (by decide) ?_
  refine lv_isub C.1 C.2.1 dX3_requireSink_10 ?_
  refine x_toi (pk_sub (a := lv) (b := 1) (by omega)) ?_
  refine x_ci (w' := wX G a S T L F bs) (va_runS (As := [.int x, .int (nI 0), .int (nI (lv - 1))]) (rest := []) (x_fix C hml) (c_X3_isWithin l G a S T L F bs x (nI 0) (nI (lv - 1)) _) (cwS 3 C.2.2.2.1 gX3_requireSink_X3_isWithin rfl rfl rfl (by decide +kernel) ⟨Nat.le_of_ble_eq_true rfl, Nat.le_of_ble_eq_true rfl⟩) (x_ps C hH) rfl rfl hl.1 rfl (lv_room (Nat.le_of_ble_eq_true rfl)) dX3_requireSink_11 ⟨Nat.le_of_ble_eq_true rfl, Nat.le_of_ble_eq_true rfl⟩) hH hA (fun H locs hH => ?_)
  refine lv_if_ne (tgt := 27) C.1 C.2.1 dX3_requireSink_14 (by decide) (fun z8 => absurd (xb_0.mpr hneg) z8) (fun _ => ?_)
  exact x_thr_IOB C hl0 hX.1 (hX.2.2.2.2.2.2.2.2.2.2.2.2.2) hZ (hl.1.trans hml.symm) hlocks hno hH 1 2 rfl rfl (fun _ h => (List.mem_cons_of_mem _ (List.mem_append_right _ h))) dX3_requireSink_17 dX3_requireSink_20 dX3_requireSink_21 dX3_requireSink_23 dX3_requireSink_26 (Nat.le_of_ble_eq_true rfl) (Nat.le_of_ble_eq_true rfl) (Nat.le_of_ble_eq_true rfl) (Nat.le_of_ble_eq_true rfl) (Nat.le_of_ble_eq_true rfl) (Nat.le_of_ble_eq_true rfl)
set_option maxHeartbeats 400000 in
set_option maxRecDepth 100000 in
theorem c_X3_node_x1 (l : Launch) (hl0 : l.stackTraces = false) (G : xG) (sa : Nat → Nat) (a : Nat → Nat) (S T : Nat → Nat → Int32) (L : Nat → Nat → Int64) (F : Nat → Int32) (bs : Int64) (x y : Int32) (h2 : F 2 = nI 0) : xMx l yX3_node wsX3_node { frames := 7, cells := 1, slots := 6, locals := 102 } [.ref (a 0), .int x, .int y] G sa (wX G a S T L F bs) "java/lang/IllegalStateException" := by
  refine x_ofx (cc := cX3_node) (maxL := 3) (ret := (some .int)) (by decide) rfl (Nat.le_of_ble_eq_true rfl) ?_
  intro p e s m args below meth c ls A C hml hA hH hl hX hZ hlocks hno
  have hl : lv_has ls 3 [(0, .ref (a 0)), (1, .int x), (2, .int y)] := hl
  refine lv_aload_n C.1 C.2.1 dX3_node_0 rfl (lv_at hl 0 rfl) ?_
  exact x_cx (a9 := #[]) (vx_runV (As := []) (rest := []) (x_fix C hml) (c_X3_requireTree_x l hl0 G sa a S T L F bs h2 _) (cwV 0 C.2.2.2.1 gX3_node_X3_requireTree rfl rfl rfl (by decide +kernel) ⟨(Nat.le_of_ble_eq_true rfl), (Nat.le_of_ble_eq_true rfl)⟩) (x_pvx C hX hZ hA hH rfl gX_0 rfl rfl) rfl rfl hl.1 rfl (lv_room (Nat.le_of_ble_eq_true rfl)) dX3_node_1 ⟨(Nat.le_of_ble_eq_true rfl), (Nat.le_of_ble_eq_true rfl)⟩) hA hH hlocks hno (Nat.le_of_ble_eq_true rfl) (Nat.le_of_ble_eq_true rfl)
set_option maxHeartbeats 400000 in
set_option maxRecDepth 100000 in
theorem c_X3_length_x1 (l : Launch) (hl0 : l.stackTraces = false) (G : xG) (sa : Nat → Nat) (a : Nat → Nat) (S T : Nat → Nat → Int32) (L : Nat → Nat → Int64) (F : Nat → Int32) (bs : Int64) (h2 : F 2 = nI 0) : xMx l yX3_length wsX3_length { frames := 7, cells := 1, slots := 6, locals := 102 } [.ref (a 0)] G sa (wX G a S T L F bs) "java/lang/IllegalStateException" := by
  refine x_ofx (cc := cX3_length) (maxL := 1) (ret := (some .int)) (by decide) rfl (Nat.le_of_ble_eq_true rfl) ?_
  intro p e s m args below meth c ls A C hml hA hH hl hX hZ hlocks hno
  have hl : lv_has ls 1 [(0, .ref (a 0))] := hl
  refine lv_aload_n C.1 C.2.1 dX3_length_0 rfl (lv_at hl 0 rfl) ?_
  exact x_cx (a9 := #[]) (vx_runV (As := []) (rest := []) (x_fix C hml) (c_X3_requireTree_x l hl0 G sa a S T L F bs h2 _) (cwV 0 C.2.2.2.1 gX3_length_X3_requireTree rfl rfl rfl (by decide +kernel) ⟨(Nat.le_of_ble_eq_true rfl), (Nat.le_of_ble_eq_true rfl)⟩) (x_pvx C hX hZ hA hH rfl gX_0 rfl rfl) rfl rfl hl.1 rfl (lv_room (Nat.le_of_ble_eq_true rfl)) dX3_length_1 ⟨(Nat.le_of_ble_eq_true rfl), (Nat.le_of_ble_eq_true rfl)⟩) hA hH hlocks hno (Nat.le_of_ble_eq_true rfl) (Nat.le_of_ble_eq_true rfl)
set_option maxHeartbeats 400000 in
set_option maxRecDepth 100000 in
theorem c_X3_depth_x1 (l : Launch) (hl0 : l.stackTraces = false) (G : xG) (sa : Nat → Nat) (a : Nat → Nat) (S T : Nat → Nat → Int32) (L : Nat → Nat → Int64) (F : Nat → Int32) (bs : Int64) (x : Int32) (h2 : F 2 = nI 0) : xMx l yX3_depth wsX3_depth { frames := 7, cells := 1, slots := 6, locals := 102 } [.ref (a 0), .int x] G sa (wX G a S T L F bs) "java/lang/IllegalStateException" := by
  refine x_ofx (cc := cX3_depth) (maxL := 2) (ret := (some .int)) (by decide) rfl (Nat.le_of_ble_eq_true rfl) ?_
  intro p e s m args below meth c ls A C hml hA hH hl hX hZ hlocks hno
  have hl : lv_has ls 2 [(0, .ref (a 0)), (1, .int x)] := hl
  refine lv_aload_n C.1 C.2.1 dX3_depth_0 rfl (lv_at hl 0 rfl) ?_
  exact x_cx (a9 := #[]) (vx_runV (As := []) (rest := []) (x_fix C hml) (c_X3_requireTree_x l hl0 G sa a S T L F bs h2 _) (cwV 0 C.2.2.2.1 gX3_depth_X3_requireTree rfl rfl rfl (by decide +kernel) ⟨(Nat.le_of_ble_eq_true rfl), (Nat.le_of_ble_eq_true rfl)⟩) (x_pvx C hX hZ hA hH rfl gX_0 rfl rfl) rfl rfl hl.1 rfl (lv_room (Nat.le_of_ble_eq_true rfl)) dX3_depth_1 ⟨(Nat.le_of_ble_eq_true rfl), (Nat.le_of_ble_eq_true rfl)⟩) hA hH hlocks hno (Nat.le_of_ble_eq_true rfl) (Nat.le_of_ble_eq_true rfl)
set_option maxHeartbeats 400000 in
set_option maxRecDepth 100000 in
theorem c_X3_set_x1 (l : Launch) (hl0 : l.stackTraces = false) (G : xG) (sa : Nat → Nat) (a : Nat → Nat) (S T : Nat → Nat → Int32) (L : Nat → Nat → Int64) (F : Nat → Int32) (bs : Int64) (x b : Int32) (h2 : F 2 = nI 0) : xMx l yX3_set wsX3_set { frames := 7, cells := 1, slots := 6, locals := 102 } [.ref (a 0), .int x, .int b] G sa (wX G a S T L F bs) "java/lang/IllegalStateException" := by
  refine x_ofx (cc := cX3_set) (maxL := 5) (ret := (some .boolean)) (by decide) rfl (Nat.le_of_ble_eq_true rfl) ?_
  intro p e s m args below meth c ls A C hml hA hH hl hX hZ hlocks hno
  have hl : lv_has ls 5 [(0, .ref (a 0)), (1, .int x), (2, .int b)] := hl
  refine lv_aload_n C.1 C.2.1 dX3_set_0 rfl (lv_at hl 0 rfl) ?_
  exact x_cx (a9 := #[]) (vx_runV (As := []) (rest := []) (x_fix C hml) (c_X3_requireTree_x l hl0 G sa a S T L F bs h2 _) (cwV 0 C.2.2.2.1 gX3_set_X3_requireTree rfl rfl rfl (by decide +kernel) ⟨(Nat.le_of_ble_eq_true rfl), (Nat.le_of_ble_eq_true rfl)⟩) (x_pvx C hX hZ hA hH rfl gX_0 rfl rfl) rfl rfl hl.1 rfl (lv_room (Nat.le_of_ble_eq_true rfl)) dX3_set_1 ⟨(Nat.le_of_ble_eq_true rfl), (Nat.le_of_ble_eq_true rfl)⟩) hA hH hlocks hno (Nat.le_of_ble_eq_true rfl) (Nat.le_of_ble_eq_true rfl)
set_option maxHeartbeats 400000 in
set_option maxRecDepth 100000 in
theorem c_X3_setting_x1 (l : Launch) (hl0 : l.stackTraces = false) (G : xG) (sa : Nat → Nat) (a : Nat → Nat) (S T : Nat → Nat → Int32) (L : Nat → Nat → Int64) (F : Nat → Int32) (bs : Int64) (h2 : F 2 = nI 0) : xMx l yX3_setting wsX3_setting { frames := 7, cells := 1, slots := 6, locals := 102 } [.ref (a 0)] G sa (wX G a S T L F bs) "java/lang/IllegalStateException" := by
  refine x_ofx (cc := cX3_setting) (maxL := 1) (ret := (some .int)) (by decide) rfl (Nat.le_of_ble_eq_true rfl) ?_
  intro p e s m args below meth c ls A C hml hA hH hl hX hZ hlocks hno
  have hl : lv_has ls 1 [(0, .ref (a 0))] := hl
  refine lv_aload_n C.1 C.2.1 dX3_setting_0 rfl (lv_at hl 0 rfl) ?_
  exact x_cx (a9 := #[]) (vx_runV (As := []) (rest := []) (x_fix C hml) (c_X3_requireTree_x l hl0 G sa a S T L F bs h2 _) (cwV 0 C.2.2.2.1 gX3_setting_X3_requireTree rfl rfl rfl (by decide +kernel) ⟨(Nat.le_of_ble_eq_true rfl), (Nat.le_of_ble_eq_true rfl)⟩) (x_pvx C hX hZ hA hH rfl gX_0 rfl rfl) rfl rfl hl.1 rfl (lv_room (Nat.le_of_ble_eq_true rfl)) dX3_setting_1 ⟨(Nat.le_of_ble_eq_true rfl), (Nat.le_of_ble_eq_true rfl)⟩) hA hH hlocks hno (Nat.le_of_ble_eq_true rfl) (Nat.le_of_ble_eq_true rfl)
set_option maxHeartbeats 400000 in
set_option maxRecDepth 100000 in
theorem c_X3_load_x1 (l : Launch) (hl0 : l.stackTraces = false) (G : xG) (sa : Nat → Nat) (a : Nat → Nat) (S T : Nat → Nat → Int32) (L : Nat → Nat → Int64) (F : Nat → Int32) (bs : Int64) (x b : Int32) (h2 : F 2 = nI 0) : xMx l yX3_load wsX3_load { frames := 7, cells := 1, slots := 6, locals := 102 } [.ref (a 0), .int x, .int b] G sa (wX G a S T L F bs) "java/lang/IllegalStateException" := by
  refine x_ofx (cc := cX3_load) (maxL := 3) (ret := (some .long)) (by decide) rfl (Nat.le_of_ble_eq_true rfl) ?_
  intro p e s m args below meth c ls A C hml hA hH hl hX hZ hlocks hno
  have hl : lv_has ls 3 [(0, .ref (a 0)), (1, .int x), (2, .int b)] := hl
  refine lv_aload_n C.1 C.2.1 dX3_load_0 rfl (lv_at hl 0 rfl) ?_
  exact x_cx (a9 := #[]) (vx_runV (As := []) (rest := []) (x_fix C hml) (c_X3_requireTree_x l hl0 G sa a S T L F bs h2 _) (cwV 0 C.2.2.2.1 gX3_load_X3_requireTree rfl rfl rfl (by decide +kernel) ⟨(Nat.le_of_ble_eq_true rfl), (Nat.le_of_ble_eq_true rfl)⟩) (x_pvx C hX hZ hA hH rfl gX_0 rfl rfl) rfl rfl hl.1 rfl (lv_room (Nat.le_of_ble_eq_true rfl)) dX3_load_1 ⟨(Nat.le_of_ble_eq_true rfl), (Nat.le_of_ble_eq_true rfl)⟩) hA hH hlocks hno (Nat.le_of_ble_eq_true rfl) (Nat.le_of_ble_eq_true rfl)
set_option maxHeartbeats 400000 in
set_option maxRecDepth 100000 in
theorem c_X3_delay_x1 (l : Launch) (hl0 : l.stackTraces = false) (G : xG) (sa : Nat → Nat) (a : Nat → Nat) (S T : Nat → Nat → Int32) (L : Nat → Nat → Int64) (F : Nat → Int32) (bs : Int64) (x : Int32) (h2 : F 2 = nI 0) : xMx l yX3_delay wsX3_delay { frames := 7, cells := 1, slots := 6, locals := 102 } [.ref (a 0), .int x] G sa (wX G a S T L F bs) "java/lang/IllegalStateException" := by
  refine x_ofx (cc := cX3_delay) (maxL := 2) (ret := (some .long)) (by decide) rfl (Nat.le_of_ble_eq_true rfl) ?_
  intro p e s m args below meth c ls A C hml hA hH hl hX hZ hlocks hno
  have hl : lv_has ls 2 [(0, .ref (a 0)), (1, .int x)] := hl
  refine lv_aload_n C.1 C.2.1 dX3_delay_0 rfl (lv_at hl 0 rfl) ?_
  exact x_cx (a9 := #[]) (vx_runV (As := []) (rest := []) (x_fix C hml) (c_X3_requireTree_x l hl0 G sa a S T L F bs h2 _) (cwV 0 C.2.2.2.1 gX3_delay_X3_requireTree rfl rfl rfl (by decide +kernel) ⟨(Nat.le_of_ble_eq_true rfl), (Nat.le_of_ble_eq_true rfl)⟩) (x_pvx C hX hZ hA hH rfl gX_0 rfl rfl) rfl rfl hl.1 rfl (lv_room (Nat.le_of_ble_eq_true rfl)) dX3_delay_1 ⟨(Nat.le_of_ble_eq_true rfl), (Nat.le_of_ble_eq_true rfl)⟩) hA hH hlocks hno (Nat.le_of_ble_eq_true rfl) (Nat.le_of_ble_eq_true rfl)
set_option maxHeartbeats 400000 in
set_option maxRecDepth 100000 in
theorem c_X3_slack_x1 (l : Launch) (hl0 : l.stackTraces = false) (G : xG) (sa : Nat → Nat) (a : Nat → Nat) (S T : Nat → Nat → Int32) (L : Nat → Nat → Int64) (F : Nat → Int32) (bs : Int64) (h2 : F 2 = nI 0) : xMx l yX3_slack wsX3_slack { frames := 7, cells := 1, slots := 6, locals := 102 } [.ref (a 0)] G sa (wX G a S T L F bs) "java/lang/IllegalStateException" := by
  refine x_ofx (cc := cX3_slack) (maxL := 1) (ret := (some .long)) (by decide) rfl (Nat.le_of_ble_eq_true rfl) ?_
  intro p e s m args below meth c ls A C hml hA hH hl hX hZ hlocks hno
  have hl : lv_has ls 1 [(0, .ref (a 0))] := hl
  refine lv_aload_n C.1 C.2.1 dX3_slack_0 rfl (lv_at hl 0 rfl) ?_
  exact x_cx (a9 := #[]) (vx_runV (As := []) (rest := []) (x_fix C hml) (c_X3_requireTree_x l hl0 G sa a S T L F bs h2 _) (cwV 0 C.2.2.2.1 gX3_slack_X3_requireTree rfl rfl rfl (by decide +kernel) ⟨(Nat.le_of_ble_eq_true rfl), (Nat.le_of_ble_eq_true rfl)⟩) (x_pvx C hX hZ hA hH rfl gX_0 rfl rfl) rfl rfl hl.1 rfl (lv_room (Nat.le_of_ble_eq_true rfl)) dX3_slack_1 ⟨(Nat.le_of_ble_eq_true rfl), (Nat.le_of_ble_eq_true rfl)⟩) hA hH hlocks hno (Nat.le_of_ble_eq_true rfl) (Nat.le_of_ble_eq_true rfl)
set_option maxHeartbeats 400000 in
set_option maxRecDepth 100000 in
theorem c_X3_best_x1 (l : Launch) (hl0 : l.stackTraces = false) (G : xG) (sa : Nat → Nat) (a : Nat → Nat) (S T : Nat → Nat → Int32) (L : Nat → Nat → Int64) (F : Nat → Int32) (bs : Int64) (h2 : F 2 = nI 0) : xMx l yX3_best wsX3_best { frames := 7, cells := 1, slots := 6, locals := 102 } [.ref (a 0)] G sa (wX G a S T L F bs) "java/lang/IllegalStateException" := by
  refine x_ofx (cc := cX3_best) (maxL := 1) (ret := (some .long)) (by decide) rfl (Nat.le_of_ble_eq_true rfl) ?_
  intro p e s m args below meth c ls A C hml hA hH hl hX hZ hlocks hno
  have hl : lv_has ls 1 [(0, .ref (a 0))] := hl
  refine lv_aload_n C.1 C.2.1 dX3_best_0 rfl (lv_at hl 0 rfl) ?_
  exact x_cx (a9 := #[]) (vx_runV (As := []) (rest := []) (x_fix C hml) (c_X3_requireTree_x l hl0 G sa a S T L F bs h2 _) (cwV 0 C.2.2.2.1 gX3_best_X3_requireTree rfl rfl rfl (by decide +kernel) ⟨(Nat.le_of_ble_eq_true rfl), (Nat.le_of_ble_eq_true rfl)⟩) (x_pvx C hX hZ hA hH rfl gX_0 rfl rfl) rfl rfl hl.1 rfl (lv_room (Nat.le_of_ble_eq_true rfl)) dX3_best_1 ⟨(Nat.le_of_ble_eq_true rfl), (Nat.le_of_ble_eq_true rfl)⟩) hA hH hlocks hno (Nat.le_of_ble_eq_true rfl) (Nat.le_of_ble_eq_true rfl)
set_option maxHeartbeats 400000 in
set_option maxRecDepth 100000 in
theorem c_X3_improve_x1 (l : Launch) (hl0 : l.stackTraces = false) (G : xG) (sa : Nat → Nat) (a : Nat → Nat) (S T : Nat → Nat → Int32) (L : Nat → Nat → Int64) (F : Nat → Int32) (bs : Int64) (h2 : F 2 = nI 0) : xMx l yX3_improve wsX3_improve { frames := 7, cells := 1, slots := 6, locals := 102 } [.ref (a 0)] G sa (wX G a S T L F bs) "java/lang/IllegalStateException" := by
  refine x_ofx (cc := cX3_improve) (maxL := 1) (ret := (some .int)) (by decide) rfl (Nat.le_of_ble_eq_true rfl) ?_
  intro p e s m args below meth c ls A C hml hA hH hl hX hZ hlocks hno
  have hl : lv_has ls 1 [(0, .ref (a 0))] := hl
  refine lv_aload_n C.1 C.2.1 dX3_improve_0 rfl (lv_at hl 0 rfl) ?_
  exact x_cx (a9 := #[]) (vx_runV (As := []) (rest := []) (x_fix C hml) (c_X3_requireTree_x l hl0 G sa a S T L F bs h2 _) (cwV 0 C.2.2.2.1 gX3_improve_X3_requireTree rfl rfl rfl (by decide +kernel) ⟨(Nat.le_of_ble_eq_true rfl), (Nat.le_of_ble_eq_true rfl)⟩) (x_pvx C hX hZ hA hH rfl gX_0 rfl rfl) rfl rfl hl.1 rfl (lv_room (Nat.le_of_ble_eq_true rfl)) dX3_improve_1 ⟨(Nat.le_of_ble_eq_true rfl), (Nat.le_of_ble_eq_true rfl)⟩) hA hH hlocks hno (Nat.le_of_ble_eq_true rfl) (Nat.le_of_ble_eq_true rfl)
set_option maxHeartbeats 400000 in
set_option maxRecDepth 100000 in
theorem c_X3_node_x2 (l : Launch) (hl0 : l.stackTraces = false) (G : xG) (sa : Nat → Nat) (a : Nat → Nat) (S T : Nat → Nat → Int32) (L : Nat → Nat → Int64) (F : Nat → Int32) (bs : Int64) (x y : Int32) (lv nd : Nat) (h2 : F 2 = nI 1) (h5 : F 5 = nI lv) (h6 : F 6 = nI nd) (h1 : 1 ≤ lv) (hl10 : lv ≤ 10) (hl9 : lv ≤ nd) (hn : nd ≤ 19) (hneg : ¬ (inW x (nI 0) (nI (nd - 1)) ∧ inW y (nI 0) (nI 10))) : xMx l yX3_node wsX3_node { frames := 6, cells := 1, slots := 6, locals := 82 } [.ref (a 0), .int x, .int y] G sa (wX G a S T L F bs) "java/lang/IndexOutOfBoundsException" := by
  refine x_ofx (cc := cX3_node) (maxL := 3) (ret := (some .int)) (by decide) rfl (Nat.le_of_ble_eq_true rfl) ?_
  intro p e s m args below meth c ls A C hml hA hH hl hX hZ hlocks hno
  have hl : lv_has ls 3 [(0, .ref (a 0)), (1, .int x), (2, .int y)] := hl
  have inX2 : ∀ w ∈ wsX20, w ∈ wsX3_node := fun _ h => (List.mem_cons_of_mem _ (List.mem_append_left _ (List.mem_append_left _ (List.mem_append_right _ h))))
  have inX3 : ∀ w ∈ wsX30, w ∈ wsX3_node := fun _ h => (List.mem_cons_of_mem _ (List.mem_append_left _ (List.mem_append_left _ (List.mem_append_left _ (List.mem_append_right _ h)))))
  refine lv_aload_n C.1 C.2.1 dX3_node_0 rfl (lv_at hl 0 rfl) ?_
  refine x_cv (w' := wX G a S T L F bs) (va_runV (As := []) (rest := []) (x_fix C hml) (c_X3_requireTree l G a S T L F bs h2 _) (cwV 0 C.2.2.2.1 gX3_node_X3_requireTree rfl rfl rfl (by decide +kernel) ⟨Nat.le_of_ble_eq_true rfl, Nat.le_of_ble_eq_true rfl⟩) (x_pv C hH rfl gX_0 rfl rfl) rfl rfl hl.1 rfl (lv_room (Nat.le_of_ble_eq_true rfl)) dX3_node_1 ⟨Nat.le_of_ble_eq_true rfl, Nat.le_of_ble_eq_true rfl⟩) hH hA (fun H locs hH => ?_)
  refine lv_iload_n C.1 C.2.1 dX3_node_4 rfl (lv_at hl 1 rfl) ?_
  refine lv_iconst (v := nI 0) C.1 C.2.1 dX3_node_5 (by decide) ?_
  refine lv_aload_n C.1 C.2.1 dX3_node_6 rfl (lv_at hl 0 rfl) ?_
  refine x_get (C := RX3) (T := TX3) (N := 7) (v := .ref (a 6)) C inX3 hH 0 gX_0 rfl 1 (by decide) rfl rfl 3 rfl dX3_node_7 ?_
  refine x_get (C := RX2) (T := TX2) (N := 14) (v := .int (F 6)) C inX2 hH 6 gX_6 rfl 13 (by decide) rfl rfl 4 rfl dX3_node_10 ?_
  refine x_toi h6 ?_
  refine lv_iconst (v := nI 1) C.1 C.2.1 dX3_node_13 (by decide) ?_
  refine lv_isub C.1 C.2.1 dX3_node_14 ?_
  refine x_toi (pk_sub (a := nd) (b := 1) (by omega)) ?_
  refine x_ci (w' := wX G a S T L F bs) (va_runS (As := [.int x, .int (nI 0), .int (nI (nd - 1))]) (rest := []) (x_fix C hml) (c_X3_isWithin l G a S T L F bs x (nI 0) (nI (nd - 1)) _) (cwS 3 C.2.2.2.1 gX3_node_X3_isWithin rfl rfl rfl (by decide +kernel) ⟨Nat.le_of_ble_eq_true rfl, Nat.le_of_ble_eq_true rfl⟩) (x_ps C hH) rfl rfl hl.1 rfl (lv_room (Nat.le_of_ble_eq_true rfl)) dX3_node_15 ⟨Nat.le_of_ble_eq_true rfl, Nat.le_of_ble_eq_true rfl⟩) hH hA (fun H locs hH => ?_)
  refine lv_if_eq (tgt := 31) C.1 C.2.1 dX3_node_18 (by decide) (fun c_1 => ?_) (fun c_1 => ?_)
  · rw [xb_0] at c_1
    exact x_thr_IOB C hl0 hX.1 (hX.2.2.2.2.2.2.2.2.2.1) hZ (hl.1.trans hml.symm) hlocks hno hH 1 2 rfl rfl (fun _ h => (List.mem_cons_of_mem _ (List.mem_append_left _ (List.mem_append_right _ h)))) dX3_node_31 dX3_node_34 dX3_node_35 dX3_node_37 dX3_node_40 (Nat.le_of_ble_eq_true rfl) (Nat.le_of_ble_eq_true rfl) (Nat.le_of_ble_eq_true rfl) (Nat.le_of_ble_eq_true rfl) (Nat.le_of_ble_eq_true rfl) (Nat.le_of_ble_eq_true rfl)
  · rw [xb_0] at c_1
    have c_1 := Classical.not_not.mp c_1
    refine lv_iload_n C.1 C.2.1 dX3_node_21 rfl (lv_at hl 2 rfl) ?_
    refine lv_iconst (v := nI 0) C.1 C.2.1 dX3_node_22 (by decide) ?_
    refine lv_bipush (v := nI 10) C.1 C.2.1 dX3_node_23 (by decide) ?_
    refine x_ci (w' := wX G a S T L F bs) (va_runS (As := [.int y, .int (nI 0), .int (nI 10)]) (rest := []) (x_fix C hml) (c_X3_isWithin l G a S T L F bs y (nI 0) (nI 10) _) (cwS 3 C.2.2.2.1 gX3_node_X3_isWithin rfl rfl rfl (by decide +kernel) ⟨Nat.le_of_ble_eq_true rfl, Nat.le_of_ble_eq_true rfl⟩) (x_ps C hH) rfl rfl hl.1 rfl (lv_room (Nat.le_of_ble_eq_true rfl)) dX3_node_25 ⟨Nat.le_of_ble_eq_true rfl, Nat.le_of_ble_eq_true rfl⟩) hH hA (fun H locs hH => ?_)
    refine lv_if_ne (tgt := 41) C.1 C.2.1 dX3_node_28 (by decide) (fun c_2 => ?_) (fun c_2 => ?_)
    · rw [xb_0] at c_2
      have c_2 := Classical.not_not.mp c_2
      exact absurd ⟨c_1, c_2⟩ hneg
    · rw [xb_0] at c_2
      exact x_thr_IOB C hl0 hX.1 (hX.2.2.2.2.2.2.2.2.2.1) hZ (hl.1.trans hml.symm) hlocks hno hH 1 2 rfl rfl (fun _ h => (List.mem_cons_of_mem _ (List.mem_append_left _ (List.mem_append_right _ h)))) dX3_node_31 dX3_node_34 dX3_node_35 dX3_node_37 dX3_node_40 (Nat.le_of_ble_eq_true rfl) (Nat.le_of_ble_eq_true rfl) (Nat.le_of_ble_eq_true rfl) (Nat.le_of_ble_eq_true rfl) (Nat.le_of_ble_eq_true rfl) (Nat.le_of_ble_eq_true rfl)
set_option maxHeartbeats 400000 in
set_option maxRecDepth 100000 in
theorem c_X3_depth_x2 (l : Launch) (hl0 : l.stackTraces = false) (G : xG) (sa : Nat → Nat) (a : Nat → Nat) (S T : Nat → Nat → Int32) (L : Nat → Nat → Int64) (F : Nat → Int32) (bs : Int64) (x : Int32) (lv nd : Nat) (h2 : F 2 = nI 1) (h5 : F 5 = nI lv) (h6 : F 6 = nI nd) (h1 : 1 ≤ lv) (hl10 : lv ≤ 10) (hl9 : lv ≤ nd) (hn : nd ≤ 19) (hneg : ¬ inW x (nI 0) (nI (lv - 1))) : xMx l yX3_depth wsX3_depth { frames := 7, cells := 1, slots := 6, locals := 103 } [.ref (a 0), .int x] G sa (wX G a S T L F bs) "java/lang/IndexOutOfBoundsException" := by
  refine x_ofx (cc := cX3_depth) (maxL := 2) (ret := (some .int)) (by decide) rfl (Nat.le_of_ble_eq_true rfl) ?_
  intro p e s m args below meth c ls A C hml hA hH hl hX hZ hlocks hno
  have hl : lv_has ls 2 [(0, .ref (a 0)), (1, .int x)] := hl
  refine lv_aload_n C.1 C.2.1 dX3_depth_0 rfl (lv_at hl 0 rfl) ?_
  refine x_cv (w' := wX G a S T L F bs) (va_runV (As := []) (rest := []) (x_fix C hml) (c_X3_requireTree l G a S T L F bs h2 _) (cwV 0 C.2.2.2.1 gX3_depth_X3_requireTree rfl rfl rfl (by decide +kernel) ⟨Nat.le_of_ble_eq_true rfl, Nat.le_of_ble_eq_true rfl⟩) (x_pv C hH rfl gX_0 rfl rfl) rfl rfl hl.1 rfl (lv_room (Nat.le_of_ble_eq_true rfl)) dX3_depth_1 ⟨Nat.le_of_ble_eq_true rfl, Nat.le_of_ble_eq_true rfl⟩) hH hA (fun H locs hH => ?_)
  refine lv_aload_n C.1 C.2.1 dX3_depth_4 rfl (lv_at hl 0 rfl) ?_
  refine lv_iload_n C.1 C.2.1 dX3_depth_5 rfl (lv_at hl 1 rfl) ?_
  exact x_cx (a9 := #[]) (vx_runV (As := [.int x]) (rest := []) (x_fix C hml) (c_X3_requireSink_x l hl0 G sa a S T L F bs x lv h5 h1 hl10 hneg _) (cwV 1 C.2.2.2.1 gX3_depth_X3_requireSink rfl rfl rfl (by decide +kernel) ⟨(Nat.le_of_ble_eq_true rfl), (Nat.le_of_ble_eq_true rfl)⟩) (x_pvx C hX hZ hA hH rfl gX_0 rfl rfl) rfl rfl hl.1 rfl (lv_room (Nat.le_of_ble_eq_true rfl)) dX3_depth_6 ⟨(Nat.le_of_ble_eq_true rfl), (Nat.le_of_ble_eq_true rfl)⟩) hA hH hlocks hno (Nat.le_of_ble_eq_true rfl) (Nat.le_of_ble_eq_true rfl)
set_option maxHeartbeats 400000 in
set_option maxRecDepth 100000 in
theorem c_X3_delay_x2 (l : Launch) (hl0 : l.stackTraces = false) (G : xG) (sa : Nat → Nat) (a : Nat → Nat) (S T : Nat → Nat → Int32) (L : Nat → Nat → Int64) (F : Nat → Int32) (bs : Int64) (x : Int32) (lv nd : Nat) (h2 : F 2 = nI 1) (h5 : F 5 = nI lv) (h6 : F 6 = nI nd) (h1 : 1 ≤ lv) (hl10 : lv ≤ 10) (hl9 : lv ≤ nd) (hn : nd ≤ 19) (hneg : ¬ inW x (nI 0) (nI (lv - 1))) : xMx l yX3_delay wsX3_delay { frames := 7, cells := 1, slots := 6, locals := 103 } [.ref (a 0), .int x] G sa (wX G a S T L F bs) "java/lang/IndexOutOfBoundsException" := by
  refine x_ofx (cc := cX3_delay) (maxL := 2) (ret := (some .long)) (by decide) rfl (Nat.le_of_ble_eq_true rfl) ?_
  intro p e s m args below meth c ls A C hml hA hH hl hX hZ hlocks hno
  have hl : lv_has ls 2 [(0, .ref (a 0)), (1, .int x)] := hl
  refine lv_aload_n C.1 C.2.1 dX3_delay_0 rfl (lv_at hl 0 rfl) ?_
  refine x_cv (w' := wX G a S T L F bs) (va_runV (As := []) (rest := []) (x_fix C hml) (c_X3_requireTree l G a S T L F bs h2 _) (cwV 0 C.2.2.2.1 gX3_delay_X3_requireTree rfl rfl rfl (by decide +kernel) ⟨Nat.le_of_ble_eq_true rfl, Nat.le_of_ble_eq_true rfl⟩) (x_pv C hH rfl gX_0 rfl rfl) rfl rfl hl.1 rfl (lv_room (Nat.le_of_ble_eq_true rfl)) dX3_delay_1 ⟨Nat.le_of_ble_eq_true rfl, Nat.le_of_ble_eq_true rfl⟩) hH hA (fun H locs hH => ?_)
  refine lv_aload_n C.1 C.2.1 dX3_delay_4 rfl (lv_at hl 0 rfl) ?_
  refine lv_iload_n C.1 C.2.1 dX3_delay_5 rfl (lv_at hl 1 rfl) ?_
  exact x_cx (a9 := #[]) (vx_runV (As := [.int x]) (rest := []) (x_fix C hml) (c_X3_requireSink_x l hl0 G sa a S T L F bs x lv h5 h1 hl10 hneg _) (cwV 1 C.2.2.2.1 gX3_delay_X3_requireSink rfl rfl rfl (by decide +kernel) ⟨(Nat.le_of_ble_eq_true rfl), (Nat.le_of_ble_eq_true rfl)⟩) (x_pvx C hX hZ hA hH rfl gX_0 rfl rfl) rfl rfl hl.1 rfl (lv_room (Nat.le_of_ble_eq_true rfl)) dX3_delay_6 ⟨(Nat.le_of_ble_eq_true rfl), (Nat.le_of_ble_eq_true rfl)⟩) hA hH hlocks hno (Nat.le_of_ble_eq_true rfl) (Nat.le_of_ble_eq_true rfl)
set_option maxHeartbeats 400000 in
set_option maxRecDepth 100000 in
theorem c_X3_set_x2 (l : Launch) (hl0 : l.stackTraces = false) (G : xG) (sa : Nat → Nat) (a : Nat → Nat) (S T : Nat → Nat → Int32) (L : Nat → Nat → Int64) (F : Nat → Int32) (bs : Int64) (x b : Int32) (lv nd : Nat) (h2 : F 2 = nI 1) (h5 : F 5 = nI lv) (h6 : F 6 = nI nd) (h1 : 1 ≤ lv) (hl10 : lv ≤ 10) (hl9 : lv ≤ nd) (hn : nd ≤ 19) (hneg : ¬ inW x (nI lv) (nI (nd - 1))) : xMx l yX3_set wsX3_set { frames := 6, cells := 1, slots := 6, locals := 82 } [.ref (a 0), .int x, .int b] G sa (wX G a S T L F bs) "java/lang/IndexOutOfBoundsException" := by
  refine x_ofx (cc := cX3_set) (maxL := 5) (ret := (some .boolean)) (by decide) rfl (Nat.le_of_ble_eq_true rfl) ?_
  intro p e s m args below meth c ls A C hml hA hH hl hX hZ hlocks hno
  have hl : lv_has ls 5 [(0, .ref (a 0)), (1, .int x), (2, .int b)] := hl
  have inX2 : ∀ w ∈ wsX20, w ∈ wsX3_set := fun _ h => (List.mem_cons_of_mem _ (List.mem_append_left _ (List.mem_append_left _ (List.mem_append_right _ h))))
  have inX3 : ∀ w ∈ wsX30, w ∈ wsX3_set := fun _ h => (List.mem_cons_of_mem _ (List.mem_append_left _ (List.mem_append_left _ (List.mem_append_left _ (List.mem_append_right _ h)))))
  refine lv_aload_n C.1 C.2.1 dX3_set_0 rfl (lv_at hl 0 rfl) ?_
  refine x_cv (w' := wX G a S T L F bs) (va_runV (As := []) (rest := []) (x_fix C hml) (c_X3_requireTree l G a S T L F bs h2 _) (cwV 0 C.2.2.2.1 gX3_set_X3_requireTree rfl rfl rfl (by decide +kernel) ⟨Nat.le_of_ble_eq_true rfl, Nat.le_of_ble_eq_true rfl⟩) (x_pv C hH rfl gX_0 rfl rfl) rfl rfl hl.1 rfl (lv_room (Nat.le_of_ble_eq_true rfl)) dX3_set_1 ⟨Nat.le_of_ble_eq_true rfl, Nat.le_of_ble_eq_true rfl⟩) hH hA (fun H locs hH => ?_)
  refine lv_iload_n C.1 C.2.1 dX3_set_4 rfl (lv_at hl 1 rfl) ?_
  refine lv_aload_n C.1 C.2.1 dX3_set_5 rfl (lv_at hl 0 rfl) ?_
  refine x_get (C := RX3) (T := TX3) (N := 7) (v := .ref (a 6)) C inX3 hH 0 gX_0 rfl 1 (by decide) rfl rfl 3 rfl dX3_set_6 ?_
  refine x_get (C := RX2) (T := TX2) (N := 14) (v := .int (F 5)) C inX2 hH 6 gX_6 rfl 12 (by decide) rfl rfl 4 rfl dX3_set_9 ?_
  refine x_toi h5 ?_
  refine lv_aload_n C.1 C.2.1 dX3_set_12 rfl (lv_at hl 0 rfl) ?_
  refine x_get (C := RX3) (T := TX3) (N := 7) (v := .ref (a 6)) C inX3 hH 0 gX_0 rfl 1 (by decide) rfl rfl 3 rfl dX3_set_13 ?_
  refine x_get (C := RX2) (T := TX2) (N := 14) (v := .int (F 6)) C inX2 hH 6 gX_6 rfl 13 (by decide) rfl rfl 5 rfl dX3_set_16 ?_
  refine x_toi h6 ?_
  refine lv_iconst (v := nI 1) C.1 C.2.1 dX3_set_19 (by decide) ?_
  refine lv_isub C.1 C.2.1 dX3_set_20 ?_
  refine x_toi (pk_sub (a := nd) (b := 1) (by omega)) ?_
  refine x_ci (w' := wX G a S T L F bs) (va_runS (As := [.int x, .int (nI lv), .int (nI (nd - 1))]) (rest := []) (x_fix C hml) (c_X3_isWithin l G a S T L F bs x (nI lv) (nI (nd - 1)) _) (cwS 3 C.2.2.2.1 gX3_set_X3_isWithin rfl rfl rfl (by decide +kernel) ⟨Nat.le_of_ble_eq_true rfl, Nat.le_of_ble_eq_true rfl⟩) (x_ps C hH) rfl rfl hl.1 rfl (lv_room (Nat.le_of_ble_eq_true rfl)) dX3_set_21 ⟨Nat.le_of_ble_eq_true rfl, Nat.le_of_ble_eq_true rfl⟩) hH hA (fun H locs hH => ?_)
  refine lv_if_ne (tgt := 37) C.1 C.2.1 dX3_set_24 (by decide) (fun z8 => absurd (xb_0.mpr hneg) z8) (fun _ => ?_)
  exact x_thr_IOB C hl0 hX.1 (hX.2.2.2.2.2.2.2.2.2.2.1) hZ (hl.1.trans hml.symm) hlocks hno hH 1 2 rfl rfl (fun _ h => (List.mem_cons_of_mem _ (List.mem_append_left _ (List.mem_append_right _ h)))) dX3_set_27 dX3_set_30 dX3_set_31 dX3_set_33 dX3_set_36 (Nat.le_of_ble_eq_true rfl) (Nat.le_of_ble_eq_true rfl) (Nat.le_of_ble_eq_true rfl) (Nat.le_of_ble_eq_true rfl) (Nat.le_of_ble_eq_true rfl) (Nat.le_of_ble_eq_true rfl)
set_option maxHeartbeats 400000 in
set_option maxRecDepth 100000 in
theorem c_X3_load_x2 (l : Launch) (hl0 : l.stackTraces = false) (G : xG) (sa : Nat → Nat) (a : Nat → Nat) (S T : Nat → Nat → Int32) (L : Nat → Nat → Int64) (F : Nat → Int32) (bs : Int64) (x b : Int32) (lv nd : Nat) (h2 : F 2 = nI 1) (h5 : F 5 = nI lv) (h6 : F 6 = nI nd) (h1 : 1 ≤ lv) (hl10 : lv ≤ 10) (hl9 : lv ≤ nd) (hn : nd ≤ 19) (hneg : ¬ inW x (nI 0) (nI (nd - 1))) : xMx l yX3_load wsX3_load { frames := 6, cells := 1, slots := 6, locals := 82 } [.ref (a 0), .int x, .int b] G sa (wX G a S T L F bs) "java/lang/IndexOutOfBoundsException" := by
  refine x_ofx (cc := cX3_load) (maxL := 3) (ret := (some .long)) (by decide) rfl (Nat.le_of_ble_eq_true rfl) ?_
  intro p e s m args below meth c ls A C hml hA hH hl hX hZ hlocks hno
  have hl : lv_has ls 3 [(0, .ref (a 0)), (1, .int x), (2, .int b)] := hl
  have inX2 : ∀ w ∈ wsX20, w ∈ wsX3_load := fun _ h => (List.mem_cons_of_mem _ (List.mem_append_left _ (List.mem_append_left _ (List.mem_append_left _ (List.mem_append_left _ (List.mem_append_right _ h))))))
  have inX3 : ∀ w ∈ wsX30, w ∈ wsX3_load := fun _ h => (List.mem_cons_of_mem _ (List.mem_append_left _ (List.mem_append_left _ (List.mem_append_left _ (List.mem_append_left _ (List.mem_append_left _ (List.mem_append_right _ h)))))))
  refine lv_aload_n C.1 C.2.1 dX3_load_0 rfl (lv_at hl 0 rfl) ?_
  refine x_cv (w' := wX G a S T L F bs) (va_runV (As := []) (rest := []) (x_fix C hml) (c_X3_requireTree l G a S T L F bs h2 _) (cwV 0 C.2.2.2.1 gX3_load_X3_requireTree rfl rfl rfl (by decide +kernel) ⟨Nat.le_of_ble_eq_true rfl, Nat.le_of_ble_eq_true rfl⟩) (x_pv C hH rfl gX_0 rfl rfl) rfl rfl hl.1 rfl (lv_room (Nat.le_of_ble_eq_true rfl)) dX3_load_1 ⟨Nat.le_of_ble_eq_true rfl, Nat.le_of_ble_eq_true rfl⟩) hH hA (fun H locs hH => ?_)
  refine lv_iload_n C.1 C.2.1 dX3_load_4 rfl (lv_at hl 1 rfl) ?_
  refine lv_iconst (v := nI 0) C.1 C.2.1 dX3_load_5 (by decide) ?_
  refine lv_aload_n C.1 C.2.1 dX3_load_6 rfl (lv_at hl 0 rfl) ?_
  refine x_get (C := RX3) (T := TX3) (N := 7) (v := .ref (a 6)) C inX3 hH 0 gX_0 rfl 1 (by decide) rfl rfl 3 rfl dX3_load_7 ?_
  refine x_get (C := RX2) (T := TX2) (N := 14) (v := .int (F 6)) C inX2 hH 6 gX_6 rfl 13 (by decide) rfl rfl 4 rfl dX3_load_10 ?_
  refine x_toi h6 ?_
  refine lv_iconst (v := nI 1) C.1 C.2.1 dX3_load_13 (by decide) ?_
  refine lv_isub C.1 C.2.1 dX3_load_14 ?_
  refine x_toi (pk_sub (a := nd) (b := 1) (by omega)) ?_
  refine x_ci (w' := wX G a S T L F bs) (va_runS (As := [.int x, .int (nI 0), .int (nI (nd - 1))]) (rest := []) (x_fix C hml) (c_X3_isWithin l G a S T L F bs x (nI 0) (nI (nd - 1)) _) (cwS 3 C.2.2.2.1 gX3_load_X3_isWithin rfl rfl rfl (by decide +kernel) ⟨Nat.le_of_ble_eq_true rfl, Nat.le_of_ble_eq_true rfl⟩) (x_ps C hH) rfl rfl hl.1 rfl (lv_room (Nat.le_of_ble_eq_true rfl)) dX3_load_15 ⟨Nat.le_of_ble_eq_true rfl, Nat.le_of_ble_eq_true rfl⟩) hH hA (fun H locs hH => ?_)
  refine lv_if_ne (tgt := 31) C.1 C.2.1 dX3_load_18 (by decide) (fun z8 => absurd (xb_0.mpr hneg) z8) (fun _ => ?_)
  exact x_thr_IOB C hl0 hX.1 (hX.2.2.2.2.2.2.2.2.2.2.2.1) hZ (hl.1.trans hml.symm) hlocks hno hH 1 2 rfl rfl (fun _ h => (List.mem_cons_of_mem _ (List.mem_append_left _ (List.mem_append_right _ h)))) dX3_load_21 dX3_load_24 dX3_load_25 dX3_load_27 dX3_load_30 (Nat.le_of_ble_eq_true rfl) (Nat.le_of_ble_eq_true rfl) (Nat.le_of_ble_eq_true rfl) (Nat.le_of_ble_eq_true rfl) (Nat.le_of_ble_eq_true rfl) (Nat.le_of_ble_eq_true rfl)
