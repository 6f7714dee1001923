set_option maxHeartbeats 400000 in
set_option maxRecDepth 100000 in
theorem c_X3_build_x2 (l : Launch) (hl0 : l.stackTraces = false) (G : xG) (sa : Nat → Nat) (a : Nat → Nat) (S T : Nat → Nat → Int32) (L : Nat → Nat → Int64) (F : Nat → Int32) (bs : Int64) (x : Int32) (hx : inW x (nI 0) (nI 1)) (h4 : F 4 = nI 0) : xMx l yX3_build wsX3_build { frames := 6, cells := 1, slots := 6, locals := 82 } [.ref (a 0), .int x] G sa (wX G a S T L F bs) "java/util/NoSuchElementException" := by
  refine x_ofx (cc := cX3_build) (maxL := 2) (ret := (some .int)) (by decide) rfl (Nat.le_of_ble_eq_true rfl) ?_
  intro p e s m args below meth c ls A C hml hA hH hl hX hZ hlocks hno
  have hl : lv_has ls 2 [(0, .ref (a 0)), (1, .int x)] := hl
  have inX1 : ∀ w ∈ wsX10, w ∈ wsX3_build := fun _ h => (List.mem_cons_of_mem _ (List.mem_append_left _ (List.mem_append_left _ (List.mem_append_left _ (List.mem_append_right _ h)))))
  have inX3 : ∀ w ∈ wsX30, w ∈ wsX3_build := fun _ h => (List.mem_cons_of_mem _ (List.mem_append_left _ (List.mem_append_left _ (List.mem_append_left _ (List.mem_append_left _ (List.mem_append_right _ h))))))
  refine lv_iload_n C.1 C.2.1 dX3_build_0 rfl (lv_at hl 1 rfl) ?_
  refine lv_iconst (v := nI 0) C.1 C.2.1 dX3_build_1 (by decide) ?_
  refine lv_iconst (v := nI 1) C.1 C.2.1 dX3_build_2 (by decide) ?_
  refine x_ci (w' := wX G a S T L F bs) (va_runS (As := [.int x, .int (nI 0), .int (nI 1)]) (rest := []) (x_fix C hml) (c_X3_isWithin l G a S T L F bs x (nI 0) (nI 1) _) (cwS 3 C.2.2.2.1 gX3_build_X3_isWithin rfl rfl rfl (by decide +kernel) ⟨Nat.le_of_ble_eq_true rfl, Nat.le_of_ble_eq_true rfl⟩) (x_ps C hH) rfl rfl hl.1 rfl (lv_room (Nat.le_of_ble_eq_true rfl)) dX3_build_3 ⟨Nat.le_of_ble_eq_true rfl, Nat.le_of_ble_eq_true rfl⟩) hH hA (fun H locs hH => ?_)
  refine lv_if_ne (tgt := 19) C.1 C.2.1 dX3_build_6 (by decide) (fun _ => ?_) (fun z8 => absurd z8 (fun z9 => xb_0.mp z9 hx))
  refine lv_aload_n C.1 C.2.1 dX3_build_19 rfl (lv_at hl 0 rfl) ?_
  refine x_get (C := RX3) (T := TX3) (N := 7) (v := .ref (a 1)) C inX3 hH 0 gX_0 rfl 0 (by decide) rfl rfl 5 rfl dX3_build_20 ?_
  refine x_get (C := RX1) (T := TX1) (N := 5) (v := .int (F 4)) C inX1 hH 1 gX_1 rfl 4 (by decide) rfl rfl 6 rfl dX3_build_23 ?_
  refine x_toi h4 ?_
  refine lv_if_ne (tgt := 39) C.1 C.2.1 dX3_build_26 (by decide) (fun c_2 => absurd (by decide) c_2) (fun _ => ?_)
  exact x_thr_NSE C hl0 hX.1 (hX.2.2.2.2.2.2.2.2.1) hZ (hl.1.trans hml.symm) hlocks hno hH 3 4 rfl rfl (fun _ h => (List.mem_cons_of_mem _ (List.mem_append_right _ h))) dX3_build_29 dX3_build_32 dX3_build_33 dX3_build_35 dX3_build_38 (Nat.le_of_ble_eq_true rfl) (Nat.le_of_ble_eq_true rfl) (Nat.le_of_ble_eq_true rfl) (Nat.le_of_ble_eq_true rfl) (Nat.le_of_ble_eq_true rfl) (Nat.le_of_ble_eq_true rfl)
