set_option maxHeartbeats 400000 in
set_option maxRecDepth 100000 in
theorem c_X2_standNear (l : Launch) (G : xG) (a : Nat → Nat) (S T : Nat → Nat → Int32) (L : Nat → Nat → Int64) (F : Nat → Int32) (bs : Int64) (k : Nat) (x y : Int32) (hk : k < 19) : xMv l yX2_standNear wsX2_standNear { frames := 1, cells := 0, slots := 0, locals := 16 } [.ref (a 6), .int (nI k), .int x, .int y] G (wX G a S T L F bs) (wX G a S (standT T k x y) L F bs) 0 0 := by
  refine x_ofv (cc := cX2_standNear) (maxL := 4) (by decide) rfl (Nat.le_of_ble_eq_true rfl) ?_
  intro p e s m args below meth c ls A Q C hml hA hH hl hE
  have hl : lv_has ls 4 [(0, .ref (a 6)), (1, .int (nI k)), (2, .int x), (3, .int y)] := hl
  have inX2 : ∀ w ∈ wsX20, w ∈ wsX2_standNear := fun _ h => (List.mem_cons_of_mem _ (List.mem_append_right _ h))
  refine lv_aload_n C.1 C.2.1 dX2_standNear_0 rfl (lv_at hl 0 rfl) ?_
  refine x_get (C := RX2) (T := TX2) (N := 14) (v := .ref (a 16)) C inX2 hH 6 gX_6 rfl 9 (by decide) rfl rfl 1 rfl dX2_standNear_1 ?_
  refine lv_iload_n C.1 C.2.1 dX2_standNear_4 rfl (lv_at hl 1 rfl) ?_
  refine lv_aload_n C.1 C.2.1 dX2_standNear_5 rfl (lv_at hl 0 rfl) ?_
  refine x_get (C := RX2) (T := TX2) (N := 14) (v := .ref (a 10)) C inX2 hH 6 gX_6 rfl 3 (by decide) rfl rfl 2 rfl dX2_standNear_6 ?_
  refine lv_iload_n C.1 C.2.1 dX2_standNear_9 rfl (lv_at hl 1 rfl) ?_
  refine x_iald (f := T 3) (j := k) (v := T 3 k) C hH 10 gX_10 (by omega) (by decide) (rfl) dX2_standNear_10 ?_
  refine lv_aload_n C.1 C.2.1 dX2_standNear_11 rfl (lv_at hl 0 rfl) ?_
  refine x_get (C := RX2) (T := TX2) (N := 14) (v := .ref (a 11)) C inX2 hH 6 gX_6 rfl 4 (by decide) rfl rfl 3 rfl dX2_standNear_12 ?_
  refine lv_iload_n C.1 C.2.1 dX2_standNear_15 rfl (lv_at hl 1 rfl) ?_
  refine x_iald (f := T 4) (j := k) (v := T 4 k) C hH 11 gX_11 (by omega) (by decide) (rfl) dX2_standNear_16 ?_
  refine lv_iload_n C.1 C.2.1 dX2_standNear_17 rfl (lv_at hl 2 rfl) ?_
  refine va_mmin C.1 C.2.1 (hml.trans hl.1.symm) C.2.2.1 (C.2.2.2.1 _ (List.mem_of_getElem? (i := 4) rfl)) (C.2.2.2.1 _ (List.mem_of_getElem? (i := 5) rfl)) (C.2.2.2.1 _ (List.mem_of_getElem? (i := 6) rfl)) (C.2.2.2.1 _ (List.mem_of_getElem? (i := 7) rfl)) (Nat.le_of_ble_eq_true rfl) (Nat.le_of_ble_eq_true rfl) (Nat.le_of_ble_eq_true rfl) (Nat.le_of_ble_eq_true rfl) dX2_standNear_18 ?_
  refine x_toi (show _ = imin (T 4 k) x from rfl) ?_
  refine va_mmax C.1 C.2.1 (hml.trans hl.1.symm) C.2.2.1 (C.2.2.2.1 _ (List.mem_of_getElem? (i := 8) rfl)) (C.2.2.2.1 _ (List.mem_of_getElem? (i := 9) rfl)) (C.2.2.2.1 _ (List.mem_of_getElem? (i := 6) rfl)) (C.2.2.2.1 _ (List.mem_of_getElem? (i := 10) rfl)) (Nat.le_of_ble_eq_true rfl) (Nat.le_of_ble_eq_true rfl) (Nat.le_of_ble_eq_true rfl) (Nat.le_of_ble_eq_true rfl) dX2_standNear_21 ?_
  refine x_toi (show _ = imax (T 3 k) (imin (T 4 k) x) from rfl) ?_
  refine x_iast (f := T 9) (j := k) (x := imax (T 3 k) (imin (T 4 k) x)) (w' := wX G a S ((tS T 9 (upd (T 9) k (imax (T 3 k) (imin (T 4 k) x))))) L F bs) C hH 16 gX_16 (by omega) (by decide) sX_16 dX2_standNear_24 (fun H locs hH => ?_)
  refine lv_aload_n C.1 C.2.1 dX2_standNear_25 rfl (lv_at hl 0 rfl) ?_
  refine x_get (C := RX2) (T := TX2) (N := 14) (v := .ref (a 17)) C inX2 hH 6 gX_6 rfl 10 (by decide) rfl rfl 11 rfl dX2_standNear_26 ?_
  refine lv_iload_n C.1 C.2.1 dX2_standNear_29 rfl (lv_at hl 1 rfl) ?_
  refine lv_aload_n C.1 C.2.1 dX2_standNear_30 rfl (lv_at hl 0 rfl) ?_
  refine x_get (C := RX2) (T := TX2) (N := 14) (v := .ref (a 12)) C inX2 hH 6 gX_6 rfl 5 (by decide) rfl rfl 12 rfl dX2_standNear_31 ?_
  refine lv_iload_n C.1 C.2.1 dX2_standNear_34 rfl (lv_at hl 1 rfl) ?_
  refine x_iald (f := T 5) (j := k) (v := T 5 k) C hH 12 gX_12 (by omega) (by decide) (rfl) dX2_standNear_35 ?_
  refine lv_aload_n C.1 C.2.1 dX2_standNear_36 rfl (lv_at hl 0 rfl) ?_
  refine x_get (C := RX2) (T := TX2) (N := 14) (v := .ref (a 13)) C inX2 hH 6 gX_6 rfl 6 (by decide) rfl rfl 13 rfl dX2_standNear_37 ?_
  refine lv_iload_n C.1 C.2.1 dX2_standNear_40 rfl (lv_at hl 1 rfl) ?_
  refine x_iald (f := T 6) (j := k) (v := T 6 k) C hH 13 gX_13 (by omega) (by decide) (rfl) dX2_standNear_41 ?_
  refine lv_iload_n C.1 C.2.1 dX2_standNear_42 rfl (lv_at hl 3 rfl) ?_
  refine va_mmin C.1 C.2.1 (hml.trans hl.1.symm) C.2.2.1 (C.2.2.2.1 _ (List.mem_of_getElem? (i := 4) rfl)) (C.2.2.2.1 _ (List.mem_of_getElem? (i := 5) rfl)) (C.2.2.2.1 _ (List.mem_of_getElem? (i := 6) rfl)) (C.2.2.2.1 _ (List.mem_of_getElem? (i := 7) rfl)) (Nat.le_of_ble_eq_true rfl) (Nat.le_of_ble_eq_true rfl) (Nat.le_of_ble_eq_true rfl) (Nat.le_of_ble_eq_true rfl) dX2_standNear_43 ?_
  refine x_toi (show _ = imin (T 6 k) y from rfl) ?_
  refine va_mmax C.1 C.2.1 (hml.trans hl.1.symm) C.2.2.1 (C.2.2.2.1 _ (List.mem_of_getElem? (i := 8) rfl)) (C.2.2.2.1 _ (List.mem_of_getElem? (i := 9) rfl)) (C.2.2.2.1 _ (List.mem_of_getElem? (i := 6) rfl)) (C.2.2.2.1 _ (List.mem_of_getElem? (i := 10) rfl)) (Nat.le_of_ble_eq_true rfl) (Nat.le_of_ble_eq_true rfl) (Nat.le_of_ble_eq_true rfl) (Nat.le_of_ble_eq_true rfl) dX2_standNear_46 ?_
  refine x_toi (show _ = imax (T 5 k) (imin (T 6 k) y) from rfl) ?_
  refine x_iast (f := T 10) (j := k) (x := imax (T 5 k) (imin (T 6 k) y)) (w' := wX G a S ((tS ((tS T 9 (upd (T 9) k (imax (T 3 k) (imin (T 4 k) x))))) 10 (upd (T 10) k (imax (T 5 k) (imin (T 6 k) y))))) L F bs) C hH 17 gX_17 (by omega) (by decide) sX_17 dX2_standNear_49 (fun H locs hH => ?_)
  have hH := x_eqw (w' := wX G a S (standT T k x y) L F bs) (rfl) hH
  exact hE _ _ _ _ hH dX2_standNear_50
set_option maxHeartbeats 400000 in
set_option maxRecDepth 100000 in
theorem c_X2_plantSinks (l : Launch) (G : xG) (a : Nat → Nat) (S T : Nat → Nat → Int32) (L : Nat → Nat → Int64) (F : Nat → Int32) (bs : Int64) (ct : Nat) (hF4 : F 4 = nI ct) (hc : ct ≤ 10) : xMv l yX2_plantSinks wsX2_plantSinks { frames := 1, cells := 0, slots := 0, locals := 21 } [.ref (a 6), .ref (a 1)] G (wX G a S T L F bs) (wX G a S (plantF S ct 0 T) L (tS (tS F 5 (nI ct)) 6 (nI ct)) bs) 0 0 := by
  refine x_ofv (cc := cX2_plantSinks) (maxL := 5) (by decide) rfl (Nat.le_of_ble_eq_true rfl) ?_
  intro p e s m args below meth c ls A Q C hml hA hH hl hE
  have hl : lv_has ls 5 [(0, .ref (a 6)), (1, .ref (a 1))] := hl
  have inX1 : ∀ w ∈ wsX10, w ∈ wsX2_plantSinks := fun _ h => (List.mem_cons_of_mem _ (List.mem_append_left _ (List.mem_append_right _ h)))
  have inX2 : ∀ w ∈ wsX20, w ∈ wsX2_plantSinks := fun _ h => (List.mem_cons_of_mem _ (List.mem_append_right _ h))
  refine lv_aload_n C.1 C.2.1 dX2_plantSinks_0 rfl (lv_at hl 0 rfl) ?_
  refine lv_aload_n C.1 C.2.1 dX2_plantSinks_1 rfl (lv_at hl 1 rfl) ?_
  refine x_get (C := RX1) (T := TX1) (N := 5) (v := .int (F 4)) C inX1 hH 1 gX_1 rfl 4 (by decide) rfl rfl 1 rfl dX2_plantSinks_2 ?_
  refine x_toi hF4 ?_
  refine x_put (C := RX2) (T := TX2) (N := 14) (v := .int (nI ct)) (w' := wX G a S T L ((tS F 5 (nI ct))) bs) C inX2 tyX2 tyX2_ok nmX2 hH 6 gX_6 rfl 12 (by decide) rfl rfl rfl rfl (Nat.le_of_ble_eq_true rfl) fX_6_12 2 rfl dX2_plantSinks_5 (fun H locs hH => ?_)
  refine lv_aload_n C.1 C.2.1 dX2_plantSinks_8 rfl (lv_at hl 0 rfl) ?_
  refine lv_aload_n C.1 C.2.1 dX2_plantSinks_9 rfl (lv_at hl 0 rfl) ?_
  refine x_get (C := RX2) (T := TX2) (N := 14) (v := .int (nI ct)) C inX2 hH 6 gX_6 rfl 12 (by decide) rfl rfl 2 rfl dX2_plantSinks_10 ?_
  refine x_put (C := RX2) (T := TX2) (N := 14) (v := .int (nI ct)) (w' := wX G a S T L ((tS ((tS F 5 (nI ct))) 6 (nI ct))) bs) C inX2 tyX2 tyX2_ok nmX2 hH 6 gX_6 rfl 13 (by decide) rfl rfl rfl rfl (Nat.le_of_ble_eq_true rfl) fX_6_13 3 rfl dX2_plantSinks_13 (fun H locs hH => ?_)
  refine lv_iconst (v := nI 0) C.1 C.2.1 dX2_plantSinks_16 (by decide) ?_
  refine lv_istore_n (lv' := [(2, .int (nI 0)), (0, .ref (a 6)), (1, .ref (a 1))]) C.1 C.2.1 dX2_plantSinks_17 rfl hl (by decide) rfl (fun ls hl => ?_)
  have lp : ∀ (n : Nat) (i : Nat) (T1 : Nat → Nat → Int32) (H : Heap) (locs : List Loc) (ls : Array Slot), i + n = ct → plantF S n i T1 = plantF S ct 0 T → xH G A s.heap H locs (wX G a S T1 L ((tS ((tS F 5 (nI ct))) 6 (nI ct))) bs) → lv_has ls 5 [(0, .ref (a 6)), (1, .ref (a 1)), (2, .int (nI i))] → W p l e ({ frames := 1, cells := 0, slots := 0, locals := 21 }) s m args below meth c H locs 0 0 Q (F0 m 18 ls []) := by
    intro n
    induction n with
    | zero =>
      intro i T1 H locs ls hin hf hH hl
      refine lv_iload_n C.1 C.2.1 dX2_plantSinks_18 rfl (lv_at hl 2 rfl) ?_
      refine lv_aload_n C.1 C.2.1 dX2_plantSinks_19 rfl (lv_at hl 0 rfl) ?_
      refine x_get (C := RX2) (T := TX2) (N := 14) (v := .int (nI ct)) C inX2 hH 6 gX_6 rfl 12 (by decide) rfl rfl 2 rfl dX2_plantSinks_20 ?_
      refine lv_icmp_ge (tgt := 123) C.1 C.2.1 dX2_plantSinks_23 (by decide) (fun _ => ?_) (fun c_1 => absurd ((nI_leI (a := ct) (b := i) (by omega) (by omega)).mpr (by omega)) c_1)
      have hH := x_eqw (w' := wX G a S (plantF S ct 0 T) L (tS (tS F 5 (nI ct)) 6 (nI ct)) bs) (by rw [← hf]; rfl) hH
      exact hE _ _ _ _ hH dX2_plantSinks_123
    | succ n ih18 =>
      intro i T1 H locs ls hin hf hH hl
      refine lv_iload_n C.1 C.2.1 dX2_plantSinks_18 rfl (lv_at hl 2 rfl) ?_
      refine lv_aload_n C.1 C.2.1 dX2_plantSinks_19 rfl (lv_at hl 0 rfl) ?_
      refine x_get (C := RX2) (T := TX2) (N := 14) (v := .int (nI ct)) C inX2 hH 6 gX_6 rfl 12 (by decide) rfl rfl 2 rfl dX2_plantSinks_20 ?_
      refine lv_icmp_ge (tgt := 123) C.1 C.2.1 dX2_plantSinks_23 (by decide) (fun c_2 => absurd ((nI_leI (a := ct) (b := i) (by omega) (by omega)).mp c_2) (by omega)) (fun _ => ?_)
      refine lv_aload_n C.1 C.2.1 dX2_plantSinks_26 rfl (lv_at hl 1 rfl) ?_
      refine x_get (C := RX1) (T := TX1) (N := 5) (v := .ref (a 2)) C inX1 hH 1 gX_1 rfl 0 (by decide) rfl rfl 4 rfl dX2_plantSinks_27 ?_
      refine lv_iload_n C.1 C.2.1 dX2_plantSinks_30 rfl (lv_at hl 2 rfl) ?_
      refine x_iald (f := S 0) (j := i) (v := S 0 i) C hH 2 gX_2 (by omega) (by decide) (rfl) dX2_plantSinks_31 ?_
      refine lv_aload_n C.1 C.2.1 dX2_plantSinks_32 rfl (lv_at hl 1 rfl) ?_
      refine x_get (C := RX1) (T := TX1) (N := 5) (v := .ref (a 3)) C inX1 hH 1 gX_1 rfl 1 (by decide) rfl rfl 5 rfl dX2_plantSinks_33 ?_
      refine lv_iload_n C.1 C.2.1 dX2_plantSinks_36 rfl (lv_at hl 2 rfl) ?_
      refine x_iald (f := S 1) (j := i) (v := S 1 i) C hH 3 gX_3 (by omega) (by decide) (rfl) dX2_plantSinks_37 ?_
      refine x_ci (w' := wX G a S T1 L ((tS ((tS F 5 (nI ct))) 6 (nI ct))) bs) (va_runSN (host := RX3) (As := [.int (S 0 i), .int (S 1 i)]) (rest := []) (x_fix C hml) (c_X3_placeU l G a S T1 L ((tS ((tS F 5 (nI ct))) 6 (nI ct))) bs (S 0 i) (S 1 i) _) ⟨va_cnB 2 C.2.2.2.1 gX2_plantSinks_X3_placeU_n66 rfl rfl rfl C.2.2.2.2.2.1 (C.2.2.2.1 _ (List.mem_of_getElem? (i := 15) rfl)) (by decide +kernel) ⟨Nat.le_of_ble_eq_true rfl, Nat.le_of_ble_eq_true rfl⟩, C.2.2.2.1 _ (List.mem_of_getElem? (i := 14) rfl), trivial⟩ (x_ps C hH) rfl rfl hl.1 rfl (lv_room (Nat.le_of_ble_eq_true rfl)) dX2_plantSinks_38 ⟨Nat.le_of_ble_eq_true rfl, Nat.le_of_ble_eq_true rfl⟩) hH hA (fun H locs hH => ?_)
      refine lv_istore_n (lv' := [(3, .int (nI 1024 * ((S 0 i) + (S 1 i)))), (0, .ref (a 6)), (1, .ref (a 1)), (2, .int (nI i))]) C.1 C.2.1 dX2_plantSinks_41 rfl hl (by decide) rfl (fun ls hl => ?_)
      refine lv_aload_n C.1 C.2.1 dX2_plantSinks_42 rfl (lv_at hl 2 rfl) ?_
      refine x_get (C := RX1) (T := TX1) (N := 5) (v := .ref (a 2)) C inX1 hH 1 gX_1 rfl 0 (by decide) rfl rfl 4 rfl dX2_plantSinks_43 ?_
      refine lv_iload_n C.1 C.2.1 dX2_plantSinks_46 rfl (lv_at hl 3 rfl) ?_
      refine x_iald (f := S 0) (j := i) (v := S 0 i) C hH 2 gX_2 (by omega) (by decide) (rfl) dX2_plantSinks_47 ?_
      refine lv_aload_n C.1 C.2.1 dX2_plantSinks_48 rfl (lv_at hl 2 rfl) ?_
      refine x_get (C := RX1) (T := TX1) (N := 5) (v := .ref (a 3)) C inX1 hH 1 gX_1 rfl 1 (by decide) rfl rfl 5 rfl dX2_plantSinks_49 ?_
      refine lv_iload_n C.1 C.2.1 dX2_plantSinks_52 rfl (lv_at hl 3 rfl) ?_
      refine x_iald (f := S 1) (j := i) (v := S 1 i) C hH 3 gX_3 (by omega) (by decide) (rfl) dX2_plantSinks_53 ?_
      refine x_ci (w' := wX G a S T1 L ((tS ((tS F 5 (nI ct))) 6 (nI ct))) bs) (va_runSN (host := RX3) (As := [.int (S 0 i), .int (S 1 i)]) (rest := []) (x_fix C hml) (c_X3_placeV l G a S T1 L ((tS ((tS F 5 (nI ct))) 6 (nI ct))) bs (S 0 i) (S 1 i) _) ⟨va_cnB 2 C.2.2.2.1 gX2_plantSinks_X3_placeV_n70 rfl rfl rfl C.2.2.2.2.2.2 (C.2.2.2.1 _ (List.mem_of_getElem? (i := 15) rfl)) (by decide +kernel) ⟨Nat.le_of_ble_eq_true rfl, Nat.le_of_ble_eq_true rfl⟩, C.2.2.2.1 _ (List.mem_of_getElem? (i := 17) rfl), trivial⟩ (x_ps C hH) rfl rfl hl.1 rfl (lv_room (Nat.le_of_ble_eq_true rfl)) dX2_plantSinks_54 ⟨Nat.le_of_ble_eq_true rfl, Nat.le_of_ble_eq_true rfl⟩) hH hA (fun H locs hH => ?_)
      refine lv_istore (lv' := [(4, .int (nI 1024 * ((S 0 i) - (S 1 i)))), (3, .int (nI 1024 * ((S 0 i) + (S 1 i)))), (0, .ref (a 6)), (1, .ref (a 1)), (2, .int (nI i))]) C.1 C.2.1 dX2_plantSinks_57 hl (by decide) rfl (fun ls hl => ?_)
      refine lv_aload_n C.1 C.2.1 dX2_plantSinks_59 rfl (lv_at hl 2 rfl) ?_
      refine x_get (C := RX2) (T := TX2) (N := 14) (v := .ref (a 7)) C inX2 hH 6 gX_6 rfl 0 (by decide) rfl rfl 6 rfl dX2_plantSinks_60 ?_
      refine lv_iload_n C.1 C.2.1 dX2_plantSinks_63 rfl (lv_at hl 4 rfl) ?_
      refine lv_iconst (v := (-1)) C.1 C.2.1 dX2_plantSinks_64 (by decide) ?_
      refine x_iast (f := T1 0) (j := i) (x := (-1)) (w' := wX G a S ((tS T1 0 (upd (T1 0) i ((-1))))) L ((tS ((tS F 5 (nI ct))) 6 (nI ct))) bs) C hH 7 gX_7 (by omega) (by decide) sX_7 dX2_plantSinks_65 (fun H locs hH => ?_)
      refine lv_aload_n C.1 C.2.1 dX2_plantSinks_66 rfl (lv_at hl 2 rfl) ?_
      refine x_get (C := RX2) (T := TX2) (N := 14) (v := .ref (a 8)) C inX2 hH 6 gX_6 rfl 1 (by decide) rfl rfl 7 rfl dX2_plantSinks_67 ?_
      refine lv_iload_n C.1 C.2.1 dX2_plantSinks_70 rfl (lv_at hl 4 rfl) ?_
      refine lv_iconst (v := (-1)) C.1 C.2.1 dX2_plantSinks_71 (by decide) ?_
      refine x_iast (f := T1 1) (j := i) (x := (-1)) (w' := wX G a S ((tS ((tS T1 0 (upd (T1 0) i ((-1))))) 1 (upd (T1 1) i ((-1))))) L ((tS ((tS F 5 (nI ct))) 6 (nI ct))) bs) C hH 8 gX_8 (by omega) (by decide) sX_8 dX2_plantSinks_72 (fun H locs hH => ?_)
      refine lv_aload_n C.1 C.2.1 dX2_plantSinks_73 rfl (lv_at hl 2 rfl) ?_
      refine x_get (C := RX2) (T := TX2) (N := 14) (v := .ref (a 9)) C inX2 hH 6 gX_6 rfl 2 (by decide) rfl rfl 8 rfl dX2_plantSinks_74 ?_
      refine lv_iload_n C.1 C.2.1 dX2_plantSinks_77 rfl (lv_at hl 4 rfl) ?_
      refine lv_iconst (v := (-1)) C.1 C.2.1 dX2_plantSinks_78 (by decide) ?_
      refine x_iast (f := T1 2) (j := i) (x := (-1)) (w' := wX G a S ((tS ((tS ((tS T1 0 (upd (T1 0) i ((-1))))) 1 (upd (T1 1) i ((-1))))) 2 (upd (T1 2) i ((-1))))) L ((tS ((tS F 5 (nI ct))) 6 (nI ct))) bs) C hH 9 gX_9 (by omega) (by decide) sX_9 dX2_plantSinks_79 (fun H locs hH => ?_)
      refine lv_aload_n C.1 C.2.1 dX2_plantSinks_80 rfl (lv_at hl 2 rfl) ?_
      refine x_get (C := RX2) (T := TX2) (N := 14) (v := .ref (a 10)) C inX2 hH 6 gX_6 rfl 3 (by decide) rfl rfl 9 rfl dX2_plantSinks_81 ?_
      refine lv_iload_n C.1 C.2.1 dX2_plantSinks_84 rfl (lv_at hl 4 rfl) ?_
      refine lv_iload_n C.1 C.2.1 dX2_plantSinks_85 rfl (lv_at hl 1 rfl) ?_
      refine x_iast (f := T1 3) (j := i) (x := nI 1024 * ((S 0 i) + (S 1 i))) (w' := wX G a S ((tS ((tS ((tS ((tS T1 0 (upd (T1 0) i ((-1))))) 1 (upd (T1 1) i ((-1))))) 2 (upd (T1 2) i ((-1))))) 3 (upd (T1 3) i (nI 1024 * ((S 0 i) + (S 1 i)))))) L ((tS ((tS F 5 (nI ct))) 6 (nI ct))) bs) C hH 10 gX_10 (by omega) (by decide) sX_10 dX2_plantSinks_86 (fun H locs hH => ?_)
      refine lv_aload_n C.1 C.2.1 dX2_plantSinks_87 rfl (lv_at hl 2 rfl) ?_
      refine x_get (C := RX2) (T := TX2) (N := 14) (v := .ref (a 11)) C inX2 hH 6 gX_6 rfl 4 (by decide) rfl rfl 10 rfl dX2_plantSinks_88 ?_
      refine lv_iload_n C.1 C.2.1 dX2_plantSinks_91 rfl (lv_at hl 4 rfl) ?_
      refine lv_iload_n C.1 C.2.1 dX2_plantSinks_92 rfl (lv_at hl 1 rfl) ?_
      refine x_iast (f := T1 4) (j := i) (x := nI 1024 * ((S 0 i) + (S 1 i))) (w' := wX G a S ((tS ((tS ((tS ((tS ((tS T1 0 (upd (T1 0) i ((-1))))) 1 (upd (T1 1) i ((-1))))) 2 (upd (T1 2) i ((-1))))) 3 (upd (T1 3) i (nI 1024 * ((S 0 i) + (S 1 i)))))) 4 (upd (T1 4) i (nI 1024 * ((S 0 i) + (S 1 i)))))) L ((tS ((tS F 5 (nI ct))) 6 (nI ct))) bs) C hH 11 gX_11 (by omega) (by decide) sX_11 dX2_plantSinks_93 (fun H locs hH => ?_)
      refine lv_aload_n C.1 C.2.1 dX2_plantSinks_94 rfl (lv_at hl 2 rfl) ?_
      refine x_get (C := RX2) (T := TX2) (N := 14) (v := .ref (a 12)) C inX2 hH 6 gX_6 rfl 5 (by decide) rfl rfl 11 rfl dX2_plantSinks_95 ?_
      refine lv_iload_n C.1 C.2.1 dX2_plantSinks_98 rfl (lv_at hl 4 rfl) ?_
      refine lv_iload C.1 C.2.1 dX2_plantSinks_99 (lv_at hl 0 rfl) ?_
      refine x_iast (f := T1 5) (j := i) (x := nI 1024 * ((S 0 i) - (S 1 i))) (w' := wX G a S ((tS ((tS ((tS ((tS ((tS ((tS T1 0 (upd (T1 0) i ((-1))))) 1 (upd (T1 1) i ((-1))))) 2 (upd (T1 2) i ((-1))))) 3 (upd (T1 3) i (nI 1024 * ((S 0 i) + (S 1 i)))))) 4 (upd (T1 4) i (nI 1024 * ((S 0 i) + (S 1 i)))))) 5 (upd (T1 5) i (nI 1024 * ((S 0 i) - (S 1 i)))))) L ((tS ((tS F 5 (nI ct))) 6 (nI ct))) bs) C hH 12 gX_12 (by omega) (by decide) sX_12 dX2_plantSinks_101 (fun H locs hH => ?_)
      refine lv_aload_n C.1 C.2.1 dX2_plantSinks_102 rfl (lv_at hl 2 rfl) ?_
      refine x_get (C := RX2) (T := TX2) (N := 14) (v := .ref (a 13)) C inX2 hH 6 gX_6 rfl 6 (by decide) rfl rfl 12 rfl dX2_plantSinks_103 ?_
      refine lv_iload_n C.1 C.2.1 dX2_plantSinks_106 rfl (lv_at hl 4 rfl) ?_
      refine lv_iload C.1 C.2.1 dX2_plantSinks_107 (lv_at hl 0 rfl) ?_
      refine x_iast (f := T1 6) (j := i) (x := nI 1024 * ((S 0 i) - (S 1 i))) (w' := wX G a S ((tS ((tS ((tS ((tS ((tS ((tS ((tS T1 0 (upd (T1 0) i ((-1))))) 1 (upd (T1 1) i ((-1))))) 2 (upd (T1 2) i ((-1))))) 3 (upd (T1 3) i (nI 1024 * ((S 0 i) + (S 1 i)))))) 4 (upd (T1 4) i (nI 1024 * ((S 0 i) + (S 1 i)))))) 5 (upd (T1 5) i (nI 1024 * ((S 0 i) - (S 1 i)))))) 6 (upd (T1 6) i (nI 1024 * ((S 0 i) - (S 1 i)))))) L ((tS ((tS F 5 (nI ct))) 6 (nI ct))) bs) C hH 13 gX_13 (by omega) (by decide) sX_13 dX2_plantSinks_109 (fun H locs hH => ?_)
      refine lv_aload_n C.1 C.2.1 dX2_plantSinks_110 rfl (lv_at hl 2 rfl) ?_
      refine x_get (C := RX2) (T := TX2) (N := 14) (v := .ref (a 14)) C inX2 hH 6 gX_6 rfl 7 (by decide) rfl rfl 13 rfl dX2_plantSinks_111 ?_
      refine lv_iload_n C.1 C.2.1 dX2_plantSinks_114 rfl (lv_at hl 4 rfl) ?_
      refine lv_iconst (v := nI 0) C.1 C.2.1 dX2_plantSinks_115 (by decide) ?_
      refine x_iast (f := T1 7) (j := i) (x := nI 0) (w' := wX G a S ((tS ((tS ((tS ((tS ((tS ((tS ((tS ((tS T1 0 (upd (T1 0) i ((-1))))) 1 (upd (T1 1) i ((-1))))) 2 (upd (T1 2) i ((-1))))) 3 (upd (T1 3) i (nI 1024 * ((S 0 i) + (S 1 i)))))) 4 (upd (T1 4) i (nI 1024 * ((S 0 i) + (S 1 i)))))) 5 (upd (T1 5) i (nI 1024 * ((S 0 i) - (S 1 i)))))) 6 (upd (T1 6) i (nI 1024 * ((S 0 i) - (S 1 i)))))) 7 (upd (T1 7) i (nI 0)))) L ((tS ((tS F 5 (nI ct))) 6 (nI ct))) bs) C hH 14 gX_14 (by omega) (by decide) sX_14 dX2_plantSinks_116 (fun H locs hH => ?_)
      refine lv_iinc (v := nI (i + 1)) (lv' := [(2, .int (nI (i + 1))), (4, .int (nI 1024 * ((S 0 i) - (S 1 i)))), (3, .int (nI 1024 * ((S 0 i) + (S 1 i)))), (0, .ref (a 6)), (1, .ref (a 1))]) C.1 C.2.1 dX2_plantSinks_117 hl (k := 4) rfl (nI_add i 1) (by decide) rfl (fun ls hl => ?_)
      refine lv_goto (tgt := 18) C.1 C.2.1 dX2_plantSinks_120 (by decide) ?_
      have hH := x_eqw (w' := wX G a S (plantK S T1 i) L ((tS ((tS F 5 (nI ct))) 6 (nI ct))) bs) (rfl) hH
      exact ih18 (i + 1) (plantK S T1 i) _ _ _ (by omega) (hf) hH (lv_sub hl [3, 4, 0] rfl)
  exact lp (ct) 0 T _ _ _ (by omega) (rfl) hH (lv_sub hl [1, 2, 0] rfl)
set_option maxHeartbeats 400000 in
set_option maxRecDepth 100000 in
theorem c_X2_choosePlaces (l : Launch) (G : xG) (a : Nat → Nat) (S T : Nat → Nat → Int32) (L : Nat → Nat → Int64) (F : Nat → Int32) (bs : Int64) (rt : Nat) (P : Nat → Nat) (x y : Int32) (hF6 : F 6 = nI (rt + 1)) (hr : rt < 19) (hP : ∀ k, k < rt → T 2 k = nI (P k)) (hP1 : ∀ k, k < rt → P k < 19) : xMv l yX2_choosePlaces wsX2_choosePlaces { frames := 2, cells := 0, slots := 0, locals := 39 } [.ref (a 6), .int x, .int y] G (wX G a S T L F bs) (wX G a S (chooseF P rt (rootT T rt x y)) L F bs) 0 0 := by
  refine x_ofv (cc := cX2_choosePlaces) (maxL := 5) (by decide) rfl (Nat.le_of_ble_eq_true rfl) ?_
  intro p e s m args below meth c ls A Q C hml hA hH hl hE
  have hl : lv_has ls 5 [(0, .ref (a 6)), (1, .int x), (2, .int y)] := hl
  have inX2 : ∀ w ∈ wsX20, w ∈ wsX2_choosePlaces := fun _ h => (List.mem_cons_of_mem _ (List.mem_append_right _ h))
  refine lv_aload_n C.1 C.2.1 dX2_choosePlaces_0 rfl (lv_at hl 0 rfl) ?_
  refine x_get (C := RX2) (T := TX2) (N := 14) (v := .int (F 6)) C inX2 hH 6 gX_6 rfl 13 (by decide) rfl rfl 1 rfl dX2_choosePlaces_1 ?_
  refine x_toi hF6 ?_
  refine lv_iconst (v := nI 1) C.1 C.2.1 dX2_choosePlaces_4 (by decide) ?_
  refine lv_isub C.1 C.2.1 dX2_choosePlaces_5 ?_
  refine x_toi (pk_sub (a := rt + 1) (b := 1) (by omega)) ?_
  refine lv_istore_n (lv' := [(3, .int (nI rt)), (0, .ref (a 6)), (1, .int x), (2, .int y)]) C.1 C.2.1 dX2_choosePlaces_6 rfl hl (by decide) rfl (fun ls hl => ?_)
  refine lv_aload_n C.1 C.2.1 dX2_choosePlaces_7 rfl (lv_at hl 1 rfl) ?_
  refine lv_iload_n C.1 C.2.1 dX2_choosePlaces_8 rfl (lv_at hl 0 rfl) ?_
  refine lv_iload_n C.1 C.2.1 dX2_choosePlaces_9 rfl (lv_at hl 2 rfl) ?_
  refine lv_iload_n C.1 C.2.1 dX2_choosePlaces_10 rfl (lv_at hl 3 rfl) ?_
  refine x_cv (w' := wX G a S (standT T rt x y) L F bs) (va_runV (As := [.int (nI rt), .int x, .int y]) (rest := []) (x_fix C hml) (c_X2_standNear l G a S T L F bs rt x y (by omega) _) (cwV 3 C.2.2.2.1 gX2_choosePlaces_X2_standNear rfl rfl rfl (by decide +kernel) ⟨Nat.le_of_ble_eq_true rfl, Nat.le_of_ble_eq_true rfl⟩) (x_pv C hH rfl gX_6 rfl rfl) rfl rfl hl.1 rfl (lv_room (Nat.le_of_ble_eq_true rfl)) dX2_choosePlaces_11 ⟨Nat.le_of_ble_eq_true rfl, Nat.le_of_ble_eq_true rfl⟩) hH hA (fun H locs hH => ?_)
  refine lv_aload_n C.1 C.2.1 dX2_choosePlaces_14 rfl (lv_at hl 1 rfl) ?_
  refine x_get (C := RX2) (T := TX2) (N := 14) (v := .ref (a 15)) C inX2 hH 6 gX_6 rfl 8 (by decide) rfl rfl 2 rfl dX2_choosePlaces_15 ?_
  refine lv_iload_n C.1 C.2.1 dX2_choosePlaces_18 rfl (lv_at hl 0 rfl) ?_
  refine lv_aload_n C.1 C.2.1 dX2_choosePlaces_19 rfl (lv_at hl 1 rfl) ?_
  refine x_get (C := RX2) (T := TX2) (N := 14) (v := .ref (a 16)) C inX2 hH 6 gX_6 rfl 9 (by decide) rfl rfl 3 rfl dX2_choosePlaces_20 ?_
  refine lv_iload_n C.1 C.2.1 dX2_choosePlaces_23 rfl (lv_at hl 0 rfl) ?_
  refine x_iald (f := (standT T rt x y) 9) (j := rt) (v := (standT T rt x y) 9 rt) C hH 16 gX_16 (by omega) (by decide) (rfl) dX2_choosePlaces_24 ?_
  refine lv_iload_n C.1 C.2.1 dX2_choosePlaces_25 rfl (lv_at hl 2 rfl) ?_
  refine lv_isub C.1 C.2.1 dX2_choosePlaces_26 ?_
  refine va_mabs C.1 C.2.1 (hml.trans hl.1.symm) C.2.2.1 (C.2.2.2.1 _ (List.mem_of_getElem? (i := 4) rfl)) (C.2.2.2.1 _ (List.mem_of_getElem? (i := 5) rfl)) (C.2.2.2.1 _ (List.mem_of_getElem? (i := 6) rfl)) (C.2.2.2.1 _ (List.mem_of_getElem? (i := 7) rfl)) (Nat.le_of_ble_eq_true rfl) (Nat.le_of_ble_eq_true rfl) (Nat.le_of_ble_eq_true rfl) (Nat.le_of_ble_eq_true rfl) dX2_choosePlaces_27 ?_
  refine x_toi (show _ = iabs (((standT T rt x y) 9 rt) - x) from rfl) ?_
  refine lv_aload_n C.1 C.2.1 dX2_choosePlaces_30 rfl (lv_at hl 1 rfl) ?_
  refine x_get (C := RX2) (T := TX2) (N := 14) (v := .ref (a 17)) C inX2 hH 6 gX_6 rfl 10 (by decide) rfl rfl 8 rfl dX2_choosePlaces_31 ?_
  refine lv_iload_n C.1 C.2.1 dX2_choosePlaces_34 rfl (lv_at hl 0 rfl) ?_
  refine x_iald (f := (standT T rt x y) 10) (j := rt) (v := (standT T rt x y) 10 rt) C hH 17 gX_17 (by omega) (by decide) (rfl) dX2_choosePlaces_35 ?_
  refine lv_iload_n C.1 C.2.1 dX2_choosePlaces_36 rfl (lv_at hl 3 rfl) ?_
  refine lv_isub C.1 C.2.1 dX2_choosePlaces_37 ?_
  refine va_mabs C.1 C.2.1 (hml.trans hl.1.symm) C.2.2.1 (C.2.2.2.1 _ (List.mem_of_getElem? (i := 4) rfl)) (C.2.2.2.1 _ (List.mem_of_getElem? (i := 5) rfl)) (C.2.2.2.1 _ (List.mem_of_getElem? (i := 6) rfl)) (C.2.2.2.1 _ (List.mem_of_getElem? (i := 7) rfl)) (Nat.le_of_ble_eq_true rfl) (Nat.le_of_ble_eq_true rfl) (Nat.le_of_ble_eq_true rfl) (Nat.le_of_ble_eq_true rfl) dX2_choosePlaces_38 ?_
  refine x_toi (show _ = iabs (((standT T rt x y) 10 rt) - y) from rfl) ?_
  refine va_mmax C.1 C.2.1 (hml.trans hl.1.symm) C.2.2.1 (C.2.2.2.1 _ (List.mem_of_getElem? (i := 9) rfl)) (C.2.2.2.1 _ (List.mem_of_getElem? (i := 10) rfl)) (C.2.2.2.1 _ (List.mem_of_getElem? (i := 6) rfl)) (C.2.2.2.1 _ (List.mem_of_getElem? (i := 11) rfl)) (Nat.le_of_ble_eq_true rfl) (Nat.le_of_ble_eq_true rfl) (Nat.le_of_ble_eq_true rfl) (Nat.le_of_ble_eq_true rfl) dX2_choosePlaces_41 ?_
  refine x_toi (show _ = imax (iabs (((standT T rt x y) 9 rt) - x)) (iabs (((standT T rt x y) 10 rt) - y)) from rfl) ?_
  refine x_iast (f := (standT T rt x y) 8) (j := rt) (x := imax (iabs (((standT T rt x y) 9 rt) - x)) (iabs (((standT T rt x y) 10 rt) - y))) (w' := wX G a S ((tS (standT T rt x y) 8 (upd ((standT T rt x y) 8) rt (imax (iabs (((standT T rt x y) 9 rt) - x)) (iabs (((standT T rt x y) 10 rt) - y)))))) L F bs) C hH 15 gX_15 (by omega) (by decide) sX_15 dX2_choosePlaces_44 (fun H locs hH => ?_)
  refine lv_iload_n C.1 C.2.1 dX2_choosePlaces_45 rfl (lv_at hl 0 rfl) ?_
  refine lv_iconst (v := nI 1) C.1 C.2.1 dX2_choosePlaces_46 (by decide) ?_
  refine lv_isub C.1 C.2.1 dX2_choosePlaces_47 ?_
  refine x_toi (rfl) ?_
  refine lv_istore (lv' := [(4, .int (nI rt - nI 1)), (3, .int (nI rt)), (0, .ref (a 6)), (1, .int x), (2, .int y)]) C.1 C.2.1 dX2_choosePlaces_48 hl (by decide) rfl (fun ls hl => ?_)
  have lp : ∀ (n : Nat) (T1 : Nat → Nat → Int32) (H : Heap) (locs : List Loc) (ls : Array Slot), n ≤ rt → (∀ k, k < rt → T1 2 k = nI (P k)) → chooseF P n T1 = chooseF P rt (rootT T rt x y) → xH G A s.heap H locs (wX G a S T1 L F bs) → lv_has ls 5 [(0, .ref (a 6)), (1, .int x), (2, .int y), (3, .int (nI rt)), (4, .int (nI n - nI 1))] → W p l e ({ frames := 2, cells := 0, slots := 0, locals := 39 }) s m args below meth c H locs 0 0 Q (F0 m 50 ls []) := by
    intro n
    induction n with
    | zero =>
      intro T1 H locs ls hin hp hf hH hl
      refine lv_iload C.1 C.2.1 dX2_choosePlaces_50 (lv_at hl 4 rfl) ?_
      refine lv_if_lt (tgt := 91) C.1 C.2.1 dX2_choosePlaces_52 (by decide) (fun _ => ?_) (fun c_1 => absurd (by decide) c_1)
      have hH := x_eqw (w' := wX G a S (chooseF P rt (rootT T rt x y)) L F bs) (by rw [← hf]; rfl) hH
      exact hE _ _ _ _ hH dX2_choosePlaces_91
    | succ n ih50 =>
      intro T1 H locs ls hin hp hf hH hl
      rw [show nI (n + 1) - nI 1 = nI n from nI_pred n] at hl
      have hP2 := hP1 n (by omega)
      refine lv_iload C.1 C.2.1 dX2_choosePlaces_50 (lv_at hl 4 rfl) ?_
      refine lv_if_lt (tgt := 91) C.1 C.2.1 dX2_choosePlaces_52 (by decide) (fun c_2 => absurd c_2 (nI_pos (by omega))) (fun _ => ?_)
      refine lv_aload_n C.1 C.2.1 dX2_choosePlaces_55 rfl (lv_at hl 0 rfl) ?_
      refine lv_iload C.1 C.2.1 dX2_choosePlaces_56 (lv_at hl 4 rfl) ?_
      refine lv_aload_n C.1 C.2.1 dX2_choosePlaces_58 rfl (lv_at hl 0 rfl) ?_
      refine x_get (C := RX2) (T := TX2) (N := 14) (v := .ref (a 16)) C inX2 hH 6 gX_6 rfl 9 (by decide) rfl rfl 3 rfl dX2_choosePlaces_59 ?_
      refine lv_aload_n C.1 C.2.1 dX2_choosePlaces_62 rfl (lv_at hl 0 rfl) ?_
      refine x_get (C := RX2) (T := TX2) (N := 14) (v := .ref (a 9)) C inX2 hH 6 gX_6 rfl 2 (by decide) rfl rfl 12 rfl dX2_choosePlaces_63 ?_
      refine lv_iload C.1 C.2.1 dX2_choosePlaces_66 (lv_at hl 4 rfl) ?_
      refine x_iald (f := T1 2) (j := n) (v := nI (P n)) C hH 9 gX_9 (by omega) (by decide) (hp n (by omega)) dX2_choosePlaces_68 ?_
      refine x_iald (f := T1 9) (j := P n) (v := T1 9 (P n)) C hH 16 gX_16 (by omega) (by decide) (rfl) dX2_choosePlaces_69 ?_
      refine lv_aload_n C.1 C.2.1 dX2_choosePlaces_70 rfl (lv_at hl 0 rfl) ?_
      refine x_get (C := RX2) (T := TX2) (N := 14) (v := .ref (a 17)) C inX2 hH 6 gX_6 rfl 10 (by decide) rfl rfl 8 rfl dX2_choosePlaces_71 ?_
      refine lv_aload_n C.1 C.2.1 dX2_choosePlaces_74 rfl (lv_at hl 0 rfl) ?_
      refine x_get (C := RX2) (T := TX2) (N := 14) (v := .ref (a 9)) C inX2 hH 6 gX_6 rfl 2 (by decide) rfl rfl 12 rfl dX2_choosePlaces_75 ?_
      refine lv_iload C.1 C.2.1 dX2_choosePlaces_78 (lv_at hl 4 rfl) ?_
      refine x_iald (f := T1 2) (j := n) (v := nI (P n)) C hH 9 gX_9 (by omega) (by decide) (hp n (by omega)) dX2_choosePlaces_80 ?_
      refine x_iald (f := T1 10) (j := P n) (v := T1 10 (P n)) C hH 17 gX_17 (by omega) (by decide) (rfl) dX2_choosePlaces_81 ?_
      refine x_cv (w' := wX G a S (standT T1 n (T1 9 (P n)) (T1 10 (P n))) L F bs) (va_runV (As := [.int (nI n), .int (T1 9 (P n)), .int (T1 10 (P n))]) (rest := []) (x_fix C hml) (c_X2_standNear l G a S T1 L F bs n (T1 9 (P n)) (T1 10 (P n)) (by omega) _) (cwV 3 C.2.2.2.1 gX2_choosePlaces_X2_standNear rfl rfl rfl (by decide +kernel) ⟨Nat.le_of_ble_eq_true rfl, Nat.le_of_ble_eq_true rfl⟩) (x_pv C hH rfl gX_6 rfl rfl) rfl rfl hl.1 rfl (lv_room (Nat.le_of_ble_eq_true rfl)) dX2_choosePlaces_82 ⟨Nat.le_of_ble_eq_true rfl, Nat.le_of_ble_eq_true rfl⟩) hH hA (fun H locs hH => ?_)
      refine lv_iinc (v := nI n - nI 1) (lv' := [(4, .int (nI n - nI 1)), (0, .ref (a 6)), (1, .int x), (2, .int y), (3, .int (nI rt))]) C.1 C.2.1 dX2_choosePlaces_85 hl (k := 4) rfl (xn_dec2 n) (by decide) rfl (fun ls hl => ?_)
      refine lv_goto (tgt := 50) C.1 C.2.1 dX2_choosePlaces_88 (by decide) ?_
      have hH := x_eqw (w' := wX G a S (standT T1 n (T1 9 (P n)) (T1 10 (P n))) L F bs) (rfl) hH
      exact ih50 (standT T1 n (T1 9 (P n)) (T1 10 (P n))) _ _ _ (by omega) (hp) (hf) hH (lv_sub hl [1, 2, 3, 4, 0] rfl)
  exact lp (rt) ((tS (standT T rt x y) 8 (upd ((standT T rt x y) 8) rt (imax (iabs (((standT T rt x y) 9 rt) - x)) (iabs (((standT T rt x y) 10 rt) - y)))))) _ _ _ (by omega) (fun k hk => hP k hk) (rfl) hH (lv_sub hl [2, 3, 4, 1, 0] rfl)
set_option maxHeartbeats 400000 in
set_option maxRecDepth 100000 in
theorem c_X2_wireSum (l : Launch) (G : xG) (a : Nat → Nat) (S T : Nat → Nat → Int32) (L : Nat → Nat → Int64) (F : Nat → Int32) (bs : Int64) (nd : Nat) (hF6 : F 6 = nI nd) (hn : nd ≤ 19) : xMi l yX2_wireSum wsX2_wireSum { frames := 0, cells := 0, slots := 0, locals := 0 } [.ref (a 6)] G (wX G a S T L F bs) (sumW T nd 0 (nI 0)) (wX G a S T L F bs) 0 0 := by
  refine x_ofi (cc := cX2_wireSum) (maxL := 3) (ty := .int) (by decide) rfl (Nat.le_of_ble_eq_true rfl) ?_
  intro p e s m args below meth c ls A Q C hml hA hH hl hE
  have hl : lv_has ls 3 [(0, .ref (a 6))] := hl
  have inX2 : ∀ w ∈ wsX20, w ∈ wsX2_wireSum := fun _ h => (List.mem_cons_of_mem _ (List.mem_append_right _ h))
  refine lv_iconst (v := nI 0) C.1 C.2.1 dX2_wireSum_0 (by decide) ?_
  refine lv_istore_n (lv' := [(1, .int (nI 0)), (0, .ref (a 6))]) C.1 C.2.1 dX2_wireSum_1 rfl hl (by decide) rfl (fun ls hl => ?_)
  refine lv_iconst (v := nI 0) C.1 C.2.1 dX2_wireSum_2 (by decide) ?_
  refine lv_istore_n (lv' := [(2, .int (nI 0)), (1, .int (nI 0)), (0, .ref (a 6))]) C.1 C.2.1 dX2_wireSum_3 rfl hl (by decide) rfl (fun ls hl => ?_)
  have lp : ∀ (n : Nat) (i : Nat) (v : Int32) (H : Heap) (locs : List Loc) (ls : Array Slot), i + n = nd → sumW T n i v = sumW T nd 0 (nI 0) → xH G A s.heap H locs (wX G a S T L F bs) → lv_has ls 3 [(0, .ref (a 6)), (1, .int v), (2, .int (nI i))] → W p l e ({ frames := 0, cells := 0, slots := 0, locals := 0 }) s m args below meth c H locs 0 0 Q (F0 m 4 ls []) := by
    intro n
    induction n with
    | zero =>
      intro i v H locs ls hin hf hH hl
      refine lv_iload_n C.1 C.2.1 dX2_wireSum_4 rfl (lv_at hl 2 rfl) ?_
      refine lv_aload_n C.1 C.2.1 dX2_wireSum_5 rfl (lv_at hl 0 rfl) ?_
      refine x_get (C := RX2) (T := TX2) (N := 14) (v := .int (F 6)) C inX2 hH 6 gX_6 rfl 13 (by decide) rfl rfl 1 rfl dX2_wireSum_6 ?_
      refine x_toi hF6 ?_
      refine lv_icmp_ge (tgt := 27) C.1 C.2.1 dX2_wireSum_9 (by decide) (fun _ => ?_) (fun c_1 => absurd ((nI_leI (a := nd) (b := i) (by omega) (by omega)).mpr (by omega)) c_1)
      refine lv_iload_n C.1 C.2.1 dX2_wireSum_27 rfl (lv_at hl 1 rfl) ?_
      exact hE _ _ _ _ _ hH (hf) (rfl) dX2_wireSum_28
    | succ n ih4 =>
      intro i v H locs ls hin hf hH hl
      refine lv_iload_n C.1 C.2.1 dX2_wireSum_4 rfl (lv_at hl 2 rfl) ?_
      refine lv_aload_n C.1 C.2.1 dX2_wireSum_5 rfl (lv_at hl 0 rfl) ?_
      refine x_get (C := RX2) (T := TX2) (N := 14) (v := .int (F 6)) C inX2 hH 6 gX_6 rfl 13 (by decide) rfl rfl 1 rfl dX2_wireSum_6 ?_
      refine x_toi hF6 ?_
      refine lv_icmp_ge (tgt := 27) C.1 C.2.1 dX2_wireSum_9 (by decide) (fun c_2 => absurd ((nI_leI (a := nd) (b := i) (by omega) (by omega)).mp c_2) (by omega)) (fun _ => ?_)
      refine lv_iload_n C.1 C.2.1 dX2_wireSum_12 rfl (lv_at hl 1 rfl) ?_
      refine lv_aload_n C.1 C.2.1 dX2_wireSum_13 rfl (lv_at hl 0 rfl) ?_
      refine x_get (C := RX2) (T := TX2) (N := 14) (v := .ref (a 15)) C inX2 hH 6 gX_6 rfl 8 (by decide) rfl rfl 2 rfl dX2_wireSum_14 ?_
      refine lv_iload_n C.1 C.2.1 dX2_wireSum_17 rfl (lv_at hl 2 rfl) ?_
      refine x_iald (f := T 8) (j := i) (v := T 8 i) C hH 15 gX_15 (by omega) (by decide) (rfl) dX2_wireSum_18 ?_
      refine lv_iadd C.1 C.2.1 dX2_wireSum_19 ?_
      refine lv_istore_n (lv' := [(1, .int (v + (T 8 i))), (0, .ref (a 6)), (2, .int (nI i))]) C.1 C.2.1 dX2_wireSum_20 rfl hl (by decide) rfl (fun ls hl => ?_)
      refine lv_iinc (v := nI (i + 1)) (lv' := [(2, .int (nI (i + 1))), (1, .int (v + (T 8 i))), (0, .ref (a 6))]) C.1 C.2.1 dX2_wireSum_21 hl (k := 2) rfl (nI_add i 1) (by decide) rfl (fun ls hl => ?_)
      refine lv_goto (tgt := 4) C.1 C.2.1 dX2_wireSum_24 (by decide) ?_
      exact ih4 (i + 1) (v + (T 8 i)) _ _ _ (by omega) (hf) hH (lv_sub hl [2, 1, 0] rfl)
  exact lp (nd) 0 (nI 0) _ _ _ (by omega) (rfl) hH (lv_sub hl [2, 1, 0] rfl)
set_option maxHeartbeats 400000 in
set_option maxRecDepth 100000 in
theorem c_X2_partOf_0 (l : Launch) (G : xG) (a : Nat → Nat) (S T : Nat → Nat → Int32) (L : Nat → Nat → Int64) (F : Nat → Int32) (bs : Int64) (k : Nat) (hk : k < 19) : xMi l yX2_partOf wsX2_partOf { frames := 0, cells := 0, slots := 0, locals := 0 } [.ref (a 6), .int (nI k), .int (nI 0)] G (wX G a S T L F bs) (T 0 k) (wX G a S T L F bs) 0 0 := by
  refine x_ofi (cc := cX2_partOf) (maxL := 3) (ty := .int) (by decide) rfl (Nat.le_of_ble_eq_true rfl) ?_
  intro p e s m args below meth c ls A Q C hml hA hH hl hE
  have hl : lv_has ls 3 [(0, .ref (a 6)), (1, .int (nI k)), (2, .int (nI 0))] := hl
  have inX2 : ∀ w ∈ wsX20, w ∈ wsX2_partOf := fun _ h => (List.mem_cons_of_mem _ (List.mem_append_right _ h))
  refine lv_iload_n C.1 C.2.1 dX2_partOf_0 rfl (lv_at hl 2 rfl) ?_
  refine lv_tableIn (tgt := 56) C.1 C.2.1 dX2_partOf_1 (by decide) (by decide) rfl (by decide) ?_
  refine lv_aload_n C.1 C.2.1 dX2_partOf_56 rfl (lv_at hl 0 rfl) ?_
  refine x_get (C := RX2) (T := TX2) (N := 14) (v := .ref (a 7)) C inX2 hH 6 gX_6 rfl 0 (by decide) rfl rfl 1 rfl dX2_partOf_57 ?_
  refine lv_iload_n C.1 C.2.1 dX2_partOf_60 rfl (lv_at hl 1 rfl) ?_
  refine x_iald (f := T 0) (j := k) (v := T 0 k) C hH 7 gX_7 (by omega) (by decide) (rfl) dX2_partOf_61 ?_
  exact hE _ _ _ _ _ hH (rfl) (rfl) dX2_partOf_62
set_option maxHeartbeats 400000 in
set_option maxRecDepth 100000 in
theorem c_X2_partOf_1 (l : Launch) (G : xG) (a : Nat → Nat) (S T : Nat → Nat → Int32) (L : Nat → Nat → Int64) (F : Nat → Int32) (bs : Int64) (k : Nat) (hk : k < 19) : xMi l yX2_partOf wsX2_partOf { frames := 0, cells := 0, slots := 0, locals := 0 } [.ref (a 6), .int (nI k), .int (nI 1)] G (wX G a S T L F bs) (T 1 k) (wX G a S T L F bs) 0 0 := by
  refine x_ofi (cc := cX2_partOf) (maxL := 3) (ty := .int) (by decide) rfl (Nat.le_of_ble_eq_true rfl) ?_
  intro p e s m args below meth c ls A Q C hml hA hH hl hE
  have hl : lv_has ls 3 [(0, .ref (a 6)), (1, .int (nI k)), (2, .int (nI 1))] := hl
  have inX2 : ∀ w ∈ wsX20, w ∈ wsX2_partOf := fun _ h => (List.mem_cons_of_mem _ (List.mem_append_right _ h))
  refine lv_iload_n C.1 C.2.1 dX2_partOf_0 rfl (lv_at hl 2 rfl) ?_
  refine lv_tableIn (tgt := 63) C.1 C.2.1 dX2_partOf_1 (by decide) (by decide) rfl (by decide) ?_
  refine lv_aload_n C.1 C.2.1 dX2_partOf_63 rfl (lv_at hl 0 rfl) ?_
  refine x_get (C := RX2) (T := TX2) (N := 14) (v := .ref (a 8)) C inX2 hH 6 gX_6 rfl 1 (by decide) rfl rfl 2 rfl dX2_partOf_64 ?_
  refine lv_iload_n C.1 C.2.1 dX2_partOf_67 rfl (lv_at hl 1 rfl) ?_
  refine x_iald (f := T 1) (j := k) (v := T 1 k) C hH 8 gX_8 (by omega) (by decide) (rfl) dX2_partOf_68 ?_
  exact hE _ _ _ _ _ hH (rfl) (rfl) dX2_partOf_69
set_option maxHeartbeats 400000 in
set_option maxRecDepth 100000 in
theorem c_X2_partOf_2 (l : Launch) (G : xG) (a : Nat → Nat) (S T : Nat → Nat → Int32) (L : Nat → Nat → Int64) (F : Nat → Int32) (bs : Int64) (k : Nat) (hk : k < 19) : xMi l yX2_partOf wsX2_partOf { frames := 0, cells := 0, slots := 0, locals := 0 } [.ref (a 6), .int (nI k), .int (nI 2)] G (wX G a S T L F bs) (T 2 k) (wX G a S T L F bs) 0 0 := by
  refine x_ofi (cc := cX2_partOf) (maxL := 3) (ty := .int) (by decide) rfl (Nat.le_of_ble_eq_true rfl) ?_
  intro p e s m args below meth c ls A Q C hml hA hH hl hE
  have hl : lv_has ls 3 [(0, .ref (a 6)), (1, .int (nI k)), (2, .int (nI 2))] := hl
  have inX2 : ∀ w ∈ wsX20, w ∈ wsX2_partOf := fun _ h => (List.mem_cons_of_mem _ (List.mem_append_right _ h))
  refine lv_iload_n C.1 C.2.1 dX2_partOf_0 rfl (lv_at hl 2 rfl) ?_
  refine lv_tableIn (tgt := 70) C.1 C.2.1 dX2_partOf_1 (by decide) (by decide) rfl (by decide) ?_
  refine lv_aload_n C.1 C.2.1 dX2_partOf_70 rfl (lv_at hl 0 rfl) ?_
  refine x_get (C := RX2) (T := TX2) (N := 14) (v := .ref (a 9)) C inX2 hH 6 gX_6 rfl 2 (by decide) rfl rfl 3 rfl dX2_partOf_71 ?_
  refine lv_iload_n C.1 C.2.1 dX2_partOf_74 rfl (lv_at hl 1 rfl) ?_
  refine x_iald (f := T 2) (j := k) (v := T 2 k) C hH 9 gX_9 (by omega) (by decide) (rfl) dX2_partOf_75 ?_
  exact hE _ _ _ _ _ hH (rfl) (rfl) dX2_partOf_76
set_option maxHeartbeats 400000 in
set_option maxRecDepth 100000 in
theorem c_X2_partOf_3 (l : Launch) (G : xG) (a : Nat → Nat) (S T : Nat → Nat → Int32) (L : Nat → Nat → Int64) (F : Nat → Int32) (bs : Int64) (k : Nat) (hk : k < 19) : xMi l yX2_partOf wsX2_partOf { frames := 0, cells := 0, slots := 0, locals := 0 } [.ref (a 6), .int (nI k), .int (nI 3)] G (wX G a S T L F bs) (T 3 k) (wX G a S T L F bs) 0 0 := by
  refine x_ofi (cc := cX2_partOf) (maxL := 3) (ty := .int) (by decide) rfl (Nat.le_of_ble_eq_true rfl) ?_
  intro p e s m args below meth c ls A Q C hml hA hH hl hE
  have hl : lv_has ls 3 [(0, .ref (a 6)), (1, .int (nI k)), (2, .int (nI 3))] := hl
  have inX2 : ∀ w ∈ wsX20, w ∈ wsX2_partOf := fun _ h => (List.mem_cons_of_mem _ (List.mem_append_right _ h))
  refine lv_iload_n C.1 C.2.1 dX2_partOf_0 rfl (lv_at hl 2 rfl) ?_
  refine lv_tableIn (tgt := 77) C.1 C.2.1 dX2_partOf_1 (by decide) (by decide) rfl (by decide) ?_
  refine lv_aload_n C.1 C.2.1 dX2_partOf_77 rfl (lv_at hl 0 rfl) ?_
  refine x_get (C := RX2) (T := TX2) (N := 14) (v := .ref (a 10)) C inX2 hH 6 gX_6 rfl 3 (by decide) rfl rfl 4 rfl dX2_partOf_78 ?_
  refine lv_iload_n C.1 C.2.1 dX2_partOf_81 rfl (lv_at hl 1 rfl) ?_
  refine x_iald (f := T 3) (j := k) (v := T 3 k) C hH 10 gX_10 (by omega) (by decide) (rfl) dX2_partOf_82 ?_
  exact hE _ _ _ _ _ hH (rfl) (rfl) dX2_partOf_83
set_option maxHeartbeats 400000 in
set_option maxRecDepth 100000 in
theorem c_X2_partOf_4 (l : Launch) (G : xG) (a : Nat → Nat) (S T : Nat → Nat → Int32) (L : Nat → Nat → Int64) (F : Nat → Int32) (bs : Int64) (k : Nat) (hk : k < 19) : xMi l yX2_partOf wsX2_partOf { frames := 0, cells := 0, slots := 0, locals := 0 } [.ref (a 6), .int (nI k), .int (nI 4)] G (wX G a S T L F bs) (T 4 k) (wX G a S T L F bs) 0 0 := by
  refine x_ofi (cc := cX2_partOf) (maxL := 3) (ty := .int) (by decide) rfl (Nat.le_of_ble_eq_true rfl) ?_
  intro p e s m args below meth c ls A Q C hml hA hH hl hE
  have hl : lv_has ls 3 [(0, .ref (a 6)), (1, .int (nI k)), (2, .int (nI 4))] := hl
  have inX2 : ∀ w ∈ wsX20, w ∈ wsX2_partOf := fun _ h => (List.mem_cons_of_mem _ (List.mem_append_right _ h))
  refine lv_iload_n C.1 C.2.1 dX2_partOf_0 rfl (lv_at hl 2 rfl) ?_
  refine lv_tableIn (tgt := 84) C.1 C.2.1 dX2_partOf_1 (by decide) (by decide) rfl (by decide) ?_
  refine lv_aload_n C.1 C.2.1 dX2_partOf_84 rfl (lv_at hl 0 rfl) ?_
  refine x_get (C := RX2) (T := TX2) (N := 14) (v := .ref (a 11)) C inX2 hH 6 gX_6 rfl 4 (by decide) rfl rfl 5 rfl dX2_partOf_85 ?_
  refine lv_iload_n C.1 C.2.1 dX2_partOf_88 rfl (lv_at hl 1 rfl) ?_
  refine x_iald (f := T 4) (j := k) (v := T 4 k) C hH 11 gX_11 (by omega) (by decide) (rfl) dX2_partOf_89 ?_
  exact hE _ _ _ _ _ hH (rfl) (rfl) dX2_partOf_90
set_option maxHeartbeats 400000 in
set_option maxRecDepth 100000 in
theorem c_X2_partOf_5 (l : Launch) (G : xG) (a : Nat → Nat) (S T : Nat → Nat → Int32) (L : Nat → Nat → Int64) (F : Nat → Int32) (bs : Int64) (k : Nat) (hk : k < 19) : xMi l yX2_partOf wsX2_partOf { frames := 0, cells := 0, slots := 0, locals := 0 } [.ref (a 6), .int (nI k), .int (nI 5)] G (wX G a S T L F bs) (T 5 k) (wX G a S T L F bs) 0 0 := by
  refine x_ofi (cc := cX2_partOf) (maxL := 3) (ty := .int) (by decide) rfl (Nat.le_of_ble_eq_true rfl) ?_
  intro p e s m args below meth c ls A Q C hml hA hH hl hE
  have hl : lv_has ls 3 [(0, .ref (a 6)), (1, .int (nI k)), (2, .int (nI 5))] := hl
  have inX2 : ∀ w ∈ wsX20, w ∈ wsX2_partOf := fun _ h => (List.mem_cons_of_mem _ (List.mem_append_right _ h))
  refine lv_iload_n C.1 C.2.1 dX2_partOf_0 rfl (lv_at hl 2 rfl) ?_
  refine lv_tableIn (tgt := 91) C.1 C.2.1 dX2_partOf_1 (by decide) (by decide) rfl (by decide) ?_
  refine lv_aload_n C.1 C.2.1 dX2_partOf_91 rfl (lv_at hl 0 rfl) ?_
  refine x_get (C := RX2) (T := TX2) (N := 14) (v := .ref (a 12)) C inX2 hH 6 gX_6 rfl 5 (by decide) rfl rfl 6 rfl dX2_partOf_92 ?_
  refine lv_iload_n C.1 C.2.1 dX2_partOf_95 rfl (lv_at hl 1 rfl) ?_
  refine x_iald (f := T 5) (j := k) (v := T 5 k) C hH 12 gX_12 (by omega) (by decide) (rfl) dX2_partOf_96 ?_
  exact hE _ _ _ _ _ hH (rfl) (rfl) dX2_partOf_97
set_option maxHeartbeats 400000 in
set_option maxRecDepth 100000 in
theorem c_X2_partOf_6 (l : Launch) (G : xG) (a : Nat → Nat) (S T : Nat → Nat → Int32) (L : Nat → Nat → Int64) (F : Nat → Int32) (bs : Int64) (k : Nat) (hk : k < 19) : xMi l yX2_partOf wsX2_partOf { frames := 0, cells := 0, slots := 0, locals := 0 } [.ref (a 6), .int (nI k), .int (nI 6)] G (wX G a S T L F bs) (T 6 k) (wX G a S T L F bs) 0 0 := by
  refine x_ofi (cc := cX2_partOf) (maxL := 3) (ty := .int) (by decide) rfl (Nat.le_of_ble_eq_true rfl) ?_
  intro p e s m args below meth c ls A Q C hml hA hH hl hE
  have hl : lv_has ls 3 [(0, .ref (a 6)), (1, .int (nI k)), (2, .int (nI 6))] := hl
  have inX2 : ∀ w ∈ wsX20, w ∈ wsX2_partOf := fun _ h => (List.mem_cons_of_mem _ (List.mem_append_right _ h))
  refine lv_iload_n C.1 C.2.1 dX2_partOf_0 rfl (lv_at hl 2 rfl) ?_
  refine lv_tableIn (tgt := 98) C.1 C.2.1 dX2_partOf_1 (by decide) (by decide) rfl (by decide) ?_
  refine lv_aload_n C.1 C.2.1 dX2_partOf_98 rfl (lv_at hl 0 rfl) ?_
  refine x_get (C := RX2) (T := TX2) (N := 14) (v := .ref (a 13)) C inX2 hH 6 gX_6 rfl 6 (by decide) rfl rfl 7 rfl dX2_partOf_99 ?_
  refine lv_iload_n C.1 C.2.1 dX2_partOf_102 rfl (lv_at hl 1 rfl) ?_
  refine x_iald (f := T 6) (j := k) (v := T 6 k) C hH 13 gX_13 (by omega) (by decide) (rfl) dX2_partOf_103 ?_
  exact hE _ _ _ _ _ hH (rfl) (rfl) dX2_partOf_104
set_option maxHeartbeats 400000 in
set_option maxRecDepth 100000 in
theorem c_X2_partOf_7 (l : Launch) (G : xG) (a : Nat → Nat) (S T : Nat → Nat → Int32) (L : Nat → Nat → Int64) (F : Nat → Int32) (bs : Int64) (k : Nat) (hk : k < 19) : xMi l yX2_partOf wsX2_partOf { frames := 0, cells := 0, slots := 0, locals := 0 } [.ref (a 6), .int (nI k), .int (nI 7)] G (wX G a S T L F bs) (T 7 k) (wX G a S T L F bs) 0 0 := by
  refine x_ofi (cc := cX2_partOf) (maxL := 3) (ty := .int) (by decide) rfl (Nat.le_of_ble_eq_true rfl) ?_
  intro p e s m args below meth c ls A Q C hml hA hH hl hE
  have hl : lv_has ls 3 [(0, .ref (a 6)), (1, .int (nI k)), (2, .int (nI 7))] := hl
  have inX2 : ∀ w ∈ wsX20, w ∈ wsX2_partOf := fun _ h => (List.mem_cons_of_mem _ (List.mem_append_right _ h))
  refine lv_iload_n C.1 C.2.1 dX2_partOf_0 rfl (lv_at hl 2 rfl) ?_
  refine lv_tableIn (tgt := 105) C.1 C.2.1 dX2_partOf_1 (by decide) (by decide) rfl (by decide) ?_
  refine lv_aload_n C.1 C.2.1 dX2_partOf_105 rfl (lv_at hl 0 rfl) ?_
  refine x_get (C := RX2) (T := TX2) (N := 14) (v := .ref (a 14)) C inX2 hH 6 gX_6 rfl 7 (by decide) rfl rfl 8 rfl dX2_partOf_106 ?_
  refine lv_iload_n C.1 C.2.1 dX2_partOf_109 rfl (lv_at hl 1 rfl) ?_
  refine x_iald (f := T 7) (j := k) (v := T 7 k) C hH 14 gX_14 (by omega) (by decide) (rfl) dX2_partOf_110 ?_
  exact hE _ _ _ _ _ hH (rfl) (rfl) dX2_partOf_111
set_option maxHeartbeats 400000 in
set_option maxRecDepth 100000 in
theorem c_X2_partOf_8 (l : Launch) (G : xG) (a : Nat → Nat) (S T : Nat → Nat → Int32) (L : Nat → Nat → Int64) (F : Nat → Int32) (bs : Int64) (k : Nat) (hk : k < 19) : xMi l yX2_partOf wsX2_partOf { frames := 0, cells := 0, slots := 0, locals := 0 } [.ref (a 6), .int (nI k), .int (nI 8)] G (wX G a S T L F bs) (T 8 k) (wX G a S T L F bs) 0 0 := by
  refine x_ofi (cc := cX2_partOf) (maxL := 3) (ty := .int) (by decide) rfl (Nat.le_of_ble_eq_true rfl) ?_
  intro p e s m args below meth c ls A Q C hml hA hH hl hE
  have hl : lv_has ls 3 [(0, .ref (a 6)), (1, .int (nI k)), (2, .int (nI 8))] := hl
  have inX2 : ∀ w ∈ wsX20, w ∈ wsX2_partOf := fun _ h => (List.mem_cons_of_mem _ (List.mem_append_right _ h))
  refine lv_iload_n C.1 C.2.1 dX2_partOf_0 rfl (lv_at hl 2 rfl) ?_
  refine lv_tableIn (tgt := 112) C.1 C.2.1 dX2_partOf_1 (by decide) (by decide) rfl (by decide) ?_
  refine lv_aload_n C.1 C.2.1 dX2_partOf_112 rfl (lv_at hl 0 rfl) ?_
  refine x_get (C := RX2) (T := TX2) (N := 14) (v := .ref (a 15)) C inX2 hH 6 gX_6 rfl 8 (by decide) rfl rfl 9 rfl dX2_partOf_113 ?_
  refine lv_iload_n C.1 C.2.1 dX2_partOf_116 rfl (lv_at hl 1 rfl) ?_
  refine x_iald (f := T 8) (j := k) (v := T 8 k) C hH 15 gX_15 (by omega) (by decide) (rfl) dX2_partOf_117 ?_
  exact hE _ _ _ _ _ hH (rfl) (rfl) dX2_partOf_118
set_option maxHeartbeats 400000 in
set_option maxRecDepth 100000 in
theorem c_X2_partOf_9 (l : Launch) (G : xG) (a : Nat → Nat) (S T : Nat → Nat → Int32) (L : Nat → Nat → Int64) (F : Nat → Int32) (bs : Int64) (k : Nat) (hk : k < 19) : xMi l yX2_partOf wsX2_partOf { frames := 0, cells := 0, slots := 0, locals := 0 } [.ref (a 6), .int (nI k), .int (nI 9)] G (wX G a S T L F bs) (T 9 k) (wX G a S T L F bs) 0 0 := by
  refine x_ofi (cc := cX2_partOf) (maxL := 3) (ty := .int) (by decide) rfl (Nat.le_of_ble_eq_true rfl) ?_
  intro p e s m args below meth c ls A Q C hml hA hH hl hE
  have hl : lv_has ls 3 [(0, .ref (a 6)), (1, .int (nI k)), (2, .int (nI 9))] := hl
  have inX2 : ∀ w ∈ wsX20, w ∈ wsX2_partOf := fun _ h => (List.mem_cons_of_mem _ (List.mem_append_right _ h))
  refine lv_iload_n C.1 C.2.1 dX2_partOf_0 rfl (lv_at hl 2 rfl) ?_
  refine lv_tableIn (tgt := 119) C.1 C.2.1 dX2_partOf_1 (by decide) (by decide) rfl (by decide) ?_
  refine lv_aload_n C.1 C.2.1 dX2_partOf_119 rfl (lv_at hl 0 rfl) ?_
  refine x_get (C := RX2) (T := TX2) (N := 14) (v := .ref (a 16)) C inX2 hH 6 gX_6 rfl 9 (by decide) rfl rfl 10 rfl dX2_partOf_120 ?_
  refine lv_iload_n C.1 C.2.1 dX2_partOf_123 rfl (lv_at hl 1 rfl) ?_
  refine x_iald (f := T 9) (j := k) (v := T 9 k) C hH 16 gX_16 (by omega) (by decide) (rfl) dX2_partOf_124 ?_
  exact hE _ _ _ _ _ hH (rfl) (rfl) dX2_partOf_125
set_option maxHeartbeats 400000 in
set_option maxRecDepth 100000 in
theorem c_X2_partOf_10 (l : Launch) (G : xG) (a : Nat → Nat) (S T : Nat → Nat → Int32) (L : Nat → Nat → Int64) (F : Nat → Int32) (bs : Int64) (k : Nat) (hk : k < 19) : xMi l yX2_partOf wsX2_partOf { frames := 0, cells := 0, slots := 0, locals := 0 } [.ref (a 6), .int (nI k), .int (nI 10)] G (wX G a S T L F bs) (T 10 k) (wX G a S T L F bs) 0 0 := by
  refine x_ofi (cc := cX2_partOf) (maxL := 3) (ty := .int) (by decide) rfl (Nat.le_of_ble_eq_true rfl) ?_
  intro p e s m args below meth c ls A Q C hml hA hH hl hE
  have hl : lv_has ls 3 [(0, .ref (a 6)), (1, .int (nI k)), (2, .int (nI 10))] := hl
  have inX2 : ∀ w ∈ wsX20, w ∈ wsX2_partOf := fun _ h => (List.mem_cons_of_mem _ (List.mem_append_right _ h))
  refine lv_iload_n C.1 C.2.1 dX2_partOf_0 rfl (lv_at hl 2 rfl) ?_
  refine lv_tableOut (tgt := 126) C.1 C.2.1 dX2_partOf_1 (by decide) (by decide) ?_
  refine lv_aload_n C.1 C.2.1 dX2_partOf_126 rfl (lv_at hl 0 rfl) ?_
  refine x_get (C := RX2) (T := TX2) (N := 14) (v := .ref (a 17)) C inX2 hH 6 gX_6 rfl 10 (by decide) rfl rfl 11 rfl dX2_partOf_127 ?_
  refine lv_iload_n C.1 C.2.1 dX2_partOf_130 rfl (lv_at hl 1 rfl) ?_
  refine x_iald (f := T 10) (j := k) (v := T 10 k) C hH 17 gX_17 (by omega) (by decide) (rfl) dX2_partOf_131 ?_
  exact hE _ _ _ _ _ hH (rfl) (rfl) dX2_partOf_132
