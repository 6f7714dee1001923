set_option maxHeartbeats 400000 in
set_option maxRecDepth 100000 in
theorem c_X2_bitOf (l : Launch) (G : xG) (a : Nat → Nat) (S T : Nat → Nat → Int32) (L : Nat → Nat → Int64) (F : Nat → Int32) (bs : Int64) (j lv : Nat) (hF5 : F 5 = nI lv) (hj : lv ≤ j) : xMi l yX2_bitOf wsX2_bitOf { frames := 0, cells := 0, slots := 0, locals := 0 } [.ref (a 6), .int (nI j)] G (wX G a S T L F bs) (bitI (j - lv)) (wX G a S T L F bs) 0 0 := by
  refine x_ofi (cc := cX2_bitOf) (maxL := 2) (ty := .int) (by decide) rfl (Nat.le_of_ble_eq_true rfl) ?_
  intro p e s m args below meth c ls A Q C hml hA hH hl hE
  have hl : lv_has ls 2 [(0, .ref (a 6)), (1, .int (nI j))] := hl
  have inX2 : ∀ w ∈ wsX20, w ∈ wsX2_bitOf := fun _ h => (List.mem_cons_of_mem _ (List.mem_append_right _ h))
  refine lv_iconst (v := nI 1) C.1 C.2.1 dX2_bitOf_0 (by decide) ?_
  refine lv_iload_n C.1 C.2.1 dX2_bitOf_1 rfl (lv_at hl 1 rfl) ?_
  refine lv_aload_n C.1 C.2.1 dX2_bitOf_2 rfl (lv_at hl 0 rfl) ?_
  refine x_get (C := RX2) (T := TX2) (N := 14) (v := .int (F 5)) C inX2 hH 6 gX_6 rfl 12 (by decide) rfl rfl 1 rfl dX2_bitOf_3 ?_
  refine x_toi hF5 ?_
  refine lv_isub C.1 C.2.1 dX2_bitOf_6 ?_
  refine x_toi (pk_sub (a := j) (b := lv) (by omega)) ?_
  refine lv_ishl C.1 C.2.1 dX2_bitOf_7 ?_
  exact hE _ _ _ _ _ hH (rfl) (rfl) dX2_bitOf_8
set_option maxHeartbeats 400000 in
set_option maxRecDepth 100000 in
theorem c_X2_distanceOf (l : Launch) (G : xG) (a : Nat → Nat) (S T : Nat → Nat → Int32) (L : Nat → Nat → Int64) (F : Nat → Int32) (bs : Int64) (i j : Nat) (hi : i < 19) (hj : j < 19) : xMi l yX2_distanceOf wsX2_distanceOf { frames := 2, cells := 0, slots := 0, locals := 37 } [.ref (a 6), .int (nI i), .int (nI j)] G (wX G a S T L F bs) (dist T i j) (wX G a S T L F bs) 0 0 := by
  refine x_ofi (cc := cX2_distanceOf) (maxL := 5) (ty := .int) (by decide) rfl (Nat.le_of_ble_eq_true rfl) ?_
  intro p e s m args below meth c ls A Q C hml hA hH hl hE
  have hl : lv_has ls 5 [(0, .ref (a 6)), (1, .int (nI i)), (2, .int (nI j))] := hl
  have inX2 : ∀ w ∈ wsX20, w ∈ wsX2_distanceOf := fun _ h => (List.mem_cons_of_mem _ (List.mem_append_right _ h))
  refine lv_aload_n C.1 C.2.1 dX2_distanceOf_0 rfl (lv_at hl 0 rfl) ?_
  refine x_get (C := RX2) (T := TX2) (N := 14) (v := .ref (a 10)) C inX2 hH 6 gX_6 rfl 3 (by decide) rfl rfl 1 rfl dX2_distanceOf_1 ?_
  refine lv_iload_n C.1 C.2.1 dX2_distanceOf_4 rfl (lv_at hl 1 rfl) ?_
  refine x_iald (f := T 3) (j := i) (v := T 3 i) C hH 10 gX_10 (by omega) (by decide) (rfl) dX2_distanceOf_5 ?_
  refine lv_aload_n C.1 C.2.1 dX2_distanceOf_6 rfl (lv_at hl 0 rfl) ?_
  refine x_get (C := RX2) (T := TX2) (N := 14) (v := .ref (a 11)) C inX2 hH 6 gX_6 rfl 4 (by decide) rfl rfl 2 rfl dX2_distanceOf_7 ?_
  refine lv_iload_n C.1 C.2.1 dX2_distanceOf_10 rfl (lv_at hl 1 rfl) ?_
  refine x_iald (f := T 4) (j := i) (v := T 4 i) C hH 11 gX_11 (by omega) (by decide) (rfl) dX2_distanceOf_11 ?_
  refine lv_aload_n C.1 C.2.1 dX2_distanceOf_12 rfl (lv_at hl 0 rfl) ?_
  refine x_get (C := RX2) (T := TX2) (N := 14) (v := .ref (a 10)) C inX2 hH 6 gX_6 rfl 3 (by decide) rfl rfl 1 rfl dX2_distanceOf_13 ?_
  refine lv_iload_n C.1 C.2.1 dX2_distanceOf_16 rfl (lv_at hl 2 rfl) ?_
  refine x_iald (f := T 3) (j := j) (v := T 3 j) C hH 10 gX_10 (by omega) (by decide) (rfl) dX2_distanceOf_17 ?_
  refine lv_aload_n C.1 C.2.1 dX2_distanceOf_18 rfl (lv_at hl 0 rfl) ?_
  refine x_get (C := RX2) (T := TX2) (N := 14) (v := .ref (a 11)) C inX2 hH 6 gX_6 rfl 4 (by decide) rfl rfl 2 rfl dX2_distanceOf_19 ?_
  refine lv_iload_n C.1 C.2.1 dX2_distanceOf_22 rfl (lv_at hl 2 rfl) ?_
  refine x_iald (f := T 4) (j := j) (v := T 4 j) C hH 11 gX_11 (by omega) (by decide) (rfl) dX2_distanceOf_23 ?_
  refine x_ci (w' := wX G a S T L F bs) (va_runS (As := [.int (T 3 i), .int (T 4 i), .int (T 3 j), .int (T 4 j)]) (rest := []) (x_fix C hml) (c_X2_gapOf l G a S T L F bs (T 3 i) (T 4 i) (T 3 j) (T 4 j) _) (cwS 4 C.2.2.2.1 gX2_distanceOf_X2_gapOf rfl rfl rfl (by decide +kernel) ⟨Nat.le_of_ble_eq_true rfl, Nat.le_of_ble_eq_true rfl⟩) (x_ps C hH) rfl rfl hl.1 rfl (lv_room (Nat.le_of_ble_eq_true rfl)) dX2_distanceOf_24 ⟨Nat.le_of_ble_eq_true rfl, Nat.le_of_ble_eq_true rfl⟩) hH hA (fun H locs hH => ?_)
  refine lv_istore_n (lv' := [(3, .int (iG (T 3 i) (T 4 i) (T 3 j) (T 4 j))), (0, .ref (a 6)), (1, .int (nI i)), (2, .int (nI j))]) C.1 C.2.1 dX2_distanceOf_27 rfl hl (by decide) rfl (fun ls hl => ?_)
  refine lv_aload_n C.1 C.2.1 dX2_distanceOf_28 rfl (lv_at hl 1 rfl) ?_
  refine x_get (C := RX2) (T := TX2) (N := 14) (v := .ref (a 12)) C inX2 hH 6 gX_6 rfl 5 (by decide) rfl rfl 3 rfl dX2_distanceOf_29 ?_
  refine lv_iload_n C.1 C.2.1 dX2_distanceOf_32 rfl (lv_at hl 2 rfl) ?_
  refine x_iald (f := T 5) (j := i) (v := T 5 i) C hH 12 gX_12 (by omega) (by decide) (rfl) dX2_distanceOf_33 ?_
  refine lv_aload_n C.1 C.2.1 dX2_distanceOf_34 rfl (lv_at hl 1 rfl) ?_
  refine x_get (C := RX2) (T := TX2) (N := 14) (v := .ref (a 13)) C inX2 hH 6 gX_6 rfl 6 (by decide) rfl rfl 4 rfl dX2_distanceOf_35 ?_
  refine lv_iload_n C.1 C.2.1 dX2_distanceOf_38 rfl (lv_at hl 2 rfl) ?_
  refine x_iald (f := T 6) (j := i) (v := T 6 i) C hH 13 gX_13 (by omega) (by decide) (rfl) dX2_distanceOf_39 ?_
  refine lv_aload_n C.1 C.2.1 dX2_distanceOf_40 rfl (lv_at hl 1 rfl) ?_
  refine x_get (C := RX2) (T := TX2) (N := 14) (v := .ref (a 12)) C inX2 hH 6 gX_6 rfl 5 (by decide) rfl rfl 3 rfl dX2_distanceOf_41 ?_
  refine lv_iload_n C.1 C.2.1 dX2_distanceOf_44 rfl (lv_at hl 3 rfl) ?_
  refine x_iald (f := T 5) (j := j) (v := T 5 j) C hH 12 gX_12 (by omega) (by decide) (rfl) dX2_distanceOf_45 ?_
  refine lv_aload_n C.1 C.2.1 dX2_distanceOf_46 rfl (lv_at hl 1 rfl) ?_
  refine x_get (C := RX2) (T := TX2) (N := 14) (v := .ref (a 13)) C inX2 hH 6 gX_6 rfl 6 (by decide) rfl rfl 4 rfl dX2_distanceOf_47 ?_
  refine lv_iload_n C.1 C.2.1 dX2_distanceOf_50 rfl (lv_at hl 3 rfl) ?_
  refine x_iald (f := T 6) (j := j) (v := T 6 j) C hH 13 gX_13 (by omega) (by decide) (rfl) dX2_distanceOf_51 ?_
  refine x_ci (w' := wX G a S T L F bs) (va_runS (As := [.int (T 5 i), .int (T 6 i), .int (T 5 j), .int (T 6 j)]) (rest := []) (x_fix C hml) (c_X2_gapOf l G a S T L F bs (T 5 i) (T 6 i) (T 5 j) (T 6 j) _) (cwS 4 C.2.2.2.1 gX2_distanceOf_X2_gapOf rfl rfl rfl (by decide +kernel) ⟨Nat.le_of_ble_eq_true rfl, Nat.le_of_ble_eq_true rfl⟩) (x_ps C hH) rfl rfl hl.1 rfl (lv_room (Nat.le_of_ble_eq_true rfl)) dX2_distanceOf_52 ⟨Nat.le_of_ble_eq_true rfl, Nat.le_of_ble_eq_true rfl⟩) hH hA (fun H locs hH => ?_)
  refine lv_istore (lv' := [(4, .int (iG (T 5 i) (T 6 i) (T 5 j) (T 6 j))), (3, .int (iG (T 3 i) (T 4 i) (T 3 j) (T 4 j))), (0, .ref (a 6)), (1, .int (nI i)), (2, .int (nI j))]) C.1 C.2.1 dX2_distanceOf_55 hl (by decide) rfl (fun ls hl => ?_)
  refine lv_iload_n C.1 C.2.1 dX2_distanceOf_57 rfl (lv_at hl 1 rfl) ?_
  refine lv_iload C.1 C.2.1 dX2_distanceOf_58 (lv_at hl 0 rfl) ?_
  refine va_mmax C.1 C.2.1 (hml.trans hl.1.symm) C.2.2.1 (C.2.2.2.1 _ (List.mem_of_getElem? (i := 5) rfl)) (C.2.2.2.1 _ (List.mem_of_getElem? (i := 6) rfl)) (C.2.2.2.1 _ (List.mem_of_getElem? (i := 7) rfl)) (C.2.2.2.1 _ (List.mem_of_getElem? (i := 8) rfl)) (Nat.le_of_ble_eq_true rfl) (Nat.le_of_ble_eq_true rfl) (Nat.le_of_ble_eq_true rfl) (Nat.le_of_ble_eq_true rfl) dX2_distanceOf_60 ?_
  refine x_toi (show _ = imax (iG (T 3 i) (T 4 i) (T 3 j) (T 4 j)) (iG (T 5 i) (T 6 i) (T 5 j) (T 6 j)) from rfl) ?_
  exact hE _ _ _ _ _ hH (rfl) (rfl) dX2_distanceOf_63
set_option maxHeartbeats 400000 in
set_option maxRecDepth 100000 in
theorem c_X2_setWires (l : Launch) (G : xG) (a : Nat → Nat) (S T : Nat → Nat → Int32) (L : Nat → Nat → Int64) (F : Nat → Int32) (bs : Int64) (i j : Nat) (d : Int32) (hi : i < 19) (hj : j < 19) : xMv l yX2_setWires wsX2_setWires { frames := 0, cells := 0, slots := 0, locals := 0 } [.ref (a 6), .int (nI i), .int (nI j), .int d] G (wX G a S T L F bs) (wX G a S (tS T 8 (upd (upd (T 8) i (wA T i j d)) j (wB T i j d))) L F bs) 0 0 := by
  refine x_ofv (cc := cX2_setWires) (maxL := 4) (by decide) rfl (Nat.le_of_ble_eq_true rfl) ?_
  intro p e s m args below meth c ls A Q C hml hA hH hl hE
  have hl : lv_has ls 4 [(0, .ref (a 6)), (1, .int (nI i)), (2, .int (nI j)), (3, .int d)] := hl
  have inX2 : ∀ w ∈ wsX20, w ∈ wsX2_setWires := fun _ h => (List.mem_cons_of_mem _ (List.mem_append_right _ h))
  refine lv_aload_n C.1 C.2.1 dX2_setWires_0 rfl (lv_at hl 0 rfl) ?_
  refine x_get (C := RX2) (T := TX2) (N := 14) (v := .ref (a 14)) C inX2 hH 6 gX_6 rfl 7 (by decide) rfl rfl 1 rfl dX2_setWires_1 ?_
  refine lv_iload_n C.1 C.2.1 dX2_setWires_4 rfl (lv_at hl 1 rfl) ?_
  refine x_iald (f := T 7) (j := i) (v := T 7 i) C hH 14 gX_14 (by omega) (by decide) (rfl) dX2_setWires_5 ?_
  refine lv_iload_n C.1 C.2.1 dX2_setWires_6 rfl (lv_at hl 3 rfl) ?_
  refine lv_aload_n C.1 C.2.1 dX2_setWires_7 rfl (lv_at hl 0 rfl) ?_
  refine x_get (C := RX2) (T := TX2) (N := 14) (v := .ref (a 14)) C inX2 hH 6 gX_6 rfl 7 (by decide) rfl rfl 1 rfl dX2_setWires_8 ?_
  refine lv_iload_n C.1 C.2.1 dX2_setWires_11 rfl (lv_at hl 2 rfl) ?_
  refine x_iald (f := T 7) (j := j) (v := T 7 j) C hH 14 gX_14 (by omega) (by decide) (rfl) dX2_setWires_12 ?_
  refine lv_iadd C.1 C.2.1 dX2_setWires_13 ?_
  refine lv_icmp_le (tgt := 46) C.1 C.2.1 dX2_setWires_14 (by decide) (fun c_1 => ?_) (fun c_1 => ?_)
  · refine lv_aload_n C.1 C.2.1 dX2_setWires_46 rfl (lv_at hl 0 rfl) ?_
    refine x_get (C := RX2) (T := TX2) (N := 14) (v := .ref (a 14)) C inX2 hH 6 gX_6 rfl 7 (by decide) rfl rfl 1 rfl dX2_setWires_47 ?_
    refine lv_iload_n C.1 C.2.1 dX2_setWires_50 rfl (lv_at hl 2 rfl) ?_
    refine x_iald (f := T 7) (j := j) (v := T 7 j) C hH 14 gX_14 (by omega) (by decide) (rfl) dX2_setWires_51 ?_
    refine lv_iload_n C.1 C.2.1 dX2_setWires_52 rfl (lv_at hl 3 rfl) ?_
    refine lv_aload_n C.1 C.2.1 dX2_setWires_53 rfl (lv_at hl 0 rfl) ?_
    refine x_get (C := RX2) (T := TX2) (N := 14) (v := .ref (a 14)) C inX2 hH 6 gX_6 rfl 7 (by decide) rfl rfl 1 rfl dX2_setWires_54 ?_
    refine lv_iload_n C.1 C.2.1 dX2_setWires_57 rfl (lv_at hl 1 rfl) ?_
    refine x_iald (f := T 7) (j := i) (v := T 7 i) C hH 14 gX_14 (by omega) (by decide) (rfl) dX2_setWires_58 ?_
    refine lv_iadd C.1 C.2.1 dX2_setWires_59 ?_
    refine lv_icmp_le (tgt := 92) C.1 C.2.1 dX2_setWires_60 (by decide) (fun c_2 => ?_) (fun c_2 => ?_)
    · refine lv_aload_n C.1 C.2.1 dX2_setWires_92 rfl (lv_at hl 0 rfl) ?_
      refine x_get (C := RX2) (T := TX2) (N := 14) (v := .ref (a 15)) C inX2 hH 6 gX_6 rfl 8 (by decide) rfl rfl 2 rfl dX2_setWires_93 ?_
      refine lv_iload_n C.1 C.2.1 dX2_setWires_96 rfl (lv_at hl 1 rfl) ?_
      refine lv_iload_n C.1 C.2.1 dX2_setWires_97 rfl (lv_at hl 3 rfl) ?_
      refine lv_aload_n C.1 C.2.1 dX2_setWires_98 rfl (lv_at hl 0 rfl) ?_
      refine x_get (C := RX2) (T := TX2) (N := 14) (v := .ref (a 14)) C inX2 hH 6 gX_6 rfl 7 (by decide) rfl rfl 1 rfl dX2_setWires_99 ?_
      refine lv_iload_n C.1 C.2.1 dX2_setWires_102 rfl (lv_at hl 2 rfl) ?_
      refine x_iald (f := T 7) (j := j) (v := T 7 j) C hH 14 gX_14 (by omega) (by decide) (rfl) dX2_setWires_103 ?_
      refine lv_iadd C.1 C.2.1 dX2_setWires_104 ?_
      refine lv_aload_n C.1 C.2.1 dX2_setWires_105 rfl (lv_at hl 0 rfl) ?_
      refine x_get (C := RX2) (T := TX2) (N := 14) (v := .ref (a 14)) C inX2 hH 6 gX_6 rfl 7 (by decide) rfl rfl 1 rfl dX2_setWires_106 ?_
      refine lv_iload_n C.1 C.2.1 dX2_setWires_109 rfl (lv_at hl 1 rfl) ?_
      refine x_iald (f := T 7) (j := i) (v := T 7 i) C hH 14 gX_14 (by omega) (by decide) (rfl) dX2_setWires_110 ?_
      refine lv_isub C.1 C.2.1 dX2_setWires_111 ?_
      refine lv_iconst (v := nI 2) C.1 C.2.1 dX2_setWires_112 (by decide) ?_
      refine lv_idiv C.1 C.2.1 dX2_setWires_113 (by decide) ?_
      refine x_iast (f := T 8) (j := i) (x := ((d + (T 7 j)) - (T 7 i)) / (nI 2)) (w' := wX G a S ((tS T 8 (upd (T 8) i (((d + (T 7 j)) - (T 7 i)) / (nI 2))))) L F bs) C hH 15 gX_15 (by omega) (by decide) sX_15 dX2_setWires_114 (fun H locs hH => ?_)
      refine lv_aload_n C.1 C.2.1 dX2_setWires_115 rfl (lv_at hl 0 rfl) ?_
      refine x_get (C := RX2) (T := TX2) (N := 14) (v := .ref (a 15)) C inX2 hH 6 gX_6 rfl 8 (by decide) rfl rfl 2 rfl dX2_setWires_116 ?_
      refine lv_iload_n C.1 C.2.1 dX2_setWires_119 rfl (lv_at hl 2 rfl) ?_
      refine lv_iload_n C.1 C.2.1 dX2_setWires_120 rfl (lv_at hl 3 rfl) ?_
      refine lv_aload_n C.1 C.2.1 dX2_setWires_121 rfl (lv_at hl 0 rfl) ?_
      refine x_get (C := RX2) (T := TX2) (N := 14) (v := .ref (a 15)) C inX2 hH 6 gX_6 rfl 8 (by decide) rfl rfl 2 rfl dX2_setWires_122 ?_
      refine lv_iload_n C.1 C.2.1 dX2_setWires_125 rfl (lv_at hl 1 rfl) ?_
      refine x_iald (f := upd (T 8) i (((d + (T 7 j)) - (T 7 i)) / (nI 2))) (j := i) (v := ((d + (T 7 j)) - (T 7 i)) / (nI 2)) C hH 15 gX_15 (by omega) (by decide) (pk_us) dX2_setWires_126 ?_
      refine lv_isub C.1 C.2.1 dX2_setWires_127 ?_
      refine x_iast (f := upd (T 8) i (((d + (T 7 j)) - (T 7 i)) / (nI 2))) (j := j) (x := d - (((d + (T 7 j)) - (T 7 i)) / (nI 2))) (w' := wX G a S ((tS T 8 (upd (upd (T 8) i (((d + (T 7 j)) - (T 7 i)) / (nI 2))) j (d - (((d + (T 7 j)) - (T 7 i)) / (nI 2)))))) L F bs) C hH 15 gX_15 (by omega) (by decide) sX_15 dX2_setWires_128 (fun H locs hH => ?_)
      have hH := x_eqw (w' := wX G a S (tS T 8 (upd (upd (T 8) i (wA T i j d)) j (wB T i j d))) L F bs) (by (try simp only [← Int32.not_lt, ← Nat.not_lt, Classical.not_not] at c_1); (try simp only [← Int32.not_lt, ← Nat.not_lt, Classical.not_not] at c_2); simp only [wA, wB, ← Int32.not_lt, c_1, c_2, and_self, and_true, true_and, and_false, false_and, or_true, true_or, or_false, false_or, not_true_eq_false, not_false_eq_true, Classical.not_not, if_true, if_false, reduceIte]) hH
      exact hE _ _ _ _ hH dX2_setWires_129
    · refine lv_aload_n C.1 C.2.1 dX2_setWires_63 rfl (lv_at hl 0 rfl) ?_
      refine x_get (C := RX2) (T := TX2) (N := 14) (v := .ref (a 15)) C inX2 hH 6 gX_6 rfl 8 (by decide) rfl rfl 2 rfl dX2_setWires_64 ?_
      refine lv_iload_n C.1 C.2.1 dX2_setWires_67 rfl (lv_at hl 1 rfl) ?_
      refine lv_aload_n C.1 C.2.1 dX2_setWires_68 rfl (lv_at hl 0 rfl) ?_
      refine x_get (C := RX2) (T := TX2) (N := 14) (v := .ref (a 14)) C inX2 hH 6 gX_6 rfl 7 (by decide) rfl rfl 1 rfl dX2_setWires_69 ?_
      refine lv_iload_n C.1 C.2.1 dX2_setWires_72 rfl (lv_at hl 2 rfl) ?_
      refine x_iald (f := T 7) (j := j) (v := T 7 j) C hH 14 gX_14 (by omega) (by decide) (rfl) dX2_setWires_73 ?_
      refine lv_aload_n C.1 C.2.1 dX2_setWires_74 rfl (lv_at hl 0 rfl) ?_
      refine x_get (C := RX2) (T := TX2) (N := 14) (v := .ref (a 14)) C inX2 hH 6 gX_6 rfl 7 (by decide) rfl rfl 1 rfl dX2_setWires_75 ?_
      refine lv_iload_n C.1 C.2.1 dX2_setWires_78 rfl (lv_at hl 1 rfl) ?_
      refine x_iald (f := T 7) (j := i) (v := T 7 i) C hH 14 gX_14 (by omega) (by decide) (rfl) dX2_setWires_79 ?_
      refine lv_isub C.1 C.2.1 dX2_setWires_80 ?_
      refine x_iast (f := T 8) (j := i) (x := (T 7 j) - (T 7 i)) (w' := wX G a S ((tS T 8 (upd (T 8) i ((T 7 j) - (T 7 i))))) L F bs) C hH 15 gX_15 (by omega) (by decide) sX_15 dX2_setWires_81 (fun H locs hH => ?_)
      refine lv_aload_n C.1 C.2.1 dX2_setWires_82 rfl (lv_at hl 0 rfl) ?_
      refine x_get (C := RX2) (T := TX2) (N := 14) (v := .ref (a 15)) C inX2 hH 6 gX_6 rfl 8 (by decide) rfl rfl 2 rfl dX2_setWires_83 ?_
      refine lv_iload_n C.1 C.2.1 dX2_setWires_86 rfl (lv_at hl 2 rfl) ?_
      refine lv_iconst (v := nI 0) C.1 C.2.1 dX2_setWires_87 (by decide) ?_
      refine x_iast (f := upd (T 8) i ((T 7 j) - (T 7 i))) (j := j) (x := nI 0) (w' := wX G a S ((tS T 8 (upd (upd (T 8) i ((T 7 j) - (T 7 i))) j (nI 0)))) L F bs) C hH 15 gX_15 (by omega) (by decide) sX_15 dX2_setWires_88 (fun H locs hH => ?_)
      refine lv_goto (tgt := 129) C.1 C.2.1 dX2_setWires_89 (by decide) ?_
      have hH := x_eqw (w' := wX G a S (tS T 8 (upd (upd (T 8) i (wA T i j d)) j (wB T i j d))) L F bs) (by (try simp only [← Int32.not_lt, ← Nat.not_lt, Classical.not_not] at c_1); (try simp only [← Int32.not_lt, ← Nat.not_lt, Classical.not_not] at c_2); simp only [wA, wB, ← Int32.not_lt, c_1, c_2, and_self, and_true, true_and, and_false, false_and, or_true, true_or, or_false, false_or, not_true_eq_false, not_false_eq_true, Classical.not_not, if_true, if_false, reduceIte]) hH
      exact hE _ _ _ _ hH dX2_setWires_129
  · refine lv_aload_n C.1 C.2.1 dX2_setWires_17 rfl (lv_at hl 0 rfl) ?_
    refine x_get (C := RX2) (T := TX2) (N := 14) (v := .ref (a 15)) C inX2 hH 6 gX_6 rfl 8 (by decide) rfl rfl 2 rfl dX2_setWires_18 ?_
    refine lv_iload_n C.1 C.2.1 dX2_setWires_21 rfl (lv_at hl 1 rfl) ?_
    refine lv_iconst (v := nI 0) C.1 C.2.1 dX2_setWires_22 (by decide) ?_
    refine x_iast (f := T 8) (j := i) (x := nI 0) (w' := wX G a S ((tS T 8 (upd (T 8) i (nI 0)))) L F bs) C hH 15 gX_15 (by omega) (by decide) sX_15 dX2_setWires_23 (fun H locs hH => ?_)
    refine lv_aload_n C.1 C.2.1 dX2_setWires_24 rfl (lv_at hl 0 rfl) ?_
    refine x_get (C := RX2) (T := TX2) (N := 14) (v := .ref (a 15)) C inX2 hH 6 gX_6 rfl 8 (by decide) rfl rfl 2 rfl dX2_setWires_25 ?_
    refine lv_iload_n C.1 C.2.1 dX2_setWires_28 rfl (lv_at hl 2 rfl) ?_
    refine lv_aload_n C.1 C.2.1 dX2_setWires_29 rfl (lv_at hl 0 rfl) ?_
    refine x_get (C := RX2) (T := TX2) (N := 14) (v := .ref (a 14)) C inX2 hH 6 gX_6 rfl 7 (by decide) rfl rfl 1 rfl dX2_setWires_30 ?_
    refine lv_iload_n C.1 C.2.1 dX2_setWires_33 rfl (lv_at hl 1 rfl) ?_
    refine x_iald (f := T 7) (j := i) (v := T 7 i) C hH 14 gX_14 (by omega) (by decide) (rfl) dX2_setWires_34 ?_
    refine lv_aload_n C.1 C.2.1 dX2_setWires_35 rfl (lv_at hl 0 rfl) ?_
    refine x_get (C := RX2) (T := TX2) (N := 14) (v := .ref (a 14)) C inX2 hH 6 gX_6 rfl 7 (by decide) rfl rfl 1 rfl dX2_setWires_36 ?_
    refine lv_iload_n C.1 C.2.1 dX2_setWires_39 rfl (lv_at hl 2 rfl) ?_
    refine x_iald (f := T 7) (j := j) (v := T 7 j) C hH 14 gX_14 (by omega) (by decide) (rfl) dX2_setWires_40 ?_
    refine lv_isub C.1 C.2.1 dX2_setWires_41 ?_
    refine x_iast (f := upd (T 8) i (nI 0)) (j := j) (x := (T 7 i) - (T 7 j)) (w' := wX G a S ((tS T 8 (upd (upd (T 8) i (nI 0)) j ((T 7 i) - (T 7 j))))) L F bs) C hH 15 gX_15 (by omega) (by decide) sX_15 dX2_setWires_42 (fun H locs hH => ?_)
    refine lv_goto (tgt := 129) C.1 C.2.1 dX2_setWires_43 (by decide) ?_
    have hH := x_eqw (w' := wX G a S (tS T 8 (upd (upd (T 8) i (wA T i j d)) j (wB T i j d))) L F bs) (by (try simp only [← Int32.not_lt, ← Nat.not_lt, Classical.not_not] at c_1); simp only [wA, wB, ← Int32.not_lt, c_1, and_self, and_true, true_and, and_false, false_and, or_true, true_or, or_false, false_or, not_true_eq_false, not_false_eq_true, Classical.not_not, if_true, if_false, reduceIte]) hH
    exact hE _ _ _ _ hH dX2_setWires_129
set_option maxHeartbeats 400000 in
set_option maxRecDepth 100000 in
theorem c_X2_joinTwo (l : Launch) (G : xG) (a : Nat → Nat) (S T : Nat → Nat → Int32) (L : Nat → Nat → Int64) (F : Nat → Int32) (bs : Int64) (i j n : Nat) (hF6 : F 6 = nI n) (hn : n < 19) (hi : i < 19) (hj : j < 19) (hne : i ≠ j) : xMi l yX2_joinTwo wsX2_joinTwo { frames := 3, cells := 0, slots := 0, locals := 61 } [.ref (a 6), .int (nI i), .int (nI j)] G (wX G a S T L F bs) (nI n) (wX G a S (joinT T n i j) L (tS F 6 (nI (n + 1))) bs) 0 0 := by
  refine x_ofi (cc := cX2_joinTwo) (maxL := 4) (ty := .int) (by decide) rfl (Nat.le_of_ble_eq_true rfl) ?_
  intro p e s m args below meth c ls A Q C hml hA hH hl hE
  have hl : lv_has ls 4 [(0, .ref (a 6)), (1, .int (nI i)), (2, .int (nI j))] := hl
  have inX2 : ∀ w ∈ wsX20, w ∈ wsX2_joinTwo := fun _ h => (List.mem_cons_of_mem _ (List.mem_append_right _ h))
  refine lv_aload_n C.1 C.2.1 dX2_joinTwo_0 rfl (lv_at hl 0 rfl) ?_
  refine x_get (C := RX2) (T := TX2) (N := 14) (v := .int (F 6)) C inX2 hH 6 gX_6 rfl 13 (by decide) rfl rfl 1 rfl dX2_joinTwo_1 ?_
  refine x_toi hF6 ?_
  refine lv_istore_n (lv' := [(3, .int (nI n)), (0, .ref (a 6)), (1, .int (nI i)), (2, .int (nI j))]) C.1 C.2.1 dX2_joinTwo_4 rfl hl (by decide) rfl (fun ls hl => ?_)
  refine lv_aload_n C.1 C.2.1 dX2_joinTwo_5 rfl (lv_at hl 1 rfl) ?_
  refine lv_iload_n C.1 C.2.1 dX2_joinTwo_6 rfl (lv_at hl 2 rfl) ?_
  refine lv_iload_n C.1 C.2.1 dX2_joinTwo_7 rfl (lv_at hl 3 rfl) ?_
  refine lv_aload_n C.1 C.2.1 dX2_joinTwo_8 rfl (lv_at hl 1 rfl) ?_
  refine lv_iload_n C.1 C.2.1 dX2_joinTwo_9 rfl (lv_at hl 2 rfl) ?_
  refine lv_iload_n C.1 C.2.1 dX2_joinTwo_10 rfl (lv_at hl 3 rfl) ?_
  refine x_ci (w' := wX G a S T L F bs) (va_runV (As := [.int (nI i), .int (nI j)]) (rest := [.int (nI j), .int (nI i), .ref (a 6)]) (x_fix C hml) (c_X2_distanceOf l G a S T L F bs (i) (j) (by omega) (by omega) _) (cwV 2 C.2.2.2.1 gX2_joinTwo_X2_distanceOf rfl rfl rfl (by decide +kernel) ⟨Nat.le_of_ble_eq_true rfl, Nat.le_of_ble_eq_true rfl⟩) (x_pv C hH rfl gX_6 rfl rfl) rfl rfl hl.1 rfl (lv_room (Nat.le_of_ble_eq_true rfl)) dX2_joinTwo_11 ⟨Nat.le_of_ble_eq_true rfl, Nat.le_of_ble_eq_true rfl⟩) hH hA (fun H locs hH => ?_)
  refine x_cv (w' := wX G a S ((tS T 8 (upd (upd (T 8) i (wA T i j (dist T i j))) j (wB T i j (dist T i j))))) L F bs) (va_runV (As := [.int (nI i), .int (nI j), .int (dist T i j)]) (rest := []) (x_fix C hml) (c_X2_setWires l G a S T L F bs i j (dist T i j) (by omega) (by omega) _) (cwV 3 C.2.2.2.1 gX2_joinTwo_X2_setWires rfl rfl rfl (by decide +kernel) ⟨Nat.le_of_ble_eq_true rfl, Nat.le_of_ble_eq_true rfl⟩) (x_pv C hH rfl gX_6 rfl rfl) rfl rfl hl.1 rfl (lv_room (Nat.le_of_ble_eq_true rfl)) dX2_joinTwo_14 ⟨Nat.le_of_ble_eq_true rfl, Nat.le_of_ble_eq_true rfl⟩) hH hA (fun H locs hH => ?_)
  refine lv_aload_n C.1 C.2.1 dX2_joinTwo_17 rfl (lv_at hl 1 rfl) ?_
  refine x_get (C := RX2) (T := TX2) (N := 14) (v := .ref (a 7)) C inX2 hH 6 gX_6 rfl 0 (by decide) rfl rfl 2 rfl dX2_joinTwo_18 ?_
  refine lv_iload_n C.1 C.2.1 dX2_joinTwo_21 rfl (lv_at hl 0 rfl) ?_
  refine lv_iload_n C.1 C.2.1 dX2_joinTwo_22 rfl (lv_at hl 2 rfl) ?_
  refine x_iast (f := T 0) (j := n) (x := nI i) (w' := wX G a S ((tS ((tS T 8 (upd (upd (T 8) i (wA T i j (dist T i j))) j (wB T i j (dist T i j))))) 0 (upd (T 0) n (nI i)))) L F bs) C hH 7 gX_7 (by omega) (by decide) sX_7 dX2_joinTwo_23 (fun H locs hH => ?_)
  refine lv_aload_n C.1 C.2.1 dX2_joinTwo_24 rfl (lv_at hl 1 rfl) ?_
  refine x_get (C := RX2) (T := TX2) (N := 14) (v := .ref (a 8)) C inX2 hH 6 gX_6 rfl 1 (by decide) rfl rfl 3 rfl dX2_joinTwo_25 ?_
  refine lv_iload_n C.1 C.2.1 dX2_joinTwo_28 rfl (lv_at hl 0 rfl) ?_
  refine lv_iload_n C.1 C.2.1 dX2_joinTwo_29 rfl (lv_at hl 3 rfl) ?_
  refine x_iast (f := T 1) (j := n) (x := nI j) (w' := wX G a S ((tS ((tS ((tS T 8 (upd (upd (T 8) i (wA T i j (dist T i j))) j (wB T i j (dist T i j))))) 0 (upd (T 0) n (nI i)))) 1 (upd (T 1) n (nI j)))) L F bs) C hH 8 gX_8 (by omega) (by decide) sX_8 dX2_joinTwo_30 (fun H locs hH => ?_)
  refine lv_aload_n C.1 C.2.1 dX2_joinTwo_31 rfl (lv_at hl 1 rfl) ?_
  refine x_get (C := RX2) (T := TX2) (N := 14) (v := .ref (a 9)) C inX2 hH 6 gX_6 rfl 2 (by decide) rfl rfl 4 rfl dX2_joinTwo_32 ?_
  refine lv_iload_n C.1 C.2.1 dX2_joinTwo_35 rfl (lv_at hl 0 rfl) ?_
  refine lv_iconst (v := (-1)) C.1 C.2.1 dX2_joinTwo_36 (by decide) ?_
  refine x_iast (f := T 2) (j := n) (x := (-1)) (w' := wX G a S ((tS ((tS ((tS ((tS T 8 (upd (upd (T 8) i (wA T i j (dist T i j))) j (wB T i j (dist T i j))))) 0 (upd (T 0) n (nI i)))) 1 (upd (T 1) n (nI j)))) 2 (upd (T 2) n ((-1))))) L F bs) C hH 9 gX_9 (by omega) (by decide) sX_9 dX2_joinTwo_37 (fun H locs hH => ?_)
  refine lv_aload_n C.1 C.2.1 dX2_joinTwo_38 rfl (lv_at hl 1 rfl) ?_
  refine x_get (C := RX2) (T := TX2) (N := 14) (v := .ref (a 9)) C inX2 hH 6 gX_6 rfl 2 (by decide) rfl rfl 4 rfl dX2_joinTwo_39 ?_
  refine lv_iload_n C.1 C.2.1 dX2_joinTwo_42 rfl (lv_at hl 2 rfl) ?_
  refine lv_iload_n C.1 C.2.1 dX2_joinTwo_43 rfl (lv_at hl 0 rfl) ?_
  refine x_iast (f := upd (T 2) n ((-1))) (j := i) (x := nI n) (w' := wX G a S ((tS ((tS ((tS ((tS T 8 (upd (upd (T 8) i (wA T i j (dist T i j))) j (wB T i j (dist T i j))))) 0 (upd (T 0) n (nI i)))) 1 (upd (T 1) n (nI j)))) 2 (upd (upd (T 2) n ((-1))) i (nI n)))) L F bs) C hH 9 gX_9 (by omega) (by decide) sX_9 dX2_joinTwo_44 (fun H locs hH => ?_)
  refine lv_aload_n C.1 C.2.1 dX2_joinTwo_45 rfl (lv_at hl 1 rfl) ?_
  refine x_get (C := RX2) (T := TX2) (N := 14) (v := .ref (a 9)) C inX2 hH 6 gX_6 rfl 2 (by decide) rfl rfl 4 rfl dX2_joinTwo_46 ?_
  refine lv_iload_n C.1 C.2.1 dX2_joinTwo_49 rfl (lv_at hl 3 rfl) ?_
  refine lv_iload_n C.1 C.2.1 dX2_joinTwo_50 rfl (lv_at hl 0 rfl) ?_
  refine x_iast (f := upd (upd (T 2) n ((-1))) i (nI n)) (j := j) (x := nI n) (w' := wX G a S ((tS ((tS ((tS ((tS T 8 (upd (upd (T 8) i (wA T i j (dist T i j))) j (wB T i j (dist T i j))))) 0 (upd (T 0) n (nI i)))) 1 (upd (T 1) n (nI j)))) 2 (upd (upd (upd (T 2) n ((-1))) i (nI n)) j (nI n)))) L F bs) C hH 9 gX_9 (by omega) (by decide) sX_9 dX2_joinTwo_51 (fun H locs hH => ?_)
  refine lv_aload_n C.1 C.2.1 dX2_joinTwo_52 rfl (lv_at hl 1 rfl) ?_
  refine x_get (C := RX2) (T := TX2) (N := 14) (v := .ref (a 10)) C inX2 hH 6 gX_6 rfl 3 (by decide) rfl rfl 5 rfl dX2_joinTwo_53 ?_
  refine lv_iload_n C.1 C.2.1 dX2_joinTwo_56 rfl (lv_at hl 0 rfl) ?_
  refine lv_aload_n C.1 C.2.1 dX2_joinTwo_57 rfl (lv_at hl 1 rfl) ?_
  refine x_get (C := RX2) (T := TX2) (N := 14) (v := .ref (a 10)) C inX2 hH 6 gX_6 rfl 3 (by decide) rfl rfl 5 rfl dX2_joinTwo_58 ?_
  refine lv_iload_n C.1 C.2.1 dX2_joinTwo_61 rfl (lv_at hl 2 rfl) ?_
  refine x_iald (f := T 3) (j := i) (v := T 3 i) C hH 10 gX_10 (by omega) (by decide) (rfl) dX2_joinTwo_62 ?_
  refine lv_aload_n C.1 C.2.1 dX2_joinTwo_63 rfl (lv_at hl 1 rfl) ?_
  refine x_get (C := RX2) (T := TX2) (N := 14) (v := .ref (a 15)) C inX2 hH 6 gX_6 rfl 8 (by decide) rfl rfl 6 rfl dX2_joinTwo_64 ?_
  refine lv_iload_n C.1 C.2.1 dX2_joinTwo_67 rfl (lv_at hl 2 rfl) ?_
  refine x_iald (f := upd (upd (T 8) i (wA T i j (dist T i j))) j (wB T i j (dist T i j))) (j := i) (v := wA T i j (dist T i j)) C hH 15 gX_15 (by omega) (by decide) (by rw [pk_un hne, pk_us]) dX2_joinTwo_68 ?_
  refine lv_isub C.1 C.2.1 dX2_joinTwo_69 ?_
  refine lv_aload_n C.1 C.2.1 dX2_joinTwo_70 rfl (lv_at hl 1 rfl) ?_
  refine x_get (C := RX2) (T := TX2) (N := 14) (v := .ref (a 10)) C inX2 hH 6 gX_6 rfl 3 (by decide) rfl rfl 5 rfl dX2_joinTwo_71 ?_
  refine lv_iload_n C.1 C.2.1 dX2_joinTwo_74 rfl (lv_at hl 3 rfl) ?_
  refine x_iald (f := T 3) (j := j) (v := T 3 j) C hH 10 gX_10 (by omega) (by decide) (rfl) dX2_joinTwo_75 ?_
  refine lv_aload_n C.1 C.2.1 dX2_joinTwo_76 rfl (lv_at hl 1 rfl) ?_
  refine x_get (C := RX2) (T := TX2) (N := 14) (v := .ref (a 15)) C inX2 hH 6 gX_6 rfl 8 (by decide) rfl rfl 6 rfl dX2_joinTwo_77 ?_
  refine lv_iload_n C.1 C.2.1 dX2_joinTwo_80 rfl (lv_at hl 3 rfl) ?_
  refine x_iald (f := upd (upd (T 8) i (wA T i j (dist T i j))) j (wB T i j (dist T i j))) (j := j) (v := wB T i j (dist T i j)) C hH 15 gX_15 (by omega) (by decide) (pk_us) dX2_joinTwo_81 ?_
  refine lv_isub C.1 C.2.1 dX2_joinTwo_82 ?_
  refine va_mmax C.1 C.2.1 (hml.trans hl.1.symm) C.2.2.1 (C.2.2.2.1 _ (List.mem_of_getElem? (i := 7) rfl)) (C.2.2.2.1 _ (List.mem_of_getElem? (i := 8) rfl)) (C.2.2.2.1 _ (List.mem_of_getElem? (i := 9) rfl)) (C.2.2.2.1 _ (List.mem_of_getElem? (i := 10) rfl)) (Nat.le_of_ble_eq_true rfl) (Nat.le_of_ble_eq_true rfl) (Nat.le_of_ble_eq_true rfl) (Nat.le_of_ble_eq_true rfl) dX2_joinTwo_83 ?_
  refine x_toi (show _ = imax ((T 3 i) - (wA T i j (dist T i j))) ((T 3 j) - (wB T i j (dist T i j))) from rfl) ?_
  refine x_iast (f := T 3) (j := n) (x := imax ((T 3 i) - (wA T i j (dist T i j))) ((T 3 j) - (wB T i j (dist T i j)))) (w' := wX G a S ((tS ((tS ((tS ((tS ((tS T 8 (upd (upd (T 8) i (wA T i j (dist T i j))) j (wB T i j (dist T i j))))) 0 (upd (T 0) n (nI i)))) 1 (upd (T 1) n (nI j)))) 2 (upd (upd (upd (T 2) n ((-1))) i (nI n)) j (nI n)))) 3 (upd (T 3) n (imax ((T 3 i) - (wA T i j (dist T i j))) ((T 3 j) - (wB T i j (dist T i j))))))) L F bs) C hH 10 gX_10 (by omega) (by decide) sX_10 dX2_joinTwo_86 (fun H locs hH => ?_)
  refine lv_aload_n C.1 C.2.1 dX2_joinTwo_87 rfl (lv_at hl 1 rfl) ?_
  refine x_get (C := RX2) (T := TX2) (N := 14) (v := .ref (a 11)) C inX2 hH 6 gX_6 rfl 4 (by decide) rfl rfl 11 rfl dX2_joinTwo_88 ?_
  refine lv_iload_n C.1 C.2.1 dX2_joinTwo_91 rfl (lv_at hl 0 rfl) ?_
  refine lv_aload_n C.1 C.2.1 dX2_joinTwo_92 rfl (lv_at hl 1 rfl) ?_
  refine x_get (C := RX2) (T := TX2) (N := 14) (v := .ref (a 11)) C inX2 hH 6 gX_6 rfl 4 (by decide) rfl rfl 11 rfl dX2_joinTwo_93 ?_
  refine lv_iload_n C.1 C.2.1 dX2_joinTwo_96 rfl (lv_at hl 2 rfl) ?_
  refine x_iald (f := T 4) (j := i) (v := T 4 i) C hH 11 gX_11 (by omega) (by decide) (rfl) dX2_joinTwo_97 ?_
  refine lv_aload_n C.1 C.2.1 dX2_joinTwo_98 rfl (lv_at hl 1 rfl) ?_
  refine x_get (C := RX2) (T := TX2) (N := 14) (v := .ref (a 15)) C inX2 hH 6 gX_6 rfl 8 (by decide) rfl rfl 6 rfl dX2_joinTwo_99 ?_
  refine lv_iload_n C.1 C.2.1 dX2_joinTwo_102 rfl (lv_at hl 2 rfl) ?_
  refine x_iald (f := upd (upd (T 8) i (wA T i j (dist T i j))) j (wB T i j (dist T i j))) (j := i) (v := wA T i j (dist T i j)) C hH 15 gX_15 (by omega) (by decide) (by rw [pk_un hne, pk_us]) dX2_joinTwo_103 ?_
  refine lv_iadd C.1 C.2.1 dX2_joinTwo_104 ?_
  refine lv_aload_n C.1 C.2.1 dX2_joinTwo_105 rfl (lv_at hl 1 rfl) ?_
  refine x_get (C := RX2) (T := TX2) (N := 14) (v := .ref (a 11)) C inX2 hH 6 gX_6 rfl 4 (by decide) rfl rfl 11 rfl dX2_joinTwo_106 ?_
  refine lv_iload_n C.1 C.2.1 dX2_joinTwo_109 rfl (lv_at hl 3 rfl) ?_
  refine x_iald (f := T 4) (j := j) (v := T 4 j) C hH 11 gX_11 (by omega) (by decide) (rfl) dX2_joinTwo_110 ?_
  refine lv_aload_n C.1 C.2.1 dX2_joinTwo_111 rfl (lv_at hl 1 rfl) ?_
  refine x_get (C := RX2) (T := TX2) (N := 14) (v := .ref (a 15)) C inX2 hH 6 gX_6 rfl 8 (by decide) rfl rfl 6 rfl dX2_joinTwo_112 ?_
  refine lv_iload_n C.1 C.2.1 dX2_joinTwo_115 rfl (lv_at hl 3 rfl) ?_
  refine x_iald (f := upd (upd (T 8) i (wA T i j (dist T i j))) j (wB T i j (dist T i j))) (j := j) (v := wB T i j (dist T i j)) C hH 15 gX_15 (by omega) (by decide) (pk_us) dX2_joinTwo_116 ?_
  refine lv_iadd C.1 C.2.1 dX2_joinTwo_117 ?_
  refine va_mmin C.1 C.2.1 (hml.trans hl.1.symm) C.2.2.1 (C.2.2.2.1 _ (List.mem_of_getElem? (i := 12) rfl)) (C.2.2.2.1 _ (List.mem_of_getElem? (i := 13) rfl)) (C.2.2.2.1 _ (List.mem_of_getElem? (i := 9) rfl)) (C.2.2.2.1 _ (List.mem_of_getElem? (i := 14) rfl)) (Nat.le_of_ble_eq_true rfl) (Nat.le_of_ble_eq_true rfl) (Nat.le_of_ble_eq_true rfl) (Nat.le_of_ble_eq_true rfl) dX2_joinTwo_118 ?_
  refine x_toi (show _ = imin ((T 4 i) + (wA T i j (dist T i j))) ((T 4 j) + (wB T i j (dist T i j))) from rfl) ?_
  refine x_iast (f := T 4) (j := n) (x := imin ((T 4 i) + (wA T i j (dist T i j))) ((T 4 j) + (wB T i j (dist T i j)))) (w' := wX G a S ((tS ((tS ((tS ((tS ((tS ((tS T 8 (upd (upd (T 8) i (wA T i j (dist T i j))) j (wB T i j (dist T i j))))) 0 (upd (T 0) n (nI i)))) 1 (upd (T 1) n (nI j)))) 2 (upd (upd (upd (T 2) n ((-1))) i (nI n)) j (nI n)))) 3 (upd (T 3) n (imax ((T 3 i) - (wA T i j (dist T i j))) ((T 3 j) - (wB T i j (dist T i j))))))) 4 (upd (T 4) n (imin ((T 4 i) + (wA T i j (dist T i j))) ((T 4 j) + (wB T i j (dist T i j))))))) L F bs) C hH 11 gX_11 (by omega) (by decide) sX_11 dX2_joinTwo_121 (fun H locs hH => ?_)
  refine lv_aload_n C.1 C.2.1 dX2_joinTwo_122 rfl (lv_at hl 1 rfl) ?_
  refine x_get (C := RX2) (T := TX2) (N := 14) (v := .ref (a 12)) C inX2 hH 6 gX_6 rfl 5 (by decide) rfl rfl 15 rfl dX2_joinTwo_123 ?_
  refine lv_iload_n C.1 C.2.1 dX2_joinTwo_126 rfl (lv_at hl 0 rfl) ?_
  refine lv_aload_n C.1 C.2.1 dX2_joinTwo_127 rfl (lv_at hl 1 rfl) ?_
  refine x_get (C := RX2) (T := TX2) (N := 14) (v := .ref (a 12)) C inX2 hH 6 gX_6 rfl 5 (by decide) rfl rfl 15 rfl dX2_joinTwo_128 ?_
  refine lv_iload_n C.1 C.2.1 dX2_joinTwo_131 rfl (lv_at hl 2 rfl) ?_
  refine x_iald (f := T 5) (j := i) (v := T 5 i) C hH 12 gX_12 (by omega) (by decide) (rfl) dX2_joinTwo_132 ?_
  refine lv_aload_n C.1 C.2.1 dX2_joinTwo_133 rfl (lv_at hl 1 rfl) ?_
  refine x_get (C := RX2) (T := TX2) (N := 14) (v := .ref (a 15)) C inX2 hH 6 gX_6 rfl 8 (by decide) rfl rfl 6 rfl dX2_joinTwo_134 ?_
  refine lv_iload_n C.1 C.2.1 dX2_joinTwo_137 rfl (lv_at hl 2 rfl) ?_
  refine x_iald (f := upd (upd (T 8) i (wA T i j (dist T i j))) j (wB T i j (dist T i j))) (j := i) (v := wA T i j (dist T i j)) C hH 15 gX_15 (by omega) (by decide) (by rw [pk_un hne, pk_us]) dX2_joinTwo_138 ?_
  refine lv_isub C.1 C.2.1 dX2_joinTwo_139 ?_
  refine lv_aload_n C.1 C.2.1 dX2_joinTwo_140 rfl (lv_at hl 1 rfl) ?_
  refine x_get (C := RX2) (T := TX2) (N := 14) (v := .ref (a 12)) C inX2 hH 6 gX_6 rfl 5 (by decide) rfl rfl 15 rfl dX2_joinTwo_141 ?_
  refine lv_iload_n C.1 C.2.1 dX2_joinTwo_144 rfl (lv_at hl 3 rfl) ?_
  refine x_iald (f := T 5) (j := j) (v := T 5 j) C hH 12 gX_12 (by omega) (by decide) (rfl) dX2_joinTwo_145 ?_
  refine lv_aload_n C.1 C.2.1 dX2_joinTwo_146 rfl (lv_at hl 1 rfl) ?_
  refine x_get (C := RX2) (T := TX2) (N := 14) (v := .ref (a 15)) C inX2 hH 6 gX_6 rfl 8 (by decide) rfl rfl 6 rfl dX2_joinTwo_147 ?_
  refine lv_iload_n C.1 C.2.1 dX2_joinTwo_150 rfl (lv_at hl 3 rfl) ?_
  refine x_iald (f := upd (upd (T 8) i (wA T i j (dist T i j))) j (wB T i j (dist T i j))) (j := j) (v := wB T i j (dist T i j)) C hH 15 gX_15 (by omega) (by decide) (pk_us) dX2_joinTwo_151 ?_
  refine lv_isub C.1 C.2.1 dX2_joinTwo_152 ?_
  refine va_mmax C.1 C.2.1 (hml.trans hl.1.symm) C.2.2.1 (C.2.2.2.1 _ (List.mem_of_getElem? (i := 7) rfl)) (C.2.2.2.1 _ (List.mem_of_getElem? (i := 8) rfl)) (C.2.2.2.1 _ (List.mem_of_getElem? (i := 9) rfl)) (C.2.2.2.1 _ (List.mem_of_getElem? (i := 10) rfl)) (Nat.le_of_ble_eq_true rfl) (Nat.le_of_ble_eq_true rfl) (Nat.le_of_ble_eq_true rfl) (Nat.le_of_ble_eq_true rfl) dX2_joinTwo_153 ?_
  refine x_toi (show _ = imax ((T 5 i) - (wA T i j (dist T i j))) ((T 5 j) - (wB T i j (dist T i j))) from rfl) ?_
  refine x_iast (f := T 5) (j := n) (x := imax ((T 5 i) - (wA T i j (dist T i j))) ((T 5 j) - (wB T i j (dist T i j)))) (w' := wX G a S ((tS ((tS ((tS ((tS ((tS ((tS ((tS T 8 (upd (upd (T 8) i (wA T i j (dist T i j))) j (wB T i j (dist T i j))))) 0 (upd (T 0) n (nI i)))) 1 (upd (T 1) n (nI j)))) 2 (upd (upd (upd (T 2) n ((-1))) i (nI n)) j (nI n)))) 3 (upd (T 3) n (imax ((T 3 i) - (wA T i j (dist T i j))) ((T 3 j) - (wB T i j (dist T i j))))))) 4 (upd (T 4) n (imin ((T 4 i) + (wA T i j (dist T i j))) ((T 4 j) + (wB T i j (dist T i j))))))) 5 (upd (T 5) n (imax ((T 5 i) - (wA T i j (dist T i j))) ((T 5 j) - (wB T i j (dist T i j))))))) L F bs) C hH 12 gX_12 (by omega) (by decide) sX_12 dX2_joinTwo_156 (fun H locs hH => ?_)
  refine lv_aload_n C.1 C.2.1 dX2_joinTwo_157 rfl (lv_at hl 1 rfl) ?_
  refine x_get (C := RX2) (T := TX2) (N := 14) (v := .ref (a 13)) C inX2 hH 6 gX_6 rfl 6 (by decide) rfl rfl 16 rfl dX2_joinTwo_158 ?_
  refine lv_iload_n C.1 C.2.1 dX2_joinTwo_161 rfl (lv_at hl 0 rfl) ?_
  refine lv_aload_n C.1 C.2.1 dX2_joinTwo_162 rfl (lv_at hl 1 rfl) ?_
  refine x_get (C := RX2) (T := TX2) (N := 14) (v := .ref (a 13)) C inX2 hH 6 gX_6 rfl 6 (by decide) rfl rfl 16 rfl dX2_joinTwo_163 ?_
  refine lv_iload_n C.1 C.2.1 dX2_joinTwo_166 rfl (lv_at hl 2 rfl) ?_
  refine x_iald (f := T 6) (j := i) (v := T 6 i) C hH 13 gX_13 (by omega) (by decide) (rfl) dX2_joinTwo_167 ?_
  refine lv_aload_n C.1 C.2.1 dX2_joinTwo_168 rfl (lv_at hl 1 rfl) ?_
  refine x_get (C := RX2) (T := TX2) (N := 14) (v := .ref (a 15)) C inX2 hH 6 gX_6 rfl 8 (by decide) rfl rfl 6 rfl dX2_joinTwo_169 ?_
  refine lv_iload_n C.1 C.2.1 dX2_joinTwo_172 rfl (lv_at hl 2 rfl) ?_
  refine x_iald (f := upd (upd (T 8) i (wA T i j (dist T i j))) j (wB T i j (dist T i j))) (j := i) (v := wA T i j (dist T i j)) C hH 15 gX_15 (by omega) (by decide) (by rw [pk_un hne, pk_us]) dX2_joinTwo_173 ?_
  refine lv_iadd C.1 C.2.1 dX2_joinTwo_174 ?_
  refine lv_aload_n C.1 C.2.1 dX2_joinTwo_175 rfl (lv_at hl 1 rfl) ?_
  refine x_get (C := RX2) (T := TX2) (N := 14) (v := .ref (a 13)) C inX2 hH 6 gX_6 rfl 6 (by decide) rfl rfl 16 rfl dX2_joinTwo_176 ?_
  refine lv_iload_n C.1 C.2.1 dX2_joinTwo_179 rfl (lv_at hl 3 rfl) ?_
  refine x_iald (f := T 6) (j := j) (v := T 6 j) C hH 13 gX_13 (by omega) (by decide) (rfl) dX2_joinTwo_180 ?_
  refine lv_aload_n C.1 C.2.1 dX2_joinTwo_181 rfl (lv_at hl 1 rfl) ?_
  refine x_get (C := RX2) (T := TX2) (N := 14) (v := .ref (a 15)) C inX2 hH 6 gX_6 rfl 8 (by decide) rfl rfl 6 rfl dX2_joinTwo_182 ?_
  refine lv_iload_n C.1 C.2.1 dX2_joinTwo_185 rfl (lv_at hl 3 rfl) ?_
  refine x_iald (f := upd (upd (T 8) i (wA T i j (dist T i j))) j (wB T i j (dist T i j))) (j := j) (v := wB T i j (dist T i j)) C hH 15 gX_15 (by omega) (by decide) (pk_us) dX2_joinTwo_186 ?_
  refine lv_iadd C.1 C.2.1 dX2_joinTwo_187 ?_
  refine va_mmin C.1 C.2.1 (hml.trans hl.1.symm) C.2.2.1 (C.2.2.2.1 _ (List.mem_of_getElem? (i := 12) rfl)) (C.2.2.2.1 _ (List.mem_of_getElem? (i := 13) rfl)) (C.2.2.2.1 _ (List.mem_of_getElem? (i := 9) rfl)) (C.2.2.2.1 _ (List.mem_of_getElem? (i := 14) rfl)) (Nat.le_of_ble_eq_true rfl) (Nat.le_of_ble_eq_true rfl) (Nat.le_of_ble_eq_true rfl) (Nat.le_of_ble_eq_true rfl) dX2_joinTwo_188 ?_
  refine x_toi (show _ = imin ((T 6 i) + (wA T i j (dist T i j))) ((T 6 j) + (wB T i j (dist T i j))) from rfl) ?_
  refine x_iast (f := T 6) (j := n) (x := imin ((T 6 i) + (wA T i j (dist T i j))) ((T 6 j) + (wB T i j (dist T i j)))) (w' := wX G a S ((tS ((tS ((tS ((tS ((tS ((tS ((tS ((tS T 8 (upd (upd (T 8) i (wA T i j (dist T i j))) j (wB T i j (dist T i j))))) 0 (upd (T 0) n (nI i)))) 1 (upd (T 1) n (nI j)))) 2 (upd (upd (upd (T 2) n ((-1))) i (nI n)) j (nI n)))) 3 (upd (T 3) n (imax ((T 3 i) - (wA T i j (dist T i j))) ((T 3 j) - (wB T i j (dist T i j))))))) 4 (upd (T 4) n (imin ((T 4 i) + (wA T i j (dist T i j))) ((T 4 j) + (wB T i j (dist T i j))))))) 5 (upd (T 5) n (imax ((T 5 i) - (wA T i j (dist T i j))) ((T 5 j) - (wB T i j (dist T i j))))))) 6 (upd (T 6) n (imin ((T 6 i) + (wA T i j (dist T i j))) ((T 6 j) + (wB T i j (dist T i j))))))) L F bs) C hH 13 gX_13 (by omega) (by decide) sX_13 dX2_joinTwo_191 (fun H locs hH => ?_)
  refine lv_aload_n C.1 C.2.1 dX2_joinTwo_192 rfl (lv_at hl 1 rfl) ?_
  refine x_get (C := RX2) (T := TX2) (N := 14) (v := .ref (a 14)) C inX2 hH 6 gX_6 rfl 7 (by decide) rfl rfl 17 rfl dX2_joinTwo_193 ?_
  refine lv_iload_n C.1 C.2.1 dX2_joinTwo_196 rfl (lv_at hl 0 rfl) ?_
  refine lv_aload_n C.1 C.2.1 dX2_joinTwo_197 rfl (lv_at hl 1 rfl) ?_
  refine x_get (C := RX2) (T := TX2) (N := 14) (v := .ref (a 14)) C inX2 hH 6 gX_6 rfl 7 (by decide) rfl rfl 17 rfl dX2_joinTwo_198 ?_
  refine lv_iload_n C.1 C.2.1 dX2_joinTwo_201 rfl (lv_at hl 2 rfl) ?_
  refine x_iald (f := T 7) (j := i) (v := T 7 i) C hH 14 gX_14 (by omega) (by decide) (rfl) dX2_joinTwo_202 ?_
  refine lv_aload_n C.1 C.2.1 dX2_joinTwo_203 rfl (lv_at hl 1 rfl) ?_
  refine x_get (C := RX2) (T := TX2) (N := 14) (v := .ref (a 15)) C inX2 hH 6 gX_6 rfl 8 (by decide) rfl rfl 6 rfl dX2_joinTwo_204 ?_
  refine lv_iload_n C.1 C.2.1 dX2_joinTwo_207 rfl (lv_at hl 2 rfl) ?_
  refine x_iald (f := upd (upd (T 8) i (wA T i j (dist T i j))) j (wB T i j (dist T i j))) (j := i) (v := wA T i j (dist T i j)) C hH 15 gX_15 (by omega) (by decide) (by rw [pk_un hne, pk_us]) dX2_joinTwo_208 ?_
  refine lv_iadd C.1 C.2.1 dX2_joinTwo_209 ?_
  refine x_iast (f := T 7) (j := n) (x := (T 7 i) + (wA T i j (dist T i j))) (w' := wX G a S ((tS ((tS ((tS ((tS ((tS ((tS ((tS ((tS ((tS T 8 (upd (upd (T 8) i (wA T i j (dist T i j))) j (wB T i j (dist T i j))))) 0 (upd (T 0) n (nI i)))) 1 (upd (T 1) n (nI j)))) 2 (upd (upd (upd (T 2) n ((-1))) i (nI n)) j (nI n)))) 3 (upd (T 3) n (imax ((T 3 i) - (wA T i j (dist T i j))) ((T 3 j) - (wB T i j (dist T i j))))))) 4 (upd (T 4) n (imin ((T 4 i) + (wA T i j (dist T i j))) ((T 4 j) + (wB T i j (dist T i j))))))) 5 (upd (T 5) n (imax ((T 5 i) - (wA T i j (dist T i j))) ((T 5 j) - (wB T i j (dist T i j))))))) 6 (upd (T 6) n (imin ((T 6 i) + (wA T i j (dist T i j))) ((T 6 j) + (wB T i j (dist T i j))))))) 7 (upd (T 7) n ((T 7 i) + (wA T i j (dist T i j)))))) L F bs) C hH 14 gX_14 (by omega) (by decide) sX_14 dX2_joinTwo_210 (fun H locs hH => ?_)
  refine lv_aload_n C.1 C.2.1 dX2_joinTwo_211 rfl (lv_at hl 1 rfl) ?_
  refine lv_iload_n C.1 C.2.1 dX2_joinTwo_212 rfl (lv_at hl 0 rfl) ?_
  refine lv_iconst (v := nI 1) C.1 C.2.1 dX2_joinTwo_213 (by decide) ?_
  refine lv_iadd C.1 C.2.1 dX2_joinTwo_214 ?_
  refine x_toi (nI_add n 1) ?_
  refine x_put (C := RX2) (T := TX2) (N := 14) (v := .int (nI (n + 1))) (w' := wX G a S ((tS ((tS ((tS ((tS ((tS ((tS ((tS ((tS ((tS T 8 (upd (upd (T 8) i (wA T i j (dist T i j))) j (wB T i j (dist T i j))))) 0 (upd (T 0) n (nI i)))) 1 (upd (T 1) n (nI j)))) 2 (upd (upd (upd (T 2) n ((-1))) i (nI n)) j (nI n)))) 3 (upd (T 3) n (imax ((T 3 i) - (wA T i j (dist T i j))) ((T 3 j) - (wB T i j (dist T i j))))))) 4 (upd (T 4) n (imin ((T 4 i) + (wA T i j (dist T i j))) ((T 4 j) + (wB T i j (dist T i j))))))) 5 (upd (T 5) n (imax ((T 5 i) - (wA T i j (dist T i j))) ((T 5 j) - (wB T i j (dist T i j))))))) 6 (upd (T 6) n (imin ((T 6 i) + (wA T i j (dist T i j))) ((T 6 j) + (wB T i j (dist T i j))))))) 7 (upd (T 7) n ((T 7 i) + (wA T i j (dist T i j)))))) L ((tS F 6 (nI (n + 1)))) bs) C inX2 tyX2 tyX2_ok nmX2 hH 6 gX_6 rfl 13 (by decide) rfl rfl rfl rfl (Nat.le_of_ble_eq_true rfl) fX_6_13 1 rfl dX2_joinTwo_215 (fun H locs hH => ?_)
  refine lv_iload_n C.1 C.2.1 dX2_joinTwo_218 rfl (lv_at hl 0 rfl) ?_
  have hH := x_eqw (w' := wX G a S (joinT T n i j) L (tS F 6 (nI (n + 1))) bs) (rfl) hH
  exact hE _ _ _ _ _ hH (rfl) (rfl) dX2_joinTwo_219
