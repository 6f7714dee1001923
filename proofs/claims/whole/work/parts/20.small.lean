set_option maxHeartbeats 400000 in
set_option maxRecDepth 100000 in
theorem c_X3_isWithin (l : Launch) (G : xG) (a : Nat → Nat) (S T : Nat → Nat → Int32) (L : Nat → Nat → Int64) (F : Nat → Int32) (bs : Int64) (v lo hi : Int32) : xMi l yX3_isWithin wsX3_isWithin { frames := 0, cells := 0, slots := 0, locals := 0 } [.int v, .int lo, .int hi] G (wX G a S T L F bs) (xb (inW v lo hi)) (wX G a S T L F bs) 0 0 := by
  refine x_ofi (cc := cX3_isWithin) (maxL := 3) (ty := .boolean) (by decide) rfl (Nat.le_of_ble_eq_true rfl) ?_
  intro p e s m args below meth c ls A Q C hml hA hH hl hE
  have hl : lv_has ls 3 [(0, .int v), (1, .int lo), (2, .int hi)] := hl
  refine lv_iload_n C.1 C.2.1 dX3_isWithin_0 rfl (lv_at hl 0 rfl) ?_
  refine lv_iload_n C.1 C.2.1 dX3_isWithin_1 rfl (lv_at hl 1 rfl) ?_
  refine lv_icmp_lt (tgt := 14) C.1 C.2.1 dX3_isWithin_2 (by decide) (fun c_1 => ?_) (fun c_1 => ?_)
  · refine lv_iconst (v := nI 0) C.1 C.2.1 dX3_isWithin_14 (by decide) ?_
    exact hE _ _ _ _ _ hH (by (try simp only [← Int32.not_lt, ← Nat.not_lt, Classical.not_not] at c_1); simp only [xb, inW, ← Int32.not_lt, c_1, and_self, and_true, true_and, and_false, false_and, or_true, true_or, or_false, false_or, not_true_eq_false, not_false_eq_true, Classical.not_not, if_true, if_false, reduceIte]) (by decide) dX3_isWithin_15
  · refine lv_iload_n C.1 C.2.1 dX3_isWithin_5 rfl (lv_at hl 0 rfl) ?_
    refine lv_iload_n C.1 C.2.1 dX3_isWithin_6 rfl (lv_at hl 2 rfl) ?_
    refine lv_icmp_gt (tgt := 14) C.1 C.2.1 dX3_isWithin_7 (by decide) (fun c_2 => ?_) (fun c_2 => ?_)
    · refine lv_iconst (v := nI 0) C.1 C.2.1 dX3_isWithin_14 (by decide) ?_
      exact hE _ _ _ _ _ hH (by (try simp only [← Int32.not_lt, ← Nat.not_lt, Classical.not_not] at c_1); (try simp only [← Int32.not_lt, ← Nat.not_lt, Classical.not_not] at c_2); simp only [xb, inW, ← Int32.not_lt, c_1, c_2, and_self, and_true, true_and, and_false, false_and, or_true, true_or, or_false, false_or, not_true_eq_false, not_false_eq_true, Classical.not_not, if_true, if_false, reduceIte]) (by decide) dX3_isWithin_15
    · refine lv_iconst (v := nI 1) C.1 C.2.1 dX3_isWithin_10 (by decide) ?_
      refine lv_goto (tgt := 15) C.1 C.2.1 dX3_isWithin_11 (by decide) ?_
      exact hE _ _ _ _ _ hH (by (try simp only [← Int32.not_lt, ← Nat.not_lt, Classical.not_not] at c_1); (try simp only [← Int32.not_lt, ← Nat.not_lt, Classical.not_not] at c_2); simp only [xb, inW, ← Int32.not_lt, c_1, c_2, and_self, and_true, true_and, and_false, false_and, or_true, true_or, or_false, false_or, not_true_eq_false, not_false_eq_true, Classical.not_not, if_true, if_false, reduceIte]) (by decide) dX3_isWithin_15
set_option maxHeartbeats 400000 in
set_option maxRecDepth 100000 in
theorem c_X3_placeU (l : Launch) (G : xG) (a : Nat → Nat) (S T : Nat → Nat → Int32) (L : Nat → Nat → Int64) (F : Nat → Int32) (bs : Int64) (x y : Int32) : xMi l yX3_placeU wsX3_placeU { frames := 0, cells := 0, slots := 0, locals := 0 } [.int x, .int y] G (wX G a S T L F bs) (nI 1024 * (x + y)) (wX G a S T L F bs) 0 0 := by
  refine x_ofi (cc := cX3_placeU) (maxL := 2) (ty := .int) (by decide) rfl (Nat.le_of_ble_eq_true rfl) ?_
  intro p e s m args below meth c ls A Q C hml hA hH hl hE
  have hl : lv_has ls 2 [(0, .int x), (1, .int y)] := hl
  refine lv_sipush (v := nI 1024) C.1 C.2.1 dX3_placeU_0 (by decide) ?_
  refine lv_iload_n C.1 C.2.1 dX3_placeU_3 rfl (lv_at hl 0 rfl) ?_
  refine lv_iload_n C.1 C.2.1 dX3_placeU_4 rfl (lv_at hl 1 rfl) ?_
  refine lv_iadd C.1 C.2.1 dX3_placeU_5 ?_
  refine lv_imul C.1 C.2.1 dX3_placeU_6 ?_
  exact hE _ _ _ _ _ hH (rfl) (rfl) dX3_placeU_7
set_option maxHeartbeats 400000 in
set_option maxRecDepth 100000 in
theorem c_X3_placeV (l : Launch) (G : xG) (a : Nat → Nat) (S T : Nat → Nat → Int32) (L : Nat → Nat → Int64) (F : Nat → Int32) (bs : Int64) (x y : Int32) : xMi l yX3_placeV wsX3_placeV { frames := 0, cells := 0, slots := 0, locals := 0 } [.int x, .int y] G (wX G a S T L F bs) (nI 1024 * (x - y)) (wX G a S T L F bs) 0 0 := by
  refine x_ofi (cc := cX3_placeV) (maxL := 2) (ty := .int) (by decide) rfl (Nat.le_of_ble_eq_true rfl) ?_
  intro p e s m args below meth c ls A Q C hml hA hH hl hE
  have hl : lv_has ls 2 [(0, .int x), (1, .int y)] := hl
  refine lv_sipush (v := nI 1024) C.1 C.2.1 dX3_placeV_0 (by decide) ?_
  refine lv_iload_n C.1 C.2.1 dX3_placeV_3 rfl (lv_at hl 0 rfl) ?_
  refine lv_iload_n C.1 C.2.1 dX3_placeV_4 rfl (lv_at hl 1 rfl) ?_
  refine lv_isub C.1 C.2.1 dX3_placeV_5 ?_
  refine lv_imul C.1 C.2.1 dX3_placeV_6 ?_
  exact hE _ _ _ _ _ hH (rfl) (rfl) dX3_placeV_7
set_option maxHeartbeats 400000 in
set_option maxRecDepth 100000 in
theorem c_X2_gapOf (l : Launch) (G : xG) (a : Nat → Nat) (S T : Nat → Nat → Int32) (L : Nat → Nat → Int64) (F : Nat → Int32) (bs : Int64) (x1 x2 x3 x4 : Int32) : xMi l yX2_gapOf wsX2_gapOf { frames := 1, cells := 0, slots := 0, locals := 14 } [.int x1, .int x2, .int x3, .int x4] G (wX G a S T L F bs) (iG x1 x2 x3 x4) (wX G a S T L F bs) 0 0 := by
  refine x_ofi (cc := cX2_gapOf) (maxL := 4) (ty := .int) (by decide) rfl (Nat.le_of_ble_eq_true rfl) ?_
  intro p e s m args below meth c ls A Q C hml hA hH hl hE
  have hl : lv_has ls 4 [(0, .int x1), (1, .int x2), (2, .int x3), (3, .int x4)] := hl
  refine lv_iconst (v := nI 0) C.1 C.2.1 dX2_gapOf_0 (by decide) ?_
  refine lv_iload_n C.1 C.2.1 dX2_gapOf_1 rfl (lv_at hl 0 rfl) ?_
  refine lv_iload_n C.1 C.2.1 dX2_gapOf_2 rfl (lv_at hl 3 rfl) ?_
  refine lv_isub C.1 C.2.1 dX2_gapOf_3 ?_
  refine lv_iload_n C.1 C.2.1 dX2_gapOf_4 rfl (lv_at hl 2 rfl) ?_
  refine lv_iload_n C.1 C.2.1 dX2_gapOf_5 rfl (lv_at hl 1 rfl) ?_
  refine lv_isub C.1 C.2.1 dX2_gapOf_6 ?_
  refine va_mmax C.1 C.2.1 (hml.trans hl.1.symm) C.2.2.1 (C.2.2.2.1 _ (List.mem_of_getElem? (i := 1) rfl)) (C.2.2.2.1 _ (List.mem_of_getElem? (i := 2) rfl)) (C.2.2.2.1 _ (List.mem_of_getElem? (i := 3) rfl)) (C.2.2.2.1 _ (List.mem_of_getElem? (i := 4) rfl)) (Nat.le_of_ble_eq_true rfl) (Nat.le_of_ble_eq_true rfl) (Nat.le_of_ble_eq_true rfl) (Nat.le_of_ble_eq_true rfl) dX2_gapOf_7 ?_
  refine x_toi (show _ = imax (x1 - x4) (x3 - x2) from rfl) ?_
  refine va_mmax C.1 C.2.1 (hml.trans hl.1.symm) C.2.2.1 (C.2.2.2.1 _ (List.mem_of_getElem? (i := 1) rfl)) (C.2.2.2.1 _ (List.mem_of_getElem? (i := 2) rfl)) (C.2.2.2.1 _ (List.mem_of_getElem? (i := 3) rfl)) (C.2.2.2.1 _ (List.mem_of_getElem? (i := 4) rfl)) (Nat.le_of_ble_eq_true rfl) (Nat.le_of_ble_eq_true rfl) (Nat.le_of_ble_eq_true rfl) (Nat.le_of_ble_eq_true rfl) dX2_gapOf_10 ?_
  refine x_toi (show _ = imax (nI 0) (imax (x1 - x4) (x3 - x2)) from rfl) ?_
  exact hE _ _ _ _ _ hH (rfl) (rfl) dX2_gapOf_13
set_option maxHeartbeats 400000 in
set_option maxRecDepth 100000 in
theorem c_X4_within (l : Launch) (G : xG) (a : Nat → Nat) (S T K Z : Nat → Nat → Int32) (L : Nat → Nat → Int64) (F : Nat → Int32) (v lo hi : Int32) : xMi l yX4_within wsX4_within { frames := 0, cells := 0, slots := 0, locals := 0 } [.int v, .int lo, .int hi] G (wM G a S T K Z L F) (xb (inW v lo hi)) (wM G a S T K Z L F) 0 0 := by
  refine x_ofi (cc := cX4_within) (maxL := 3) (ty := .boolean) (by decide) rfl (Nat.le_of_ble_eq_true rfl) ?_
  intro p e s m args below meth c ls A Q C hml hA hH hl hE
  have hl : lv_has ls 3 [(0, .int v), (1, .int lo), (2, .int hi)] := hl
  refine lv_iload_n C.1 C.2.1 dX4_within_0 rfl (lv_at hl 0 rfl) ?_
  refine lv_iload_n C.1 C.2.1 dX4_within_1 rfl (lv_at hl 1 rfl) ?_
  refine lv_icmp_lt (tgt := 14) C.1 C.2.1 dX4_within_2 (by decide) (fun c_1 => ?_) (fun c_1 => ?_)
  · refine lv_iconst (v := nI 0) C.1 C.2.1 dX4_within_14 (by decide) ?_
    exact hE _ _ _ _ _ hH (by (try simp only [← Int32.not_lt, ← Nat.not_lt, Classical.not_not] at c_1); simp only [xb, inW, ← Int32.not_lt, c_1, and_self, and_true, true_and, and_false, false_and, or_true, true_or, or_false, false_or, not_true_eq_false, not_false_eq_true, Classical.not_not, if_true, if_false, reduceIte]) (by decide) dX4_within_15
  · refine lv_iload_n C.1 C.2.1 dX4_within_5 rfl (lv_at hl 0 rfl) ?_
    refine lv_iload_n C.1 C.2.1 dX4_within_6 rfl (lv_at hl 2 rfl) ?_
    refine lv_icmp_gt (tgt := 14) C.1 C.2.1 dX4_within_7 (by decide) (fun c_2 => ?_) (fun c_2 => ?_)
    · refine lv_iconst (v := nI 0) C.1 C.2.1 dX4_within_14 (by decide) ?_
      exact hE _ _ _ _ _ hH (by (try simp only [← Int32.not_lt, ← Nat.not_lt, Classical.not_not] at c_1); (try simp only [← Int32.not_lt, ← Nat.not_lt, Classical.not_not] at c_2); simp only [xb, inW, ← Int32.not_lt, c_1, c_2, and_self, and_true, true_and, and_false, false_and, or_true, true_or, or_false, false_or, not_true_eq_false, not_false_eq_true, Classical.not_not, if_true, if_false, reduceIte]) (by decide) dX4_within_15
    · refine lv_iconst (v := nI 1) C.1 C.2.1 dX4_within_10 (by decide) ?_
      refine lv_goto (tgt := 15) C.1 C.2.1 dX4_within_11 (by decide) ?_
      exact hE _ _ _ _ _ hH (by (try simp only [← Int32.not_lt, ← Nat.not_lt, Classical.not_not] at c_1); (try simp only [← Int32.not_lt, ← Nat.not_lt, Classical.not_not] at c_2); simp only [xb, inW, ← Int32.not_lt, c_1, c_2, and_self, and_true, true_and, and_false, false_and, or_true, true_or, or_false, false_or, not_true_eq_false, not_false_eq_true, Classical.not_not, if_true, if_false, reduceIte]) (by decide) dX4_within_15
set_option maxHeartbeats 400000 in
set_option maxRecDepth 100000 in
theorem c_X4_isPlace (l : Launch) (G : xG) (a : Nat → Nat) (S T K Z : Nat → Nat → Int32) (L : Nat → Nat → Int64) (F : Nat → Int32) (x : Int32) : xMi l yX4_isPlace wsX4_isPlace { frames := 0, cells := 0, slots := 0, locals := 0 } [.int x] G (wM G a S T K Z L F) (xb (inW x (nI 0) (nI 200))) (wM G a S T K Z L F) 0 0 := by
  refine x_ofi (cc := cX4_isPlace) (maxL := 1) (ty := .boolean) (by decide) rfl (Nat.le_of_ble_eq_true rfl) ?_
  intro p e s m args below meth c ls A Q C hml hA hH hl hE
  have hl : lv_has ls 1 [(0, .int x)] := hl
  refine lv_iload_n C.1 C.2.1 dX4_isPlace_0 rfl (lv_at hl 0 rfl) ?_
  refine lv_if_lt (tgt := 15) C.1 C.2.1 dX4_isPlace_1 (by decide) (fun c_1 => ?_) (fun c_1 => ?_)
  · refine lv_iconst (v := nI 0) C.1 C.2.1 dX4_isPlace_15 (by decide) ?_
    exact hE _ _ _ _ _ hH (by (try simp only [← Int32.not_lt, ← Nat.not_lt, Classical.not_not] at c_1); simp only [xb, inW, ← Int32.not_lt, nI_0, c_1, and_self, and_true, true_and, and_false, false_and, or_true, true_or, or_false, false_or, not_true_eq_false, not_false_eq_true, Classical.not_not, if_true, if_false, reduceIte]) (by decide) dX4_isPlace_16
  · refine lv_iload_n C.1 C.2.1 dX4_isPlace_4 rfl (lv_at hl 0 rfl) ?_
    refine lv_sipush (v := nI 200) C.1 C.2.1 dX4_isPlace_5 (by decide) ?_
    refine lv_icmp_gt (tgt := 15) C.1 C.2.1 dX4_isPlace_8 (by decide) (fun c_2 => ?_) (fun c_2 => ?_)
    · refine lv_iconst (v := nI 0) C.1 C.2.1 dX4_isPlace_15 (by decide) ?_
      exact hE _ _ _ _ _ hH (by (try simp only [← Int32.not_lt, ← Nat.not_lt, Classical.not_not] at c_1); (try simp only [← Int32.not_lt, ← Nat.not_lt, Classical.not_not] at c_2); simp only [xb, inW, ← Int32.not_lt, nI_0, c_1, c_2, and_self, and_true, true_and, and_false, false_and, or_true, true_or, or_false, false_or, not_true_eq_false, not_false_eq_true, Classical.not_not, if_true, if_false, reduceIte]) (by decide) dX4_isPlace_16
    · refine lv_iconst (v := nI 1) C.1 C.2.1 dX4_isPlace_11 (by decide) ?_
      refine lv_goto (tgt := 16) C.1 C.2.1 dX4_isPlace_12 (by decide) ?_
      exact hE _ _ _ _ _ hH (by (try simp only [← Int32.not_lt, ← Nat.not_lt, Classical.not_not] at c_1); (try simp only [← Int32.not_lt, ← Nat.not_lt, Classical.not_not] at c_2); simp only [xb, inW, ← Int32.not_lt, nI_0, c_1, c_2, and_self, and_true, true_and, and_false, false_and, or_true, true_or, or_false, false_or, not_true_eq_false, not_false_eq_true, Classical.not_not, if_true, if_false, reduceIte]) (by decide) dX4_isPlace_16
set_option maxHeartbeats 400000 in
set_option maxRecDepth 100000 in
theorem c_X4_greater (l : Launch) (G : xG) (a : Nat → Nat) (S T K Z : Nat → Nat → Int32) (L : Nat → Nat → Int64) (F : Nat → Int32) (x y : Int32) : xMi l yX4_greater wsX4_greater { frames := 0, cells := 0, slots := 0, locals := 0 } [.int x, .int y] G (wM G a S T K Z L F) (imax x y) (wM G a S T K Z L F) 0 0 := by
  refine x_ofi (cc := cX4_greater) (maxL := 2) (ty := .int) (by decide) rfl (Nat.le_of_ble_eq_true rfl) ?_
  intro p e s m args below meth c ls A Q C hml hA hH hl hE
  have hl : lv_has ls 2 [(0, .int x), (1, .int y)] := hl
  refine lv_iload_n C.1 C.2.1 dX4_greater_0 rfl (lv_at hl 0 rfl) ?_
  refine lv_iload_n C.1 C.2.1 dX4_greater_1 rfl (lv_at hl 1 rfl) ?_
  refine lv_icmp_ge (tgt := 9) C.1 C.2.1 dX4_greater_2 (by decide) (fun c_1 => ?_) (fun c_1 => ?_)
  · refine lv_iload_n C.1 C.2.1 dX4_greater_9 rfl (lv_at hl 0 rfl) ?_
    exact hE _ _ _ _ _ hH (by first | exact imax_le c_1 | exact imax_lt c_1) (rfl) dX4_greater_10
  · refine lv_iload_n C.1 C.2.1 dX4_greater_5 rfl (lv_at hl 1 rfl) ?_
    refine lv_goto (tgt := 10) C.1 C.2.1 dX4_greater_6 (by decide) ?_
    exact hE _ _ _ _ _ hH (by first | exact imax_le c_1 | exact imax_lt c_1) (rfl) dX4_greater_10
set_option maxHeartbeats 400000 in
set_option maxRecDepth 100000 in
theorem c_X4_lesser (l : Launch) (G : xG) (a : Nat → Nat) (S T K Z : Nat → Nat → Int32) (L : Nat → Nat → Int64) (F : Nat → Int32) (x y : Int32) : xMi l yX4_lesser wsX4_lesser { frames := 0, cells := 0, slots := 0, locals := 0 } [.int x, .int y] G (wM G a S T K Z L F) (imin x y) (wM G a S T K Z L F) 0 0 := by
  refine x_ofi (cc := cX4_lesser) (maxL := 2) (ty := .int) (by decide) rfl (Nat.le_of_ble_eq_true rfl) ?_
  intro p e s m args below meth c ls A Q C hml hA hH hl hE
  have hl : lv_has ls 2 [(0, .int x), (1, .int y)] := hl
  refine lv_iload_n C.1 C.2.1 dX4_lesser_0 rfl (lv_at hl 0 rfl) ?_
  refine lv_iload_n C.1 C.2.1 dX4_lesser_1 rfl (lv_at hl 1 rfl) ?_
  refine lv_icmp_ge (tgt := 9) C.1 C.2.1 dX4_lesser_2 (by decide) (fun c_1 => ?_) (fun c_1 => ?_)
  · refine lv_iload_n C.1 C.2.1 dX4_lesser_9 rfl (lv_at hl 1 rfl) ?_
    exact hE _ _ _ _ _ hH (by first | exact imin_le c_1 | exact imin_lt c_1) (rfl) dX4_lesser_10
  · refine lv_iload_n C.1 C.2.1 dX4_lesser_5 rfl (lv_at hl 0 rfl) ?_
    refine lv_goto (tgt := 10) C.1 C.2.1 dX4_lesser_6 (by decide) ?_
    exact hE _ _ _ _ _ hH (by first | exact imin_le c_1 | exact imin_lt c_1) (rfl) dX4_lesser_10
set_option maxHeartbeats 400000 in
set_option maxRecDepth 100000 in
theorem c_X4_gap (l : Launch) (G : xG) (a : Nat → Nat) (S T K Z : Nat → Nat → Int32) (L : Nat → Nat → Int64) (F : Nat → Int32) (x1 x2 x3 x4 : Int32) : xMi l yX4_gap wsX4_gap { frames := 1, cells := 0, slots := 0, locals := 21 } [.int x1, .int x2, .int x3, .int x4] G (wM G a S T K Z L F) (iG x1 x2 x3 x4) (wM G a S T K Z L F) 0 0 := by
  refine x_ofi (cc := cX4_gap) (maxL := 4) (ty := .int) (by decide) rfl (Nat.le_of_ble_eq_true rfl) ?_
  intro p e s m args below meth c ls A Q C hml hA hH hl hE
  have hl : lv_has ls 4 [(0, .int x1), (1, .int x2), (2, .int x3), (3, .int x4)] := hl
  refine lv_iconst (v := nI 0) C.1 C.2.1 dX4_gap_0 (by decide) ?_
  refine lv_iload_n C.1 C.2.1 dX4_gap_1 rfl (lv_at hl 0 rfl) ?_
  refine lv_iload_n C.1 C.2.1 dX4_gap_2 rfl (lv_at hl 3 rfl) ?_
  refine lv_isub C.1 C.2.1 dX4_gap_3 ?_
  refine lv_iload_n C.1 C.2.1 dX4_gap_4 rfl (lv_at hl 2 rfl) ?_
  refine lv_iload_n C.1 C.2.1 dX4_gap_5 rfl (lv_at hl 1 rfl) ?_
  refine lv_isub C.1 C.2.1 dX4_gap_6 ?_
  refine x_ci (w' := wM G a S T K Z L F) (va_runS (As := [.int (x1 - x4), .int (x3 - x2)]) (rest := [.int (nI 0)]) (x_fix C hml) (c_X4_greater l G a S T K Z L F (x1 - x4) (x3 - x2) _) (cwS 2 C.2.2.2.1 gX4_gap_X4_greater rfl rfl rfl (by decide +kernel) ⟨Nat.le_of_ble_eq_true rfl, Nat.le_of_ble_eq_true rfl⟩) (x_ps C hH) rfl rfl hl.1 rfl (lv_room (Nat.le_of_ble_eq_true rfl)) dX4_gap_7 ⟨Nat.le_of_ble_eq_true rfl, Nat.le_of_ble_eq_true rfl⟩) hH hA (fun H locs hH => ?_)
  refine x_ci (w' := wM G a S T K Z L F) (va_runS (As := [.int (nI 0), .int (imax (x1 - x4) (x3 - x2))]) (rest := []) (x_fix C hml) (c_X4_greater l G a S T K Z L F (nI 0) (imax (x1 - x4) (x3 - x2)) _) (cwS 2 C.2.2.2.1 gX4_gap_X4_greater rfl rfl rfl (by decide +kernel) ⟨Nat.le_of_ble_eq_true rfl, Nat.le_of_ble_eq_true rfl⟩) (x_ps C hH) rfl rfl hl.1 rfl (lv_room (Nat.le_of_ble_eq_true rfl)) dX4_gap_10 ⟨Nat.le_of_ble_eq_true rfl, Nat.le_of_ble_eq_true rfl⟩) hH hA (fun H locs hH => ?_)
  exact hE _ _ _ _ _ hH (rfl) (rfl) dX4_gap_13
set_option maxHeartbeats 400000 in
set_option maxRecDepth 100000 in
theorem c_X4_nearest (l : Launch) (G : xG) (a : Nat → Nat) (S T K Z : Nat → Nat → Int32) (L : Nat → Nat → Int64) (F : Nat → Int32) (x lo hi : Int32) : xMi l yX4_nearest wsX4_nearest { frames := 0, cells := 0, slots := 0, locals := 0 } [.int x, .int lo, .int hi] G (wM G a S T K Z L F) (iNear x lo hi) (wM G a S T K Z L F) 0 0 := by
  refine x_ofi (cc := cX4_nearest) (maxL := 3) (ty := .int) (by decide) rfl (Nat.le_of_ble_eq_true rfl) ?_
  intro p e s m args below meth c ls A Q C hml hA hH hl hE
  have hl : lv_has ls 3 [(0, .int x), (1, .int lo), (2, .int hi)] := hl
  refine lv_iload_n C.1 C.2.1 dX4_nearest_0 rfl (lv_at hl 0 rfl) ?_
  refine lv_iload_n C.1 C.2.1 dX4_nearest_1 rfl (lv_at hl 1 rfl) ?_
  refine lv_icmp_ge (tgt := 9) C.1 C.2.1 dX4_nearest_2 (by decide) (fun c_1 => ?_) (fun c_1 => ?_)
  · refine lv_iload_n C.1 C.2.1 dX4_nearest_9 rfl (lv_at hl 0 rfl) ?_
    refine lv_iload_n C.1 C.2.1 dX4_nearest_10 rfl (lv_at hl 2 rfl) ?_
    refine lv_icmp_le (tgt := 18) C.1 C.2.1 dX4_nearest_11 (by decide) (fun c_2 => ?_) (fun c_2 => ?_)
    · refine lv_iload_n C.1 C.2.1 dX4_nearest_18 rfl (lv_at hl 0 rfl) ?_
      exact hE _ _ _ _ _ hH (by first | exact iNear_lo c_2 | exact iNear_hi c_1 c_2 | exact iNear_in c_1 c_2) (rfl) dX4_nearest_19
    · refine lv_iload_n C.1 C.2.1 dX4_nearest_14 rfl (lv_at hl 2 rfl) ?_
      refine lv_goto (tgt := 19) C.1 C.2.1 dX4_nearest_15 (by decide) ?_
      exact hE _ _ _ _ _ hH (by first | exact iNear_lo c_2 | exact iNear_hi c_1 c_2 | exact iNear_in c_1 c_2) (rfl) dX4_nearest_19
  · refine lv_iload_n C.1 C.2.1 dX4_nearest_5 rfl (lv_at hl 1 rfl) ?_
    refine lv_goto (tgt := 19) C.1 C.2.1 dX4_nearest_6 (by decide) ?_
    exact hE _ _ _ _ _ hH (by first | exact iNear_lo c_1 | exact iNear_hi c_1 | exact iNear_in c_1) (rfl) dX4_nearest_19
set_option maxHeartbeats 400000 in
set_option maxRecDepth 100000 in
theorem c_X3_isPlace (l : Launch) (G : xG) (a : Nat → Nat) (S T : Nat → Nat → Int32) (L : Nat → Nat → Int64) (F : Nat → Int32) (bs : Int64) (x y : Int32) : xMi l yX3_isPlace wsX3_isPlace { frames := 1, cells := 0, slots := 0, locals := 22 } [.int x, .int y] G (wX G a S T L F bs) (xb (inW x (nI 0) (nI 200) ∧ inW y (nI 0) (nI 200))) (wX G a S T L F bs) 0 0 := by
  refine x_ofi (cc := cX3_isPlace) (maxL := 2) (ty := .boolean) (by decide) rfl (Nat.le_of_ble_eq_true rfl) ?_
  intro p e s m args below meth c ls A Q C hml hA hH hl hE
  have hl : lv_has ls 2 [(0, .int x), (1, .int y)] := hl
  refine lv_iload_n C.1 C.2.1 dX3_isPlace_0 rfl (lv_at hl 0 rfl) ?_
  refine lv_iconst (v := nI 0) C.1 C.2.1 dX3_isPlace_1 (by decide) ?_
  refine lv_sipush (v := nI 200) C.1 C.2.1 dX3_isPlace_2 (by decide) ?_
  refine x_ci (w' := wX G a S T L F bs) (va_runS (As := [.int x, .int (nI 0), .int (nI 200)]) (rest := []) (x_fix C hml) (c_X3_isWithin l G a S T L F bs x (nI 0) (nI 200) _) (cwS 3 C.2.2.2.1 gX3_isPlace_X3_isWithin rfl rfl rfl (by decide +kernel) ⟨Nat.le_of_ble_eq_true rfl, Nat.le_of_ble_eq_true rfl⟩) (x_ps C hH) rfl rfl hl.1 rfl (lv_room (Nat.le_of_ble_eq_true rfl)) dX3_isPlace_5 ⟨Nat.le_of_ble_eq_true rfl, Nat.le_of_ble_eq_true rfl⟩) hH hA (fun H locs hH => ?_)
  refine lv_if_eq (tgt := 26) C.1 C.2.1 dX3_isPlace_8 (by decide) (fun c_1 => ?_) (fun c_1 => ?_)
  · rw [xb_0] at c_1
    refine lv_iconst (v := nI 0) C.1 C.2.1 dX3_isPlace_26 (by decide) ?_
    exact hE _ _ _ _ _ hH (by first | exact xb_f (fun h => c_1 h.1) | exact xb_f (fun h => c_2 h.2) | exact xb_t ⟨c_1, c_2⟩) (by decide) dX3_isPlace_27
  · rw [xb_0] at c_1
    have c_1 := Classical.not_not.mp c_1
    refine lv_iload_n C.1 C.2.1 dX3_isPlace_11 rfl (lv_at hl 1 rfl) ?_
    refine lv_iconst (v := nI 0) C.1 C.2.1 dX3_isPlace_12 (by decide) ?_
    refine lv_sipush (v := nI 200) C.1 C.2.1 dX3_isPlace_13 (by decide) ?_
    refine x_ci (w' := wX G a S T L F bs) (va_runS (As := [.int y, .int (nI 0), .int (nI 200)]) (rest := []) (x_fix C hml) (c_X3_isWithin l G a S T L F bs y (nI 0) (nI 200) _) (cwS 3 C.2.2.2.1 gX3_isPlace_X3_isWithin rfl rfl rfl (by decide +kernel) ⟨Nat.le_of_ble_eq_true rfl, Nat.le_of_ble_eq_true rfl⟩) (x_ps C hH) rfl rfl hl.1 rfl (lv_room (Nat.le_of_ble_eq_true rfl)) dX3_isPlace_16 ⟨Nat.le_of_ble_eq_true rfl, Nat.le_of_ble_eq_true rfl⟩) hH hA (fun H locs hH => ?_)
    refine lv_if_eq (tgt := 26) C.1 C.2.1 dX3_isPlace_19 (by decide) (fun c_2 => ?_) (fun c_2 => ?_)
    · rw [xb_0] at c_2
      refine lv_iconst (v := nI 0) C.1 C.2.1 dX3_isPlace_26 (by decide) ?_
      exact hE _ _ _ _ _ hH (by first | exact xb_f (fun h => c_1 h.1) | exact xb_f (fun h => c_2 h.2) | exact xb_t ⟨c_1, c_2⟩) (by decide) dX3_isPlace_27
    · rw [xb_0] at c_2
      have c_2 := Classical.not_not.mp c_2
      refine lv_iconst (v := nI 1) C.1 C.2.1 dX3_isPlace_22 (by decide) ?_
      refine lv_goto (tgt := 27) C.1 C.2.1 dX3_isPlace_23 (by decide) ?_
      exact hE _ _ _ _ _ hH (by first | exact xb_f (fun h => c_1 h.1) | exact xb_f (fun h => c_2 h.2) | exact xb_t ⟨c_1, c_2⟩) (by decide) dX3_isPlace_27
