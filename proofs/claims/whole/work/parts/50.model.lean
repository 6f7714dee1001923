set_option maxHeartbeats 400000 in
set_option maxRecDepth 100000 in
theorem c_X4_distance (l : Launch) (G : xG) (a : Nat → Nat) (S T K Z : Nat → Nat → Int32) (L : Nat → Nat → Int64) (F : Nat → Int32) (i j : Nat) (hi : i < 19) (hj : j < 19) : xMi l yX4_distance wsX4_distance { frames := 2, cells := 0, slots := 0, locals := 44 } [.ref (a 0), .int (nI i), .int (nI j)] G (wM G a S T K Z L F) (dist T i j) (wM G a S T K Z L F) 0 0 := by
  refine x_ofi (cc := cX4_distance) (maxL := 3) (ty := .int) (by decide) rfl (Nat.le_of_ble_eq_true rfl) ?_
  intro p e s m args below meth c ls A Q C hml hA hH hl hE
  have hl : lv_has ls 3 [(0, .ref (a 0)), (1, .int (nI i)), (2, .int (nI j))] := hl
  have inX4 : ∀ w ∈ wsX40, w ∈ wsX4_distance := fun _ h => (List.mem_cons_of_mem _ (List.mem_append_right _ h))
  refine lv_aload_n C.1 C.2.1 dX4_distance_0 rfl (lv_at hl 0 rfl) ?_
  refine x_get (C := RX4) (T := TX4) (N := 37) (v := .ref (a 8)) C inX4 hH 0 gM_0 rfl 18 (by decide) rfl rfl 1 rfl dX4_distance_1 ?_
  refine lv_iload_n C.1 C.2.1 dX4_distance_4 rfl (lv_at hl 1 rfl) ?_
  refine x_iald (f := T 3) (j := i) (v := T 3 i) C hH 8 gM_8 (by omega) (by decide) (rfl) dX4_distance_5 ?_
  refine lv_aload_n C.1 C.2.1 dX4_distance_6 rfl (lv_at hl 0 rfl) ?_
  refine x_get (C := RX4) (T := TX4) (N := 37) (v := .ref (a 9)) C inX4 hH 0 gM_0 rfl 19 (by decide) rfl rfl 2 rfl dX4_distance_7 ?_
  refine lv_iload_n C.1 C.2.1 dX4_distance_10 rfl (lv_at hl 1 rfl) ?_
  refine x_iald (f := T 4) (j := i) (v := T 4 i) C hH 9 gM_9 (by omega) (by decide) (rfl) dX4_distance_11 ?_
  refine lv_aload_n C.1 C.2.1 dX4_distance_12 rfl (lv_at hl 0 rfl) ?_
  refine x_get (C := RX4) (T := TX4) (N := 37) (v := .ref (a 8)) C inX4 hH 0 gM_0 rfl 18 (by decide) rfl rfl 1 rfl dX4_distance_13 ?_
  refine lv_iload_n C.1 C.2.1 dX4_distance_16 rfl (lv_at hl 2 rfl) ?_
  refine x_iald (f := T 3) (j := j) (v := T 3 j) C hH 8 gM_8 (by omega) (by decide) (rfl) dX4_distance_17 ?_
  refine lv_aload_n C.1 C.2.1 dX4_distance_18 rfl (lv_at hl 0 rfl) ?_
  refine x_get (C := RX4) (T := TX4) (N := 37) (v := .ref (a 9)) C inX4 hH 0 gM_0 rfl 19 (by decide) rfl rfl 2 rfl dX4_distance_19 ?_
  refine lv_iload_n C.1 C.2.1 dX4_distance_22 rfl (lv_at hl 2 rfl) ?_
  refine x_iald (f := T 4) (j := j) (v := T 4 j) C hH 9 gM_9 (by omega) (by decide) (rfl) dX4_distance_23 ?_
  refine x_ci (w' := wM G a S T K Z L F) (va_runS (As := [.int (T 3 i), .int (T 4 i), .int (T 3 j), .int (T 4 j)]) (rest := []) (x_fix C hml) (c_X4_gap l G a S T K Z L F (T 3 i) (T 4 i) (T 3 j) (T 4 j) _) (cwS 4 C.2.2.2.1 gX4_distance_X4_gap rfl rfl rfl (by decide +kernel) ⟨Nat.le_of_ble_eq_true rfl, Nat.le_of_ble_eq_true rfl⟩) (x_ps C hH) rfl rfl hl.1 rfl (lv_room (Nat.le_of_ble_eq_true rfl)) dX4_distance_24 ⟨Nat.le_of_ble_eq_true rfl, Nat.le_of_ble_eq_true rfl⟩) hH hA (fun H locs hH => ?_)
  refine lv_aload_n C.1 C.2.1 dX4_distance_27 rfl (lv_at hl 0 rfl) ?_
  refine x_get (C := RX4) (T := TX4) (N := 37) (v := .ref (a 10)) C inX4 hH 0 gM_0 rfl 20 (by decide) rfl rfl 3 rfl dX4_distance_28 ?_
  refine lv_iload_n C.1 C.2.1 dX4_distance_31 rfl (lv_at hl 1 rfl) ?_
  refine x_iald (f := T 5) (j := i) (v := T 5 i) C hH 10 gM_10 (by omega) (by decide) (rfl) dX4_distance_32 ?_
  refine lv_aload_n C.1 C.2.1 dX4_distance_33 rfl (lv_at hl 0 rfl) ?_
  refine x_get (C := RX4) (T := TX4) (N := 37) (v := .ref (a 11)) C inX4 hH 0 gM_0 rfl 21 (by decide) rfl rfl 4 rfl dX4_distance_34 ?_
  refine lv_iload_n C.1 C.2.1 dX4_distance_37 rfl (lv_at hl 1 rfl) ?_
  refine x_iald (f := T 6) (j := i) (v := T 6 i) C hH 11 gM_11 (by omega) (by decide) (rfl) dX4_distance_38 ?_
  refine lv_aload_n C.1 C.2.1 dX4_distance_39 rfl (lv_at hl 0 rfl) ?_
  refine x_get (C := RX4) (T := TX4) (N := 37) (v := .ref (a 10)) C inX4 hH 0 gM_0 rfl 20 (by decide) rfl rfl 3 rfl dX4_distance_40 ?_
  refine lv_iload_n C.1 C.2.1 dX4_distance_43 rfl (lv_at hl 2 rfl) ?_
  refine x_iald (f := T 5) (j := j) (v := T 5 j) C hH 10 gM_10 (by omega) (by decide) (rfl) dX4_distance_44 ?_
  refine lv_aload_n C.1 C.2.1 dX4_distance_45 rfl (lv_at hl 0 rfl) ?_
  refine x_get (C := RX4) (T := TX4) (N := 37) (v := .ref (a 11)) C inX4 hH 0 gM_0 rfl 21 (by decide) rfl rfl 4 rfl dX4_distance_46 ?_
  refine lv_iload_n C.1 C.2.1 dX4_distance_49 rfl (lv_at hl 2 rfl) ?_
  refine x_iald (f := T 6) (j := j) (v := T 6 j) C hH 11 gM_11 (by omega) (by decide) (rfl) dX4_distance_50 ?_
  refine x_ci (w' := wM G a S T K Z L F) (va_runS (As := [.int (T 5 i), .int (T 6 i), .int (T 5 j), .int (T 6 j)]) (rest := [.int (iG (T 3 i) (T 4 i) (T 3 j) (T 4 j))]) (x_fix C hml) (c_X4_gap l G a S T K Z L F (T 5 i) (T 6 i) (T 5 j) (T 6 j) _) (cwS 4 C.2.2.2.1 gX4_distance_X4_gap rfl rfl rfl (by decide +kernel) ⟨Nat.le_of_ble_eq_true rfl, Nat.le_of_ble_eq_true rfl⟩) (x_ps C hH) rfl rfl hl.1 rfl (lv_room (Nat.le_of_ble_eq_true rfl)) dX4_distance_51 ⟨Nat.le_of_ble_eq_true rfl, Nat.le_of_ble_eq_true rfl⟩) hH hA (fun H locs hH => ?_)
  refine x_ci (w' := wM G a S T K Z L F) (va_runS (As := [.int (iG (T 3 i) (T 4 i) (T 3 j) (T 4 j)), .int (iG (T 5 i) (T 6 i) (T 5 j) (T 6 j))]) (rest := []) (x_fix C hml) (c_X4_greater l G a S T K Z L F (iG (T 3 i) (T 4 i) (T 3 j) (T 4 j)) (iG (T 5 i) (T 6 i) (T 5 j) (T 6 j)) _) (cwS 2 C.2.2.2.1 gX4_distance_X4_greater rfl rfl rfl (by decide +kernel) ⟨Nat.le_of_ble_eq_true rfl, Nat.le_of_ble_eq_true rfl⟩) (x_ps C hH) rfl rfl hl.1 rfl (lv_room (Nat.le_of_ble_eq_true rfl)) dX4_distance_54 ⟨Nat.le_of_ble_eq_true rfl, Nat.le_of_ble_eq_true rfl⟩) hH hA (fun H locs hH => ?_)
  exact hE _ _ _ _ _ hH (rfl) (rfl) dX4_distance_57
set_option maxHeartbeats 400000 in
set_option maxRecDepth 100000 in
theorem c_X4_place (l : Launch) (G : xG) (a : Nat → Nat) (S T K Z : Nat → Nat → Int32) (L : Nat → Nat → Int64) (F : Nat → Int32) (k : Nat) (x y z u : Int32) (hk : k < 19) : xMv l yX4_place wsX4_place { frames := 0, cells := 0, slots := 0, locals := 0 } [.ref (a 0), .int (nI k), .int x, .int y, .int z, .int u] G (wM G a S T K Z L F) (wM G a S (placeT T k x y z u) K Z L F) 0 0 := by
  refine x_ofv (cc := cX4_place) (maxL := 6) (by decide) rfl (Nat.le_of_ble_eq_true rfl) ?_
  intro p e s m args below meth c ls A Q C hml hA hH hl hE
  have hl : lv_has ls 6 [(0, .ref (a 0)), (1, .int (nI k)), (2, .int x), (3, .int y), (4, .int z), (5, .int u)] := hl
  have inX4 : ∀ w ∈ wsX40, w ∈ wsX4_place := fun _ h => (List.mem_cons_of_mem _ (List.mem_append_right _ h))
  refine lv_aload_n C.1 C.2.1 dX4_place_0 rfl (lv_at hl 0 rfl) ?_
  refine x_get (C := RX4) (T := TX4) (N := 37) (v := .ref (a 8)) C inX4 hH 0 gM_0 rfl 18 (by decide) rfl rfl 1 rfl dX4_place_1 ?_
  refine lv_iload_n C.1 C.2.1 dX4_place_4 rfl (lv_at hl 1 rfl) ?_
  refine lv_iload_n C.1 C.2.1 dX4_place_5 rfl (lv_at hl 2 rfl) ?_
  refine x_iast (f := T 3) (j := k) (x := x) (w' := wM G a S ((tS T 3 (upd (T 3) k x))) K Z L F) C hH 8 gM_8 (by omega) (by decide) sM_8 dX4_place_6 (fun H locs hH => ?_)
  refine lv_aload_n C.1 C.2.1 dX4_place_7 rfl (lv_at hl 0 rfl) ?_
  refine x_get (C := RX4) (T := TX4) (N := 37) (v := .ref (a 9)) C inX4 hH 0 gM_0 rfl 19 (by decide) rfl rfl 2 rfl dX4_place_8 ?_
  refine lv_iload_n C.1 C.2.1 dX4_place_11 rfl (lv_at hl 1 rfl) ?_
  refine lv_iload_n C.1 C.2.1 dX4_place_12 rfl (lv_at hl 3 rfl) ?_
  refine x_iast (f := T 4) (j := k) (x := y) (w' := wM G a S ((tS ((tS T 3 (upd (T 3) k x))) 4 (upd (T 4) k y))) K Z L F) C hH 9 gM_9 (by omega) (by decide) sM_9 dX4_place_13 (fun H locs hH => ?_)
  refine lv_aload_n C.1 C.2.1 dX4_place_14 rfl (lv_at hl 0 rfl) ?_
  refine x_get (C := RX4) (T := TX4) (N := 37) (v := .ref (a 10)) C inX4 hH 0 gM_0 rfl 20 (by decide) rfl rfl 3 rfl dX4_place_15 ?_
  refine lv_iload_n C.1 C.2.1 dX4_place_18 rfl (lv_at hl 1 rfl) ?_
  refine lv_iload C.1 C.2.1 dX4_place_19 (lv_at hl 4 rfl) ?_
  refine x_iast (f := T 5) (j := k) (x := z) (w' := wM G a S ((tS ((tS ((tS T 3 (upd (T 3) k x))) 4 (upd (T 4) k y))) 5 (upd (T 5) k z))) K Z L F) C hH 10 gM_10 (by omega) (by decide) sM_10 dX4_place_21 (fun H locs hH => ?_)
  refine lv_aload_n C.1 C.2.1 dX4_place_22 rfl (lv_at hl 0 rfl) ?_
  refine x_get (C := RX4) (T := TX4) (N := 37) (v := .ref (a 11)) C inX4 hH 0 gM_0 rfl 21 (by decide) rfl rfl 4 rfl dX4_place_23 ?_
  refine lv_iload_n C.1 C.2.1 dX4_place_26 rfl (lv_at hl 1 rfl) ?_
  refine lv_iload C.1 C.2.1 dX4_place_27 (lv_at hl 5 rfl) ?_
  refine x_iast (f := T 6) (j := k) (x := u) (w' := wM G a S ((tS ((tS ((tS ((tS T 3 (upd (T 3) k x))) 4 (upd (T 4) k y))) 5 (upd (T 5) k z))) 6 (upd (T 6) k u))) K Z L F) C hH 11 gM_11 (by omega) (by decide) sM_11 dX4_place_29 (fun H locs hH => ?_)
  have hH := x_eqw (w' := wM G a S (placeT T k x y z u) K Z L F) (rfl) hH
  exact hE _ _ _ _ hH dX4_place_30
set_option maxHeartbeats 400000 in
set_option maxRecDepth 100000 in
theorem c_X4_join (l : Launch) (G : xG) (a : Nat → Nat) (S T K Z : Nat → Nat → Int32) (L : Nat → Nat → Int64) (F : Nat → Int32) (i j n : Nat) (h6 : F 6 = nI n) (hi : i < 19) (hj : j < 19) (hn : n < 19) : xMi l yX4_join wsX4_join { frames := 3, cells := 0, slots := 0, locals := 66 } [.ref (a 0), .int (nI i), .int (nI j)] G (wM G a S T K Z L F) (nI n) (wM G a S (joinT T n i j) K (joinZ Z n i j) L (tS F 6 (nI (n + 1)))) 0 0 := by
  refine x_ofi (cc := cX4_join) (maxL := 9) (ty := .int) (by decide) rfl (Nat.le_of_ble_eq_true rfl) ?_
  intro p e s m args below meth c ls A Q C hml hA hH hl hE
  have hl : lv_has ls 9 [(0, .ref (a 0)), (1, .int (nI i)), (2, .int (nI j))] := hl
  have inX4 : ∀ w ∈ wsX40, w ∈ wsX4_join := fun _ h => (List.mem_cons_of_mem _ (List.mem_append_right _ h))
  refine lv_aload_n C.1 C.2.1 dX4_join_0 rfl (lv_at hl 0 rfl) ?_
  refine lv_iload_n C.1 C.2.1 dX4_join_1 rfl (lv_at hl 1 rfl) ?_
  refine lv_iload_n C.1 C.2.1 dX4_join_2 rfl (lv_at hl 2 rfl) ?_
  refine x_ci (w' := wM G a S T K Z L F) (va_runV (As := [.int (nI i), .int (nI j)]) (rest := []) (x_fix C hml) (c_X4_distance l G a S T K Z L F i j (by omega) (by omega) _) (cwV 2 C.2.2.2.1 gX4_join_X4_distance rfl rfl rfl (by decide +kernel) ⟨Nat.le_of_ble_eq_true rfl, Nat.le_of_ble_eq_true rfl⟩) (x_pv C hH rfl gM_0 rfl rfl) rfl rfl hl.1 rfl (lv_room (Nat.le_of_ble_eq_true rfl)) dX4_join_3 ⟨Nat.le_of_ble_eq_true rfl, Nat.le_of_ble_eq_true rfl⟩) hH hA (fun H locs hH => ?_)
  refine lv_istore_n (lv' := [(3, .int (dist T i j)), (0, .ref (a 0)), (1, .int (nI i)), (2, .int (nI j))]) C.1 C.2.1 dX4_join_6 rfl hl (by decide) rfl (fun ls hl => ?_)
  refine lv_aload_n C.1 C.2.1 dX4_join_7 rfl (lv_at hl 1 rfl) ?_
  refine x_get (C := RX4) (T := TX4) (N := 37) (v := .ref (a 12)) C inX4 hH 0 gM_0 rfl 22 (by decide) rfl rfl 1 rfl dX4_join_8 ?_
  refine lv_iload_n C.1 C.2.1 dX4_join_11 rfl (lv_at hl 2 rfl) ?_
  refine x_iald (f := T 7) (j := i) (v := T 7 i) C hH 12 gM_12 (by omega) (by decide) (rfl) dX4_join_12 ?_
  refine lv_istore (lv' := [(4, .int (T 7 i)), (3, .int (dist T i j)), (0, .ref (a 0)), (1, .int (nI i)), (2, .int (nI j))]) C.1 C.2.1 dX4_join_13 hl (by decide) rfl (fun ls hl => ?_)
  refine lv_aload_n C.1 C.2.1 dX4_join_15 rfl (lv_at hl 2 rfl) ?_
  refine x_get (C := RX4) (T := TX4) (N := 37) (v := .ref (a 12)) C inX4 hH 0 gM_0 rfl 22 (by decide) rfl rfl 1 rfl dX4_join_16 ?_
  refine lv_iload_n C.1 C.2.1 dX4_join_19 rfl (lv_at hl 4 rfl) ?_
  refine x_iald (f := T 7) (j := j) (v := T 7 j) C hH 12 gM_12 (by omega) (by decide) (rfl) dX4_join_20 ?_
  refine lv_istore (lv' := [(5, .int (T 7 j)), (4, .int (T 7 i)), (3, .int (dist T i j)), (0, .ref (a 0)), (1, .int (nI i)), (2, .int (nI j))]) C.1 C.2.1 dX4_join_21 hl (by decide) rfl (fun ls hl => ?_)
  refine lv_iload C.1 C.2.1 dX4_join_23 (lv_at hl 1 rfl) ?_
  refine lv_iload_n C.1 C.2.1 dX4_join_25 rfl (lv_at hl 2 rfl) ?_
  refine lv_iload C.1 C.2.1 dX4_join_26 (lv_at hl 0 rfl) ?_
  refine lv_iadd C.1 C.2.1 dX4_join_28 ?_
  refine x_mrg (g := F0 m 0 ls []) (pc2 := 62) (v := wA T i j (dist T i j)) (st := []) ?_ (fun hm_2 => ?_)
  · refine lv_istore (lv' := [(6, .int (wA T i j (dist T i j))), (5, .int (T 7 j)), (4, .int (T 7 i)), (3, .int (dist T i j)), (0, .ref (a 0)), (1, .int (nI i)), (2, .int (nI j))]) C.1 C.2.1 dX4_join_62 hl (by decide) rfl (fun ls hl => ?_)
    refine lv_iload C.1 C.2.1 dX4_join_64 (lv_at hl 2 rfl) ?_
    refine lv_iload_n C.1 C.2.1 dX4_join_66 rfl (lv_at hl 3 rfl) ?_
    refine lv_iload C.1 C.2.1 dX4_join_67 (lv_at hl 1 rfl) ?_
    refine lv_iadd C.1 C.2.1 dX4_join_69 ?_
    refine x_mrg (g := F0 m 0 ls []) (pc2 := 98) (v := wB T i j (dist T i j)) (st := []) ?_ (fun hm_4 => ?_)
    · refine lv_istore (lv' := [(7, .int (wB T i j (dist T i j))), (6, .int (wA T i j (dist T i j))), (5, .int (T 7 j)), (4, .int (T 7 i)), (3, .int (dist T i j)), (0, .ref (a 0)), (1, .int (nI i)), (2, .int (nI j))]) C.1 C.2.1 dX4_join_98 hl (by decide) rfl (fun ls hl => ?_)
      refine lv_aload_n C.1 C.2.1 dX4_join_100 rfl (lv_at hl 5 rfl) ?_
      refine x_get (C := RX4) (T := TX4) (N := 37) (v := .int (F 6)) C inX4 hH 0 gM_0 rfl 14 (by decide) rfl rfl 2 rfl dX4_join_101 ?_
      refine x_toi h6 ?_
      refine lv_istore (lv' := [(8, .int (nI n)), (7, .int (wB T i j (dist T i j))), (6, .int (wA T i j (dist T i j))), (5, .int (T 7 j)), (4, .int (T 7 i)), (3, .int (dist T i j)), (0, .ref (a 0)), (1, .int (nI i)), (2, .int (nI j))]) C.1 C.2.1 dX4_join_104 hl (by decide) rfl (fun ls hl => ?_)
      refine lv_aload_n C.1 C.2.1 dX4_join_106 rfl (lv_at hl 6 rfl) ?_
      refine lv_dup C.1 C.2.1 dX4_join_107 rfl ?_
      refine x_get (C := RX4) (T := TX4) (N := 37) (v := .int (F 6)) C inX4 hH 0 gM_0 rfl 14 (by decide) rfl rfl 2 rfl dX4_join_108 ?_
      refine x_toi h6 ?_
      refine lv_iconst (v := nI 1) C.1 C.2.1 dX4_join_111 (by decide) ?_
      refine lv_iadd C.1 C.2.1 dX4_join_112 ?_
      refine x_toi (nI_add n 1) ?_
      refine x_put (C := RX4) (T := TX4) (N := 37) (v := .int (nI (n + 1))) (w' := wM G a S T K Z L ((tS F 6 (nI (n + 1))))) C inX4 tyX4 tyX4_ok nmX4 hH 0 gM_0 rfl 14 (by decide) rfl rfl rfl rfl (Nat.le_of_ble_eq_true rfl) fM_0_14 2 rfl dX4_join_113 (fun H locs hH => ?_)
      refine lv_aload_n C.1 C.2.1 dX4_join_116 rfl (lv_at hl 6 rfl) ?_
      refine x_get (C := RX4) (T := TX4) (N := 37) (v := .ref (a 5)) C inX4 hH 0 gM_0 rfl 15 (by decide) rfl rfl 3 rfl dX4_join_117 ?_
      refine lv_iload C.1 C.2.1 dX4_join_120 (lv_at hl 0 rfl) ?_
      refine lv_iload_n C.1 C.2.1 dX4_join_122 rfl (lv_at hl 7 rfl) ?_
      refine x_iast (f := T 0) (j := n) (x := nI i) (w' := wM G a S ((tS T 0 (upd (T 0) n (nI i)))) K Z L ((tS F 6 (nI (n + 1))))) C hH 5 gM_5 (by omega) (by decide) sM_5 dX4_join_123 (fun H locs hH => ?_)
      refine lv_aload_n C.1 C.2.1 dX4_join_124 rfl (lv_at hl 6 rfl) ?_
      refine x_get (C := RX4) (T := TX4) (N := 37) (v := .ref (a 6)) C inX4 hH 0 gM_0 rfl 16 (by decide) rfl rfl 4 rfl dX4_join_125 ?_
      refine lv_iload C.1 C.2.1 dX4_join_128 (lv_at hl 0 rfl) ?_
      refine lv_iload_n C.1 C.2.1 dX4_join_130 rfl (lv_at hl 8 rfl) ?_
      refine x_iast (f := T 1) (j := n) (x := nI j) (w' := wM G a S ((tS ((tS T 0 (upd (T 0) n (nI i)))) 1 (upd (T 1) n (nI j)))) K Z L ((tS F 6 (nI (n + 1))))) C hH 6 gM_6 (by omega) (by decide) sM_6 dX4_join_131 (fun H locs hH => ?_)
      refine lv_aload_n C.1 C.2.1 dX4_join_132 rfl (lv_at hl 6 rfl) ?_
      refine x_get (C := RX4) (T := TX4) (N := 37) (v := .ref (a 7)) C inX4 hH 0 gM_0 rfl 17 (by decide) rfl rfl 5 rfl dX4_join_133 ?_
      refine lv_iload C.1 C.2.1 dX4_join_136 (lv_at hl 0 rfl) ?_
      refine lv_iconst (v := (-1)) C.1 C.2.1 dX4_join_138 (by decide) ?_
      refine x_iast (f := T 2) (j := n) (x := (-1)) (w' := wM G a S ((tS ((tS ((tS T 0 (upd (T 0) n (nI i)))) 1 (upd (T 1) n (nI j)))) 2 (upd (T 2) n ((-1))))) K Z L ((tS F 6 (nI (n + 1))))) C hH 7 gM_7 (by omega) (by decide) sM_7 dX4_join_139 (fun H locs hH => ?_)
      refine lv_aload_n C.1 C.2.1 dX4_join_140 rfl (lv_at hl 6 rfl) ?_
      refine x_get (C := RX4) (T := TX4) (N := 37) (v := .ref (a 7)) C inX4 hH 0 gM_0 rfl 17 (by decide) rfl rfl 5 rfl dX4_join_141 ?_
      refine lv_iload_n C.1 C.2.1 dX4_join_144 rfl (lv_at hl 7 rfl) ?_
      refine lv_iload C.1 C.2.1 dX4_join_145 (lv_at hl 0 rfl) ?_
      refine x_iast (f := upd (T 2) n ((-1))) (j := i) (x := nI n) (w' := wM G a S ((tS ((tS ((tS T 0 (upd (T 0) n (nI i)))) 1 (upd (T 1) n (nI j)))) 2 (upd (upd (T 2) n ((-1))) i (nI n)))) K Z L ((tS F 6 (nI (n + 1))))) C hH 7 gM_7 (by omega) (by decide) sM_7 dX4_join_147 (fun H locs hH => ?_)
      refine lv_aload_n C.1 C.2.1 dX4_join_148 rfl (lv_at hl 6 rfl) ?_
      refine x_get (C := RX4) (T := TX4) (N := 37) (v := .ref (a 7)) C inX4 hH 0 gM_0 rfl 17 (by decide) rfl rfl 5 rfl dX4_join_149 ?_
      refine lv_iload_n C.1 C.2.1 dX4_join_152 rfl (lv_at hl 8 rfl) ?_
      refine lv_iload C.1 C.2.1 dX4_join_153 (lv_at hl 0 rfl) ?_
      refine x_iast (f := upd (upd (T 2) n ((-1))) i (nI n)) (j := j) (x := nI n) (w' := wM G a S ((tS ((tS ((tS T 0 (upd (T 0) n (nI i)))) 1 (upd (T 1) n (nI j)))) 2 (upd (upd (upd (T 2) n ((-1))) i (nI n)) j (nI n)))) K Z L ((tS F 6 (nI (n + 1))))) C hH 7 gM_7 (by omega) (by decide) sM_7 dX4_join_155 (fun H locs hH => ?_)
      refine lv_aload_n C.1 C.2.1 dX4_join_156 rfl (lv_at hl 6 rfl) ?_
      refine x_get (C := RX4) (T := TX4) (N := 37) (v := .ref (a 13)) C inX4 hH 0 gM_0 rfl 23 (by decide) rfl rfl 6 rfl dX4_join_157 ?_
      refine lv_iload_n C.1 C.2.1 dX4_join_160 rfl (lv_at hl 7 rfl) ?_
      refine lv_iload C.1 C.2.1 dX4_join_161 (lv_at hl 2 rfl) ?_
      refine x_iast (f := T 8) (j := i) (x := wA T i j (dist T i j)) (w' := wM G a S ((tS ((tS ((tS ((tS T 0 (upd (T 0) n (nI i)))) 1 (upd (T 1) n (nI j)))) 2 (upd (upd (upd (T 2) n ((-1))) i (nI n)) j (nI n)))) 8 (upd (T 8) i (wA T i j (dist T i j))))) K Z L ((tS F 6 (nI (n + 1))))) C hH 13 gM_13 (by omega) (by decide) sM_13 dX4_join_163 (fun H locs hH => ?_)
      refine lv_aload_n C.1 C.2.1 dX4_join_164 rfl (lv_at hl 6 rfl) ?_
      refine x_get (C := RX4) (T := TX4) (N := 37) (v := .ref (a 13)) C inX4 hH 0 gM_0 rfl 23 (by decide) rfl rfl 6 rfl dX4_join_165 ?_
      refine lv_iload_n C.1 C.2.1 dX4_join_168 rfl (lv_at hl 8 rfl) ?_
      refine lv_iload C.1 C.2.1 dX4_join_169 (lv_at hl 1 rfl) ?_
      refine x_iast (f := upd (T 8) i (wA T i j (dist T i j))) (j := j) (x := wB T i j (dist T i j)) (w' := wM G a S ((tS ((tS ((tS ((tS T 0 (upd (T 0) n (nI i)))) 1 (upd (T 1) n (nI j)))) 2 (upd (upd (upd (T 2) n ((-1))) i (nI n)) j (nI n)))) 8 (upd (upd (T 8) i (wA T i j (dist T i j))) j (wB T i j (dist T i j))))) K Z L ((tS F 6 (nI (n + 1))))) C hH 13 gM_13 (by omega) (by decide) sM_13 dX4_join_171 (fun H locs hH => ?_)
      refine lv_aload_n C.1 C.2.1 dX4_join_172 rfl (lv_at hl 6 rfl) ?_
      refine lv_iload C.1 C.2.1 dX4_join_173 (lv_at hl 0 rfl) ?_
      refine lv_aload_n C.1 C.2.1 dX4_join_175 rfl (lv_at hl 6 rfl) ?_
      refine x_get (C := RX4) (T := TX4) (N := 37) (v := .ref (a 8)) C inX4 hH 0 gM_0 rfl 18 (by decide) rfl rfl 7 rfl dX4_join_176 ?_
      refine lv_iload_n C.1 C.2.1 dX4_join_179 rfl (lv_at hl 7 rfl) ?_
      refine x_iald (f := T 3) (j := i) (v := T 3 i) C hH 8 gM_8 (by omega) (by decide) (rfl) dX4_join_180 ?_
      refine lv_iload C.1 C.2.1 dX4_join_181 (lv_at hl 2 rfl) ?_
      refine lv_isub C.1 C.2.1 dX4_join_183 ?_
      refine lv_aload_n C.1 C.2.1 dX4_join_184 rfl (lv_at hl 6 rfl) ?_
      refine x_get (C := RX4) (T := TX4) (N := 37) (v := .ref (a 8)) C inX4 hH 0 gM_0 rfl 18 (by decide) rfl rfl 7 rfl dX4_join_185 ?_
      refine lv_iload_n C.1 C.2.1 dX4_join_188 rfl (lv_at hl 8 rfl) ?_
      refine x_iald (f := T 3) (j := j) (v := T 3 j) C hH 8 gM_8 (by omega) (by decide) (rfl) dX4_join_189 ?_
      refine lv_iload C.1 C.2.1 dX4_join_190 (lv_at hl 1 rfl) ?_
      refine lv_isub C.1 C.2.1 dX4_join_192 ?_
      refine x_ci (w' := wM G a S ((tS ((tS ((tS ((tS T 0 (upd (T 0) n (nI i)))) 1 (upd (T 1) n (nI j)))) 2 (upd (upd (upd (T 2) n ((-1))) i (nI n)) j (nI n)))) 8 (upd (upd (T 8) i (wA T i j (dist T i j))) j (wB T i j (dist T i j))))) K Z L ((tS F 6 (nI (n + 1))))) (va_runS (As := [.int ((T 3 i) - (wA T i j (dist T i j))), .int ((T 3 j) - (wB T i j (dist T i j)))]) (rest := [.int (nI n), .ref (a 0)]) (x_fix C hml) (c_X4_greater l G a S ((tS ((tS ((tS ((tS T 0 (upd (T 0) n (nI i)))) 1 (upd (T 1) n (nI j)))) 2 (upd (upd (upd (T 2) n ((-1))) i (nI n)) j (nI n)))) 8 (upd (upd (T 8) i (wA T i j (dist T i j))) j (wB T i j (dist T i j))))) K Z L ((tS F 6 (nI (n + 1)))) ((T 3 i) - (wA T i j (dist T i j))) ((T 3 j) - (wB T i j (dist T i j))) _) (cwS 2 C.2.2.2.1 gX4_join_X4_greater rfl rfl rfl (by decide +kernel) ⟨Nat.le_of_ble_eq_true rfl, Nat.le_of_ble_eq_true rfl⟩) (x_ps C hH) rfl rfl hl.1 rfl (lv_room (Nat.le_of_ble_eq_true rfl)) dX4_join_193 ⟨Nat.le_of_ble_eq_true rfl, Nat.le_of_ble_eq_true rfl⟩) hH hA (fun H locs hH => ?_)
      refine lv_aload_n C.1 C.2.1 dX4_join_196 rfl (lv_at hl 6 rfl) ?_
      refine x_get (C := RX4) (T := TX4) (N := 37) (v := .ref (a 9)) C inX4 hH 0 gM_0 rfl 19 (by decide) rfl rfl 8 rfl dX4_join_197 ?_
      refine lv_iload_n C.1 C.2.1 dX4_join_200 rfl (lv_at hl 7 rfl) ?_
      refine x_iald (f := T 4) (j := i) (v := T 4 i) C hH 9 gM_9 (by omega) (by decide) (rfl) dX4_join_201 ?_
      refine lv_iload C.1 C.2.1 dX4_join_202 (lv_at hl 2 rfl) ?_
      refine lv_iadd C.1 C.2.1 dX4_join_204 ?_
      refine lv_aload_n C.1 C.2.1 dX4_join_205 rfl (lv_at hl 6 rfl) ?_
      refine x_get (C := RX4) (T := TX4) (N := 37) (v := .ref (a 9)) C inX4 hH 0 gM_0 rfl 19 (by decide) rfl rfl 8 rfl dX4_join_206 ?_
      refine lv_iload_n C.1 C.2.1 dX4_join_209 rfl (lv_at hl 8 rfl) ?_
      refine x_iald (f := T 4) (j := j) (v := T 4 j) C hH 9 gM_9 (by omega) (by decide) (rfl) dX4_join_210 ?_
      refine lv_iload C.1 C.2.1 dX4_join_211 (lv_at hl 1 rfl) ?_
      refine lv_iadd C.1 C.2.1 dX4_join_213 ?_
      refine x_ci (w' := wM G a S ((tS ((tS ((tS ((tS T 0 (upd (T 0) n (nI i)))) 1 (upd (T 1) n (nI j)))) 2 (upd (upd (upd (T 2) n ((-1))) i (nI n)) j (nI n)))) 8 (upd (upd (T 8) i (wA T i j (dist T i j))) j (wB T i j (dist T i j))))) K Z L ((tS F 6 (nI (n + 1))))) (va_runS (As := [.int ((T 4 i) + (wA T i j (dist T i j))), .int ((T 4 j) + (wB T i j (dist T i j)))]) (rest := [.int (imax ((T 3 i) - (wA T i j (dist T i j))) ((T 3 j) - (wB T i j (dist T i j)))), .int (nI n), .ref (a 0)]) (x_fix C hml) (c_X4_lesser l G a S ((tS ((tS ((tS ((tS T 0 (upd (T 0) n (nI i)))) 1 (upd (T 1) n (nI j)))) 2 (upd (upd (upd (T 2) n ((-1))) i (nI n)) j (nI n)))) 8 (upd (upd (T 8) i (wA T i j (dist T i j))) j (wB T i j (dist T i j))))) K Z L ((tS F 6 (nI (n + 1)))) ((T 4 i) + (wA T i j (dist T i j))) ((T 4 j) + (wB T i j (dist T i j))) _) (cwS 2 C.2.2.2.1 gX4_join_X4_lesser rfl rfl rfl (by decide +kernel) ⟨Nat.le_of_ble_eq_true rfl, Nat.le_of_ble_eq_true rfl⟩) (x_ps C hH) rfl rfl hl.1 rfl (lv_room (Nat.le_of_ble_eq_true rfl)) dX4_join_214 ⟨Nat.le_of_ble_eq_true rfl, Nat.le_of_ble_eq_true rfl⟩) hH hA (fun H locs hH => ?_)
      refine lv_aload_n C.1 C.2.1 dX4_join_217 rfl (lv_at hl 6 rfl) ?_
      refine x_get (C := RX4) (T := TX4) (N := 37) (v := .ref (a 10)) C inX4 hH 0 gM_0 rfl 20 (by decide) rfl rfl 9 rfl dX4_join_218 ?_
      refine lv_iload_n C.1 C.2.1 dX4_join_221 rfl (lv_at hl 7 rfl) ?_
      refine x_iald (f := T 5) (j := i) (v := T 5 i) C hH 10 gM_10 (by omega) (by decide) (rfl) dX4_join_222 ?_
      refine lv_iload C.1 C.2.1 dX4_join_223 (lv_at hl 2 rfl) ?_
      refine lv_isub C.1 C.2.1 dX4_join_225 ?_
      refine lv_aload_n C.1 C.2.1 dX4_join_226 rfl (lv_at hl 6 rfl) ?_
      refine x_get (C := RX4) (T := TX4) (N := 37) (v := .ref (a 10)) C inX4 hH 0 gM_0 rfl 20 (by decide) rfl rfl 9 rfl dX4_join_227 ?_
      refine lv_iload_n C.1 C.2.1 dX4_join_230 rfl (lv_at hl 8 rfl) ?_
      refine x_iald (f := T 5) (j := j) (v := T 5 j) C hH 10 gM_10 (by omega) (by decide) (rfl) dX4_join_231 ?_
      refine lv_iload C.1 C.2.1 dX4_join_232 (lv_at hl 1 rfl) ?_
      refine lv_isub C.1 C.2.1 dX4_join_234 ?_
      refine x_ci (w' := wM G a S ((tS ((tS ((tS ((tS T 0 (upd (T 0) n (nI i)))) 1 (upd (T 1) n (nI j)))) 2 (upd (upd (upd (T 2) n ((-1))) i (nI n)) j (nI n)))) 8 (upd (upd (T 8) i (wA T i j (dist T i j))) j (wB T i j (dist T i j))))) K Z L ((tS F 6 (nI (n + 1))))) (va_runS (As := [.int ((T 5 i) - (wA T i j (dist T i j))), .int ((T 5 j) - (wB T i j (dist T i j)))]) (rest := [.int (imin ((T 4 i) + (wA T i j (dist T i j))) ((T 4 j) + (wB T i j (dist T i j)))), .int (imax ((T 3 i) - (wA T i j (dist T i j))) ((T 3 j) - (wB T i j (dist T i j)))), .int (nI n), .ref (a 0)]) (x_fix C hml) (c_X4_greater l G a S ((tS ((tS ((tS ((tS T 0 (upd (T 0) n (nI i)))) 1 (upd (T 1) n (nI j)))) 2 (upd (upd (upd (T 2) n ((-1))) i (nI n)) j (nI n)))) 8 (upd (upd (T 8) i (wA T i j (dist T i j))) j (wB T i j (dist T i j))))) K Z L ((tS F 6 (nI (n + 1)))) ((T 5 i) - (wA T i j (dist T i j))) ((T 5 j) - (wB T i j (dist T i j))) _) (cwS 2 C.2.2.2.1 gX4_join_X4_greater rfl rfl rfl (by decide +kernel) ⟨Nat.le_of_ble_eq_true rfl, Nat.le_of_ble_eq_true rfl⟩) (x_ps C hH) rfl rfl hl.1 rfl (lv_room (Nat.le_of_ble_eq_true rfl)) dX4_join_235 ⟨Nat.le_of_ble_eq_true rfl, Nat.le_of_ble_eq_true rfl⟩) hH hA (fun H locs hH => ?_)
      refine lv_aload_n C.1 C.2.1 dX4_join_238 rfl (lv_at hl 6 rfl) ?_
      refine x_get (C := RX4) (T := TX4) (N := 37) (v := .ref (a 11)) C inX4 hH 0 gM_0 rfl 21 (by decide) rfl rfl 10 rfl dX4_join_239 ?_
      refine lv_iload_n C.1 C.2.1 dX4_join_242 rfl (lv_at hl 7 rfl) ?_
      refine x_iald (f := T 6) (j := i) (v := T 6 i) C hH 11 gM_11 (by omega) (by decide) (rfl) dX4_join_243 ?_
      refine lv_iload C.1 C.2.1 dX4_join_244 (lv_at hl 2 rfl) ?_
      refine lv_iadd C.1 C.2.1 dX4_join_246 ?_
      refine lv_aload_n C.1 C.2.1 dX4_join_247 rfl (lv_at hl 6 rfl) ?_
      refine x_get (C := RX4) (T := TX4) (N := 37) (v := .ref (a 11)) C inX4 hH 0 gM_0 rfl 21 (by decide) rfl rfl 10 rfl dX4_join_248 ?_
      refine lv_iload_n C.1 C.2.1 dX4_join_251 rfl (lv_at hl 8 rfl) ?_
      refine x_iald (f := T 6) (j := j) (v := T 6 j) C hH 11 gM_11 (by omega) (by decide) (rfl) dX4_join_252 ?_
      refine lv_iload C.1 C.2.1 dX4_join_253 (lv_at hl 1 rfl) ?_
      refine lv_iadd C.1 C.2.1 dX4_join_255 ?_
      refine x_ci (w' := wM G a S ((tS ((tS ((tS ((tS T 0 (upd (T 0) n (nI i)))) 1 (upd (T 1) n (nI j)))) 2 (upd (upd (upd (T 2) n ((-1))) i (nI n)) j (nI n)))) 8 (upd (upd (T 8) i (wA T i j (dist T i j))) j (wB T i j (dist T i j))))) K Z L ((tS F 6 (nI (n + 1))))) (va_runS (As := [.int ((T 6 i) + (wA T i j (dist T i j))), .int ((T 6 j) + (wB T i j (dist T i j)))]) (rest := [.int (imax ((T 5 i) - (wA T i j (dist T i j))) ((T 5 j) - (wB T i j (dist T i j)))), .int (imin ((T 4 i) + (wA T i j (dist T i j))) ((T 4 j) + (wB T i j (dist T i j)))), .int (imax ((T 3 i) - (wA T i j (dist T i j))) ((T 3 j) - (wB T i j (dist T i j)))), .int (nI n), .ref (a 0)]) (x_fix C hml) (c_X4_lesser l G a S ((tS ((tS ((tS ((tS T 0 (upd (T 0) n (nI i)))) 1 (upd (T 1) n (nI j)))) 2 (upd (upd (upd (T 2) n ((-1))) i (nI n)) j (nI n)))) 8 (upd (upd (T 8) i (wA T i j (dist T i j))) j (wB T i j (dist T i j))))) K Z L ((tS F 6 (nI (n + 1)))) ((T 6 i) + (wA T i j (dist T i j))) ((T 6 j) + (wB T i j (dist T i j))) _) (cwS 2 C.2.2.2.1 gX4_join_X4_lesser rfl rfl rfl (by decide +kernel) ⟨Nat.le_of_ble_eq_true rfl, Nat.le_of_ble_eq_true rfl⟩) (x_ps C hH) rfl rfl hl.1 rfl (lv_room (Nat.le_of_ble_eq_true rfl)) dX4_join_256 ⟨Nat.le_of_ble_eq_true rfl, Nat.le_of_ble_eq_true rfl⟩) hH hA (fun H locs hH => ?_)
      refine x_cv (w' := wM G a S ((tS ((tS ((tS ((tS ((tS ((tS ((tS ((tS T 0 (upd (T 0) n (nI i)))) 1 (upd (T 1) n (nI j)))) 2 (upd (upd (upd (T 2) n ((-1))) i (nI n)) j (nI n)))) 8 (upd (upd (T 8) i (wA T i j (dist T i j))) j (wB T i j (dist T i j))))) 3 (upd (T 3) n (imax ((T 3 i) - (wA T i j (dist T i j))) ((T 3 j) - (wB T i j (dist T i j))))))) 4 (upd (T 4) n (imin ((T 4 i) + (wA T i j (dist T i j))) ((T 4 j) + (wB T i j (dist T i j))))))) 5 (upd (T 5) n (imax ((T 5 i) - (wA T i j (dist T i j))) ((T 5 j) - (wB T i j (dist T i j))))))) 6 (upd (T 6) n (imin ((T 6 i) + (wA T i j (dist T i j))) ((T 6 j) + (wB T i j (dist T i j))))))) K Z L ((tS F 6 (nI (n + 1))))) (va_runV (As := [.int (nI n), .int (imax ((T 3 i) - (wA T i j (dist T i j))) ((T 3 j) - (wB T i j (dist T i j)))), .int (imin ((T 4 i) + (wA T i j (dist T i j))) ((T 4 j) + (wB T i j (dist T i j)))), .int (imax ((T 5 i) - (wA T i j (dist T i j))) ((T 5 j) - (wB T i j (dist T i j)))), .int (imin ((T 6 i) + (wA T i j (dist T i j))) ((T 6 j) + (wB T i j (dist T i j))))]) (rest := []) (x_fix C hml) (c_X4_place l G a S ((tS ((tS ((tS ((tS T 0 (upd (T 0) n (nI i)))) 1 (upd (T 1) n (nI j)))) 2 (upd (upd (upd (T 2) n ((-1))) i (nI n)) j (nI n)))) 8 (upd (upd (T 8) i (wA T i j (dist T i j))) j (wB T i j (dist T i j))))) K Z L ((tS F 6 (nI (n + 1)))) n (imax ((T 3 i) - (wA T i j (dist T i j))) ((T 3 j) - (wB T i j (dist T i j)))) (imin ((T 4 i) + (wA T i j (dist T i j))) ((T 4 j) + (wB T i j (dist T i j)))) (imax ((T 5 i) - (wA T i j (dist T i j))) ((T 5 j) - (wB T i j (dist T i j)))) (imin ((T 6 i) + (wA T i j (dist T i j))) ((T 6 j) + (wB T i j (dist T i j)))) (by omega) _) (cwV 5 C.2.2.2.1 gX4_join_X4_place rfl rfl rfl (by decide +kernel) ⟨Nat.le_of_ble_eq_true rfl, Nat.le_of_ble_eq_true rfl⟩) (x_pv C hH rfl gM_0 rfl rfl) rfl rfl hl.1 rfl (lv_room (Nat.le_of_ble_eq_true rfl)) dX4_join_259 ⟨Nat.le_of_ble_eq_true rfl, Nat.le_of_ble_eq_true rfl⟩) hH hA (fun H locs hH => ?_)
      refine lv_aload_n C.1 C.2.1 dX4_join_262 rfl (lv_at hl 6 rfl) ?_
      refine x_get (C := RX4) (T := TX4) (N := 37) (v := .ref (a 12)) C inX4 hH 0 gM_0 rfl 22 (by decide) rfl rfl 1 rfl dX4_join_263 ?_
      refine lv_iload C.1 C.2.1 dX4_join_266 (lv_at hl 0 rfl) ?_
      refine lv_iload C.1 C.2.1 dX4_join_268 (lv_at hl 4 rfl) ?_
      refine lv_iload C.1 C.2.1 dX4_join_270 (lv_at hl 2 rfl) ?_
      refine lv_iadd C.1 C.2.1 dX4_join_272 ?_
      refine x_iast (f := T 7) (j := n) (x := (T 7 i) + (wA T i j (dist T i j))) (w' := wM G a S ((tS ((tS ((tS ((tS ((tS ((tS ((tS ((tS ((tS T 0 (upd (T 0) n (nI i)))) 1 (upd (T 1) n (nI j)))) 2 (upd (upd (upd (T 2) n ((-1))) i (nI n)) j (nI n)))) 8 (upd (upd (T 8) i (wA T i j (dist T i j))) j (wB T i j (dist T i j))))) 3 (upd (T 3) n (imax ((T 3 i) - (wA T i j (dist T i j))) ((T 3 j) - (wB T i j (dist T i j))))))) 4 (upd (T 4) n (imin ((T 4 i) + (wA T i j (dist T i j))) ((T 4 j) + (wB T i j (dist T i j))))))) 5 (upd (T 5) n (imax ((T 5 i) - (wA T i j (dist T i j))) ((T 5 j) - (wB T i j (dist T i j))))))) 6 (upd (T 6) n (imin ((T 6 i) + (wA T i j (dist T i j))) ((T 6 j) + (wB T i j (dist T i j))))))) 7 (upd (T 7) n ((T 7 i) + (wA T i j (dist T i j)))))) K Z L ((tS F 6 (nI (n + 1))))) C hH 12 gM_12 (by omega) (by decide) sM_12 dX4_join_273 (fun H locs hH => ?_)
      refine lv_aload_n C.1 C.2.1 dX4_join_274 rfl (lv_at hl 6 rfl) ?_
      refine x_get (C := RX4) (T := TX4) (N := 37) (v := .ref (a 17)) C inX4 hH 0 gM_0 rfl 27 (by decide) rfl rfl 11 rfl dX4_join_275 ?_
      refine lv_iload_n C.1 C.2.1 dX4_join_278 rfl (lv_at hl 7 rfl) ?_
      refine lv_iconst (v := nI 1) C.1 C.2.1 dX4_join_279 (by decide) ?_
      refine x_zast (f := Z 1) (j := i) (x := nI 1) (w' := wM G a S ((tS ((tS ((tS ((tS ((tS ((tS ((tS ((tS ((tS T 0 (upd (T 0) n (nI i)))) 1 (upd (T 1) n (nI j)))) 2 (upd (upd (upd (T 2) n ((-1))) i (nI n)) j (nI n)))) 8 (upd (upd (T 8) i (wA T i j (dist T i j))) j (wB T i j (dist T i j))))) 3 (upd (T 3) n (imax ((T 3 i) - (wA T i j (dist T i j))) ((T 3 j) - (wB T i j (dist T i j))))))) 4 (upd (T 4) n (imin ((T 4 i) + (wA T i j (dist T i j))) ((T 4 j) + (wB T i j (dist T i j))))))) 5 (upd (T 5) n (imax ((T 5 i) - (wA T i j (dist T i j))) ((T 5 j) - (wB T i j (dist T i j))))))) 6 (upd (T 6) n (imin ((T 6 i) + (wA T i j (dist T i j))) ((T 6 j) + (wB T i j (dist T i j))))))) 7 (upd (T 7) n ((T 7 i) + (wA T i j (dist T i j)))))) K ((tS Z 1 (upd (Z 1) i (nI 1)))) L ((tS F 6 (nI (n + 1))))) C hH 17 gM_17 (by omega) (by decide) (by decide) sM_17 dX4_join_280 (fun H locs hH => ?_)
      refine lv_aload_n C.1 C.2.1 dX4_join_281 rfl (lv_at hl 6 rfl) ?_
      refine x_get (C := RX4) (T := TX4) (N := 37) (v := .ref (a 17)) C inX4 hH 0 gM_0 rfl 27 (by decide) rfl rfl 11 rfl dX4_join_282 ?_
      refine lv_iload_n C.1 C.2.1 dX4_join_285 rfl (lv_at hl 8 rfl) ?_
      refine lv_iconst (v := nI 1) C.1 C.2.1 dX4_join_286 (by decide) ?_
      refine x_zast (f := upd (Z 1) i (nI 1)) (j := j) (x := nI 1) (w' := wM G a S ((tS ((tS ((tS ((tS ((tS ((tS ((tS ((tS ((tS T 0 (upd (T 0) n (nI i)))) 1 (upd (T 1) n (nI j)))) 2 (upd (upd (upd (T 2) n ((-1))) i (nI n)) j (nI n)))) 8 (upd (upd (T 8) i (wA T i j (dist T i j))) j (wB T i j (dist T i j))))) 3 (upd (T 3) n (imax ((T 3 i) - (wA T i j (dist T i j))) ((T 3 j) - (wB T i j (dist T i j))))))) 4 (upd (T 4) n (imin ((T 4 i) + (wA T i j (dist T i j))) ((T 4 j) + (wB T i j (dist T i j))))))) 5 (upd (T 5) n (imax ((T 5 i) - (wA T i j (dist T i j))) ((T 5 j) - (wB T i j (dist T i j))))))) 6 (upd (T 6) n (imin ((T 6 i) + (wA T i j (dist T i j))) ((T 6 j) + (wB T i j (dist T i j))))))) 7 (upd (T 7) n ((T 7 i) + (wA T i j (dist T i j)))))) K ((tS Z 1 (upd (upd (Z 1) i (nI 1)) j (nI 1)))) L ((tS F 6 (nI (n + 1))))) C hH 17 gM_17 (by omega) (by decide) (by decide) sM_17 dX4_join_287 (fun H locs hH => ?_)
      refine lv_aload_n C.1 C.2.1 dX4_join_288 rfl (lv_at hl 6 rfl) ?_
      refine x_get (C := RX4) (T := TX4) (N := 37) (v := .ref (a 17)) C inX4 hH 0 gM_0 rfl 27 (by decide) rfl rfl 11 rfl dX4_join_289 ?_
      refine lv_iload C.1 C.2.1 dX4_join_292 (lv_at hl 0 rfl) ?_
      refine lv_iconst (v := nI 0) C.1 C.2.1 dX4_join_294 (by decide) ?_
      refine x_zast (f := upd (upd (Z 1) i (nI 1)) j (nI 1)) (j := n) (x := nI 0) (w' := wM G a S ((tS ((tS ((tS ((tS ((tS ((tS ((tS ((tS ((tS T 0 (upd (T 0) n (nI i)))) 1 (upd (T 1) n (nI j)))) 2 (upd (upd (upd (T 2) n ((-1))) i (nI n)) j (nI n)))) 8 (upd (upd (T 8) i (wA T i j (dist T i j))) j (wB T i j (dist T i j))))) 3 (upd (T 3) n (imax ((T 3 i) - (wA T i j (dist T i j))) ((T 3 j) - (wB T i j (dist T i j))))))) 4 (upd (T 4) n (imin ((T 4 i) + (wA T i j (dist T i j))) ((T 4 j) + (wB T i j (dist T i j))))))) 5 (upd (T 5) n (imax ((T 5 i) - (wA T i j (dist T i j))) ((T 5 j) - (wB T i j (dist T i j))))))) 6 (upd (T 6) n (imin ((T 6 i) + (wA T i j (dist T i j))) ((T 6 j) + (wB T i j (dist T i j))))))) 7 (upd (T 7) n ((T 7 i) + (wA T i j (dist T i j)))))) K ((tS Z 1 (upd (upd (upd (Z 1) i (nI 1)) j (nI 1)) n (nI 0)))) L ((tS F 6 (nI (n + 1))))) C hH 17 gM_17 (by omega) (by decide) (by decide) sM_17 dX4_join_295 (fun H locs hH => ?_)
      refine lv_aload_n C.1 C.2.1 dX4_join_296 rfl (lv_at hl 6 rfl) ?_
      refine x_get (C := RX4) (T := TX4) (N := 37) (v := .ref (a 16)) C inX4 hH 0 gM_0 rfl 26 (by decide) rfl rfl 12 rfl dX4_join_297 ?_
      refine lv_iload C.1 C.2.1 dX4_join_300 (lv_at hl 0 rfl) ?_
      refine lv_iconst (v := nI 0) C.1 C.2.1 dX4_join_302 (by decide) ?_
      refine x_zast (f := Z 0) (j := n) (x := nI 0) (w' := wM G a S ((tS ((tS ((tS ((tS ((tS ((tS ((tS ((tS ((tS T 0 (upd (T 0) n (nI i)))) 1 (upd (T 1) n (nI j)))) 2 (upd (upd (upd (T 2) n ((-1))) i (nI n)) j (nI n)))) 8 (upd (upd (T 8) i (wA T i j (dist T i j))) j (wB T i j (dist T i j))))) 3 (upd (T 3) n (imax ((T 3 i) - (wA T i j (dist T i j))) ((T 3 j) - (wB T i j (dist T i j))))))) 4 (upd (T 4) n (imin ((T 4 i) + (wA T i j (dist T i j))) ((T 4 j) + (wB T i j (dist T i j))))))) 5 (upd (T 5) n (imax ((T 5 i) - (wA T i j (dist T i j))) ((T 5 j) - (wB T i j (dist T i j))))))) 6 (upd (T 6) n (imin ((T 6 i) + (wA T i j (dist T i j))) ((T 6 j) + (wB T i j (dist T i j))))))) 7 (upd (T 7) n ((T 7 i) + (wA T i j (dist T i j)))))) K ((tS ((tS Z 1 (upd (upd (upd (Z 1) i (nI 1)) j (nI 1)) n (nI 0)))) 0 (upd (Z 0) n (nI 0)))) L ((tS F 6 (nI (n + 1))))) C hH 16 gM_16 (by omega) (by decide) (by decide) sM_16 dX4_join_303 (fun H locs hH => ?_)
      refine lv_iload C.1 C.2.1 dX4_join_304 (lv_at hl 0 rfl) ?_
      have hH := x_eqw (w' := wM G a S (joinT T n i j) K (joinZ Z n i j) L (tS F 6 (nI (n + 1)))) (rfl) hH
      exact hE _ _ _ _ _ hH (rfl) (rfl) dX4_join_306
    · refine lv_icmp_le (tgt := 81) C.1 C.2.1 dX4_join_70 (by decide) (fun c_5 => ?_) (fun c_5 => ?_)
      · refine lv_iload C.1 C.2.1 dX4_join_81 (lv_at hl 1 rfl) ?_
        refine lv_iload_n C.1 C.2.1 dX4_join_83 rfl (lv_at hl 3 rfl) ?_
        refine lv_iload C.1 C.2.1 dX4_join_84 (lv_at hl 2 rfl) ?_
        refine lv_iadd C.1 C.2.1 dX4_join_86 ?_
        refine lv_icmp_le (tgt := 94) C.1 C.2.1 dX4_join_87 (by decide) (fun c_6 => ?_) (fun c_6 => ?_)
        · refine lv_iload_n C.1 C.2.1 dX4_join_94 rfl (lv_at hl 3 rfl) ?_
          refine lv_iload C.1 C.2.1 dX4_join_95 (lv_at hl 0 rfl) ?_
          refine lv_isub C.1 C.2.1 dX4_join_97 ?_
          exact x_toi (by (try simp only [← Int32.not_lt, ← Nat.not_lt, Classical.not_not] at c_5); (try simp only [← Int32.not_lt, ← Nat.not_lt, Classical.not_not] at c_6); simp only [wB, ← Int32.not_lt, c_5, c_6, and_self, and_true, true_and, and_false, false_and, or_true, true_or, or_false, false_or, not_true_eq_false, not_false_eq_true, Classical.not_not, if_true, if_false, reduceIte]) hm_4
        · refine lv_iconst (v := nI 0) C.1 C.2.1 dX4_join_90 (by decide) ?_
          refine lv_goto (tgt := 98) C.1 C.2.1 dX4_join_91 (by decide) ?_
          exact x_toi (by (try simp only [← Int32.not_lt, ← Nat.not_lt, Classical.not_not] at c_5); (try simp only [← Int32.not_lt, ← Nat.not_lt, Classical.not_not] at c_6); simp only [wB, ← Int32.not_lt, c_5, c_6, and_self, and_true, true_and, and_false, false_and, or_true, true_or, or_false, false_or, not_true_eq_false, not_false_eq_true, Classical.not_not, if_true, if_false, reduceIte]) hm_4
      · refine lv_iload C.1 C.2.1 dX4_join_73 (lv_at hl 2 rfl) ?_
        refine lv_iload C.1 C.2.1 dX4_join_75 (lv_at hl 1 rfl) ?_
        refine lv_isub C.1 C.2.1 dX4_join_77 ?_
        refine lv_goto (tgt := 98) C.1 C.2.1 dX4_join_78 (by decide) ?_
        exact x_toi (by (try simp only [← Int32.not_lt, ← Nat.not_lt, Classical.not_not] at c_5); simp only [wB, ← Int32.not_lt, c_5, and_self, and_true, true_and, and_false, false_and, or_true, true_or, or_false, false_or, not_true_eq_false, not_false_eq_true, Classical.not_not, if_true, if_false, reduceIte]) hm_4
  · refine lv_icmp_le (tgt := 36) C.1 C.2.1 dX4_join_29 (by decide) (fun c_7 => ?_) (fun c_7 => ?_)
    · refine lv_iload C.1 C.2.1 dX4_join_36 (lv_at hl 0 rfl) ?_
      refine lv_iload_n C.1 C.2.1 dX4_join_38 rfl (lv_at hl 2 rfl) ?_
      refine lv_iload C.1 C.2.1 dX4_join_39 (lv_at hl 1 rfl) ?_
      refine lv_iadd C.1 C.2.1 dX4_join_41 ?_
      refine lv_icmp_le (tgt := 53) C.1 C.2.1 dX4_join_42 (by decide) (fun c_8 => ?_) (fun c_8 => ?_)
      · refine lv_iload_n C.1 C.2.1 dX4_join_53 rfl (lv_at hl 2 rfl) ?_
        refine lv_iload C.1 C.2.1 dX4_join_54 (lv_at hl 0 rfl) ?_
        refine lv_iadd C.1 C.2.1 dX4_join_56 ?_
        refine lv_iload C.1 C.2.1 dX4_join_57 (lv_at hl 1 rfl) ?_
        refine lv_isub C.1 C.2.1 dX4_join_59 ?_
        refine lv_iconst (v := nI 2) C.1 C.2.1 dX4_join_60 (by decide) ?_
        refine lv_idiv C.1 C.2.1 dX4_join_61 (by decide) ?_
        exact x_toi (by (try simp only [← Int32.not_lt, ← Nat.not_lt, Classical.not_not] at c_7); (try simp only [← Int32.not_lt, ← Nat.not_lt, Classical.not_not] at c_8); simp only [wA, ← Int32.not_lt, c_7, c_8, and_self, and_true, true_and, and_false, false_and, or_true, true_or, or_false, false_or, not_true_eq_false, not_false_eq_true, Classical.not_not, if_true, if_false, reduceIte]) hm_2
      · refine lv_iload C.1 C.2.1 dX4_join_45 (lv_at hl 0 rfl) ?_
        refine lv_iload C.1 C.2.1 dX4_join_47 (lv_at hl 1 rfl) ?_
        refine lv_isub C.1 C.2.1 dX4_join_49 ?_
        refine lv_goto (tgt := 62) C.1 C.2.1 dX4_join_50 (by decide) ?_
        exact x_toi (by (try simp only [← Int32.not_lt, ← Nat.not_lt, Classical.not_not] at c_7); (try simp only [← Int32.not_lt, ← Nat.not_lt, Classical.not_not] at c_8); simp only [wA, ← Int32.not_lt, c_7, c_8, and_self, and_true, true_and, and_false, false_and, or_true, true_or, or_false, false_or, not_true_eq_false, not_false_eq_true, Classical.not_not, if_true, if_false, reduceIte]) hm_2
    · refine lv_iconst (v := nI 0) C.1 C.2.1 dX4_join_32 (by decide) ?_
      refine lv_goto (tgt := 62) C.1 C.2.1 dX4_join_33 (by decide) ?_
      exact x_toi (by (try simp only [← Int32.not_lt, ← Nat.not_lt, Classical.not_not] at c_7); simp only [wA, ← Int32.not_lt, c_7, and_self, and_true, true_and, and_false, false_and, or_true, true_or, or_false, false_or, not_true_eq_false, not_false_eq_true, Classical.not_not, if_true, if_false, reduceIte]) hm_2
set_option maxHeartbeats 400000 in
set_option maxRecDepth 100000 in
theorem c_X4_begin (l : Launch) (G : xG) (a : Nat → Nat) (S T K Z : Nat → Nat → Int32) (L : Nat → Nat → Int64) (F : Nat → Int32) (ct : Nat) (h4 : F 4 = nI ct) (hc : ct ≤ 10) : xMv l yX4_begin wsX4_begin { frames := 1, cells := 0, slots := 0, locals := 25 } [.ref (a 0)] G (wM G a S T K Z L F) (wM G a S (plantF S ct 0 T) K (begF ct 0 Z) L (tS F 6 (nI ct))) 0 0 := by
  refine x_ofv (cc := cX4_begin) (maxL := 4) (by decide) rfl (Nat.le_of_ble_eq_true rfl) ?_
  intro p e s m args below meth c ls A Q C hml hA hH hl hE
  have hl : lv_has ls 4 [(0, .ref (a 0))] := hl
  have inX4 : ∀ w ∈ wsX40, w ∈ wsX4_begin := fun _ h => (List.mem_cons_of_mem _ (List.mem_append_right _ h))
  refine lv_aload_n C.1 C.2.1 dX4_begin_0 rfl (lv_at hl 0 rfl) ?_
  refine lv_aload_n C.1 C.2.1 dX4_begin_1 rfl (lv_at hl 0 rfl) ?_
  refine x_get (C := RX4) (T := TX4) (N := 37) (v := .int (F 4)) C inX4 hH 0 gM_0 rfl 1 (by decide) rfl rfl 1 rfl dX4_begin_2 ?_
  refine x_toi h4 ?_
  refine x_put (C := RX4) (T := TX4) (N := 37) (v := .int (nI ct)) (w' := wM G a S T K Z L ((tS F 6 (nI ct)))) C inX4 tyX4 tyX4_ok nmX4 hH 0 gM_0 rfl 14 (by decide) rfl rfl rfl rfl (Nat.le_of_ble_eq_true rfl) fM_0_14 2 rfl dX4_begin_5 (fun H locs hH => ?_)
  refine lv_iconst (v := nI 0) C.1 C.2.1 dX4_begin_8 (by decide) ?_
  refine lv_istore_n (lv' := [(1, .int (nI 0)), (0, .ref (a 0))]) C.1 C.2.1 dX4_begin_9 rfl hl (by decide) rfl (fun ls hl => ?_)
  have lp : ∀ (n : Nat) (i : Nat) (T1 : Nat → Nat → Int32) (Z1 : Nat → Nat → Int32) (H : Heap) (locs : List Loc) (ls : Array Slot), i + n = ct → plantF S n i T1 = plantF S ct 0 T → begF n i Z1 = begF ct 0 Z → xH G A s.heap H locs (wM G a S T1 K Z1 L ((tS F 6 (nI ct)))) → lv_has ls 4 [(0, .ref (a 0)), (1, .int (nI i))] → W p l e ({ frames := 1, cells := 0, slots := 0, locals := 25 }) s m args below meth c H locs 0 0 Q (F0 m 10 ls []) := by
    intro n
    induction n with
    | zero =>
      intro i T1 Z1 H locs ls hin hf hz hH hl
      refine lv_iload_n C.1 C.2.1 dX4_begin_10 rfl (lv_at hl 1 rfl) ?_
      refine lv_aload_n C.1 C.2.1 dX4_begin_11 rfl (lv_at hl 0 rfl) ?_
      refine x_get (C := RX4) (T := TX4) (N := 37) (v := .int (F 4)) C inX4 hH 0 gM_0 rfl 1 (by decide) rfl rfl 1 rfl dX4_begin_12 ?_
      refine x_toi h4 ?_
      refine lv_icmp_ge (tgt := 111) C.1 C.2.1 dX4_begin_15 (by decide) (fun _ => ?_) (fun c_1 => absurd ((nI_leI (a := ct) (b := i) (by omega) (by omega)).mpr (by omega)) c_1)
      have hH := x_eqw (w' := wM G a S (plantF S ct 0 T) K (begF ct 0 Z) L (tS F 6 (nI ct))) (by rw [← hf, ← hz]; rfl) hH
      exact hE _ _ _ _ hH dX4_begin_111
    | succ n ih10 =>
      intro i T1 Z1 H locs ls hin hf hz hH hl
      refine lv_iload_n C.1 C.2.1 dX4_begin_10 rfl (lv_at hl 1 rfl) ?_
      refine lv_aload_n C.1 C.2.1 dX4_begin_11 rfl (lv_at hl 0 rfl) ?_
      refine x_get (C := RX4) (T := TX4) (N := 37) (v := .int (F 4)) C inX4 hH 0 gM_0 rfl 1 (by decide) rfl rfl 1 rfl dX4_begin_12 ?_
      refine x_toi h4 ?_
      refine lv_icmp_ge (tgt := 111) C.1 C.2.1 dX4_begin_15 (by decide) (fun c_2 => absurd ((nI_leI (a := ct) (b := i) (by omega) (by omega)).mp c_2) (by omega)) (fun _ => ?_)
      refine lv_sipush (v := nI 1024) C.1 C.2.1 dX4_begin_18 (by decide) ?_
      refine lv_aload_n C.1 C.2.1 dX4_begin_21 rfl (lv_at hl 0 rfl) ?_
      refine x_get (C := RX4) (T := TX4) (N := 37) (v := .ref (a 1)) C inX4 hH 0 gM_0 rfl 2 (by decide) rfl rfl 3 rfl dX4_begin_22 ?_
      refine lv_iload_n C.1 C.2.1 dX4_begin_25 rfl (lv_at hl 1 rfl) ?_
      refine x_iald (f := S 0) (j := i) (v := S 0 i) C hH 1 gM_1 (by omega) (by decide) (rfl) dX4_begin_26 ?_
      refine lv_aload_n C.1 C.2.1 dX4_begin_27 rfl (lv_at hl 0 rfl) ?_
      refine x_get (C := RX4) (T := TX4) (N := 37) (v := .ref (a 2)) C inX4 hH 0 gM_0 rfl 3 (by decide) rfl rfl 4 rfl dX4_begin_28 ?_
      refine lv_iload_n C.1 C.2.1 dX4_begin_31 rfl (lv_at hl 1 rfl) ?_
      refine x_iald (f := S 1) (j := i) (v := S 1 i) C hH 2 gM_2 (by omega) (by decide) (rfl) dX4_begin_32 ?_
      refine lv_iadd C.1 C.2.1 dX4_begin_33 ?_
      refine lv_imul C.1 C.2.1 dX4_begin_34 ?_
      refine lv_istore_n (lv' := [(2, .int ((nI 1024) * ((S 0 i) + (S 1 i)))), (0, .ref (a 0)), (1, .int (nI i))]) C.1 C.2.1 dX4_begin_35 rfl hl (by decide) rfl (fun ls hl => ?_)
      refine lv_sipush (v := nI 1024) C.1 C.2.1 dX4_begin_36 (by decide) ?_
      refine lv_aload_n C.1 C.2.1 dX4_begin_39 rfl (lv_at hl 1 rfl) ?_
      refine x_get (C := RX4) (T := TX4) (N := 37) (v := .ref (a 1)) C inX4 hH 0 gM_0 rfl 2 (by decide) rfl rfl 3 rfl dX4_begin_40 ?_
      refine lv_iload_n C.1 C.2.1 dX4_begin_43 rfl (lv_at hl 2 rfl) ?_
      refine x_iald (f := S 0) (j := i) (v := S 0 i) C hH 1 gM_1 (by omega) (by decide) (rfl) dX4_begin_44 ?_
      refine lv_aload_n C.1 C.2.1 dX4_begin_45 rfl (lv_at hl 1 rfl) ?_
      refine x_get (C := RX4) (T := TX4) (N := 37) (v := .ref (a 2)) C inX4 hH 0 gM_0 rfl 3 (by decide) rfl rfl 4 rfl dX4_begin_46 ?_
      refine lv_iload_n C.1 C.2.1 dX4_begin_49 rfl (lv_at hl 2 rfl) ?_
      refine x_iald (f := S 1) (j := i) (v := S 1 i) C hH 2 gM_2 (by omega) (by decide) (rfl) dX4_begin_50 ?_
      refine lv_isub C.1 C.2.1 dX4_begin_51 ?_
      refine lv_imul C.1 C.2.1 dX4_begin_52 ?_
      refine lv_istore_n (lv' := [(3, .int ((nI 1024) * ((S 0 i) - (S 1 i)))), (2, .int ((nI 1024) * ((S 0 i) + (S 1 i)))), (0, .ref (a 0)), (1, .int (nI i))]) C.1 C.2.1 dX4_begin_53 rfl hl (by decide) rfl (fun ls hl => ?_)
      refine lv_aload_n C.1 C.2.1 dX4_begin_54 rfl (lv_at hl 2 rfl) ?_
      refine lv_iload_n C.1 C.2.1 dX4_begin_55 rfl (lv_at hl 3 rfl) ?_
      refine lv_iload_n C.1 C.2.1 dX4_begin_56 rfl (lv_at hl 1 rfl) ?_
      refine lv_iload_n C.1 C.2.1 dX4_begin_57 rfl (lv_at hl 1 rfl) ?_
      refine lv_iload_n C.1 C.2.1 dX4_begin_58 rfl (lv_at hl 0 rfl) ?_
      refine lv_iload_n C.1 C.2.1 dX4_begin_59 rfl (lv_at hl 0 rfl) ?_
      refine x_cv (w' := wM G a S ((tS ((tS ((tS ((tS T1 3 (upd (T1 3) i ((nI 1024) * ((S 0 i) + (S 1 i)))))) 4 (upd (T1 4) i ((nI 1024) * ((S 0 i) + (S 1 i)))))) 5 (upd (T1 5) i ((nI 1024) * ((S 0 i) - (S 1 i)))))) 6 (upd (T1 6) i ((nI 1024) * ((S 0 i) - (S 1 i)))))) K Z1 L ((tS F 6 (nI ct)))) (va_runV (As := [.int (nI i), .int ((nI 1024) * ((S 0 i) + (S 1 i))), .int ((nI 1024) * ((S 0 i) + (S 1 i))), .int ((nI 1024) * ((S 0 i) - (S 1 i))), .int ((nI 1024) * ((S 0 i) - (S 1 i)))]) (rest := []) (x_fix C hml) (c_X4_place l G a S T1 K Z1 L ((tS F 6 (nI ct))) i ((nI 1024) * ((S 0 i) + (S 1 i))) ((nI 1024) * ((S 0 i) + (S 1 i))) ((nI 1024) * ((S 0 i) - (S 1 i))) ((nI 1024) * ((S 0 i) - (S 1 i))) (by omega) _) (cwV 5 C.2.2.2.1 gX4_begin_X4_place rfl rfl rfl (by decide +kernel) ⟨Nat.le_of_ble_eq_true rfl, Nat.le_of_ble_eq_true rfl⟩) (x_pv C hH rfl gM_0 rfl rfl) rfl rfl hl.1 rfl (lv_room (Nat.le_of_ble_eq_true rfl)) dX4_begin_60 ⟨Nat.le_of_ble_eq_true rfl, Nat.le_of_ble_eq_true rfl⟩) hH hA (fun H locs hH => ?_)
      refine lv_aload_n C.1 C.2.1 dX4_begin_63 rfl (lv_at hl 2 rfl) ?_
      refine x_get (C := RX4) (T := TX4) (N := 37) (v := .ref (a 5)) C inX4 hH 0 gM_0 rfl 15 (by decide) rfl rfl 5 rfl dX4_begin_64 ?_
      refine lv_iload_n C.1 C.2.1 dX4_begin_67 rfl (lv_at hl 3 rfl) ?_
      refine lv_iconst (v := (-1)) C.1 C.2.1 dX4_begin_68 (by decide) ?_
      refine x_iast (f := T1 0) (j := i) (x := (-1)) (w' := wM G a S ((tS ((tS ((tS ((tS ((tS T1 3 (upd (T1 3) i ((nI 1024) * ((S 0 i) + (S 1 i)))))) 4 (upd (T1 4) i ((nI 1024) * ((S 0 i) + (S 1 i)))))) 5 (upd (T1 5) i ((nI 1024) * ((S 0 i) - (S 1 i)))))) 6 (upd (T1 6) i ((nI 1024) * ((S 0 i) - (S 1 i)))))) 0 (upd (T1 0) i ((-1))))) K Z1 L ((tS F 6 (nI ct)))) C hH 5 gM_5 (by omega) (by decide) sM_5 dX4_begin_69 (fun H locs hH => ?_)
      refine lv_aload_n C.1 C.2.1 dX4_begin_70 rfl (lv_at hl 2 rfl) ?_
      refine x_get (C := RX4) (T := TX4) (N := 37) (v := .ref (a 6)) C inX4 hH 0 gM_0 rfl 16 (by decide) rfl rfl 6 rfl dX4_begin_71 ?_
      refine lv_iload_n C.1 C.2.1 dX4_begin_74 rfl (lv_at hl 3 rfl) ?_
      refine lv_iconst (v := (-1)) C.1 C.2.1 dX4_begin_75 (by decide) ?_
      refine x_iast (f := T1 1) (j := i) (x := (-1)) (w' := wM G a S ((tS ((tS ((tS ((tS ((tS ((tS T1 3 (upd (T1 3) i ((nI 1024) * ((S 0 i) + (S 1 i)))))) 4 (upd (T1 4) i ((nI 1024) * ((S 0 i) + (S 1 i)))))) 5 (upd (T1 5) i ((nI 1024) * ((S 0 i) - (S 1 i)))))) 6 (upd (T1 6) i ((nI 1024) * ((S 0 i) - (S 1 i)))))) 0 (upd (T1 0) i ((-1))))) 1 (upd (T1 1) i ((-1))))) K Z1 L ((tS F 6 (nI ct)))) C hH 6 gM_6 (by omega) (by decide) sM_6 dX4_begin_76 (fun H locs hH => ?_)
      refine lv_aload_n C.1 C.2.1 dX4_begin_77 rfl (lv_at hl 2 rfl) ?_
      refine x_get (C := RX4) (T := TX4) (N := 37) (v := .ref (a 7)) C inX4 hH 0 gM_0 rfl 17 (by decide) rfl rfl 7 rfl dX4_begin_78 ?_
      refine lv_iload_n C.1 C.2.1 dX4_begin_81 rfl (lv_at hl 3 rfl) ?_
      refine lv_iconst (v := (-1)) C.1 C.2.1 dX4_begin_82 (by decide) ?_
      refine x_iast (f := T1 2) (j := i) (x := (-1)) (w' := wM G a S ((tS ((tS ((tS ((tS ((tS ((tS ((tS T1 3 (upd (T1 3) i ((nI 1024) * ((S 0 i) + (S 1 i)))))) 4 (upd (T1 4) i ((nI 1024) * ((S 0 i) + (S 1 i)))))) 5 (upd (T1 5) i ((nI 1024) * ((S 0 i) - (S 1 i)))))) 6 (upd (T1 6) i ((nI 1024) * ((S 0 i) - (S 1 i)))))) 0 (upd (T1 0) i ((-1))))) 1 (upd (T1 1) i ((-1))))) 2 (upd (T1 2) i ((-1))))) K Z1 L ((tS F 6 (nI ct)))) C hH 7 gM_7 (by omega) (by decide) sM_7 dX4_begin_83 (fun H locs hH => ?_)
      refine lv_aload_n C.1 C.2.1 dX4_begin_84 rfl (lv_at hl 2 rfl) ?_
      refine x_get (C := RX4) (T := TX4) (N := 37) (v := .ref (a 12)) C inX4 hH 0 gM_0 rfl 22 (by decide) rfl rfl 8 rfl dX4_begin_85 ?_
      refine lv_iload_n C.1 C.2.1 dX4_begin_88 rfl (lv_at hl 3 rfl) ?_
      refine lv_iconst (v := nI 0) C.1 C.2.1 dX4_begin_89 (by decide) ?_
      refine x_iast (f := T1 7) (j := i) (x := nI 0) (w' := wM G a S ((tS ((tS ((tS ((tS ((tS ((tS ((tS ((tS T1 3 (upd (T1 3) i ((nI 1024) * ((S 0 i) + (S 1 i)))))) 4 (upd (T1 4) i ((nI 1024) * ((S 0 i) + (S 1 i)))))) 5 (upd (T1 5) i ((nI 1024) * ((S 0 i) - (S 1 i)))))) 6 (upd (T1 6) i ((nI 1024) * ((S 0 i) - (S 1 i)))))) 0 (upd (T1 0) i ((-1))))) 1 (upd (T1 1) i ((-1))))) 2 (upd (T1 2) i ((-1))))) 7 (upd (T1 7) i (nI 0)))) K Z1 L ((tS F 6 (nI ct)))) C hH 12 gM_12 (by omega) (by decide) sM_12 dX4_begin_90 (fun H locs hH => ?_)
      refine lv_aload_n C.1 C.2.1 dX4_begin_91 rfl (lv_at hl 2 rfl) ?_
      refine x_get (C := RX4) (T := TX4) (N := 37) (v := .ref (a 17)) C inX4 hH 0 gM_0 rfl 27 (by decide) rfl rfl 9 rfl dX4_begin_92 ?_
      refine lv_iload_n C.1 C.2.1 dX4_begin_95 rfl (lv_at hl 3 rfl) ?_
      refine lv_iconst (v := nI 0) C.1 C.2.1 dX4_begin_96 (by decide) ?_
      refine x_zast (f := Z1 1) (j := i) (x := nI 0) (w' := wM G a S ((tS ((tS ((tS ((tS ((tS ((tS ((tS ((tS T1 3 (upd (T1 3) i ((nI 1024) * ((S 0 i) + (S 1 i)))))) 4 (upd (T1 4) i ((nI 1024) * ((S 0 i) + (S 1 i)))))) 5 (upd (T1 5) i ((nI 1024) * ((S 0 i) - (S 1 i)))))) 6 (upd (T1 6) i ((nI 1024) * ((S 0 i) - (S 1 i)))))) 0 (upd (T1 0) i ((-1))))) 1 (upd (T1 1) i ((-1))))) 2 (upd (T1 2) i ((-1))))) 7 (upd (T1 7) i (nI 0)))) K ((tS Z1 1 (upd (Z1 1) i (nI 0)))) L ((tS F 6 (nI ct)))) C hH 17 gM_17 (by omega) (by decide) (by decide) sM_17 dX4_begin_97 (fun H locs hH => ?_)
      refine lv_aload_n C.1 C.2.1 dX4_begin_98 rfl (lv_at hl 2 rfl) ?_
      refine x_get (C := RX4) (T := TX4) (N := 37) (v := .ref (a 16)) C inX4 hH 0 gM_0 rfl 26 (by decide) rfl rfl 10 rfl dX4_begin_99 ?_
      refine lv_iload_n C.1 C.2.1 dX4_begin_102 rfl (lv_at hl 3 rfl) ?_
      refine lv_iconst (v := nI 0) C.1 C.2.1 dX4_begin_103 (by decide) ?_
      refine x_zast (f := Z1 0) (j := i) (x := nI 0) (w' := wM G a S ((tS ((tS ((tS ((tS ((tS ((tS ((tS ((tS T1 3 (upd (T1 3) i ((nI 1024) * ((S 0 i) + (S 1 i)))))) 4 (upd (T1 4) i ((nI 1024) * ((S 0 i) + (S 1 i)))))) 5 (upd (T1 5) i ((nI 1024) * ((S 0 i) - (S 1 i)))))) 6 (upd (T1 6) i ((nI 1024) * ((S 0 i) - (S 1 i)))))) 0 (upd (T1 0) i ((-1))))) 1 (upd (T1 1) i ((-1))))) 2 (upd (T1 2) i ((-1))))) 7 (upd (T1 7) i (nI 0)))) K ((tS ((tS Z1 1 (upd (Z1 1) i (nI 0)))) 0 (upd (Z1 0) i (nI 0)))) L ((tS F 6 (nI ct)))) C hH 16 gM_16 (by omega) (by decide) (by decide) sM_16 dX4_begin_104 (fun H locs hH => ?_)
      refine lv_iinc (v := nI (i + 1)) (lv' := [(1, .int (nI (i + 1))), (3, .int ((nI 1024) * ((S 0 i) - (S 1 i)))), (2, .int ((nI 1024) * ((S 0 i) + (S 1 i)))), (0, .ref (a 0))]) C.1 C.2.1 dX4_begin_105 hl (k := 3) rfl (nI_add i 1) (by decide) rfl (fun ls hl => ?_)
      refine lv_goto (tgt := 10) C.1 C.2.1 dX4_begin_108 (by decide) ?_
      have hH := x_eqw (w' := wM G a S (plantK S T1 i) K (begZ Z1 i) L ((tS F 6 (nI ct)))) (rfl) hH
      exact ih10 (i + 1) (plantK S T1 i) (begZ Z1 i) _ _ _ (by omega) (hf) (hz) hH (lv_sub hl [3, 0] rfl)
  exact lp (ct) 0 T Z _ _ _ (by omega) (rfl) (rfl) hH (lv_sub hl [1, 0] rfl)
set_option maxHeartbeats 400000 in
set_option maxRecDepth 100000 in
theorem c_X4_sink_0 (l : Launch) (G : xG) (a : Nat → Nat) (S T K Z : Nat → Nat → Int32) (L : Nat → Nat → Int64) (F : Nat → Int32) (x y z u : Int32) (ct : Nat) (h4 : F 4 = nI ct) (hc : ct < 10) (hx : inW x (nI 0) (nI 200)) (hy : inW y (nI 0) (nI 200)) (hz : inW z (nI 1) (nI 100)) (hu : inW u (nI 0) (nI 1000000000)) : xMi l yX4_sink wsX4_sink { frames := 1, cells := 0, slots := 0, locals := 22 } [.ref (a 0), .int x, .int y, .int z, .int u] G (wM G a S T K Z L F) (nI ct) (wM G a (appS S ct x y z u) T K Z L (tS (tS (tS F 3 (nI 0)) 4 (nI (ct + 1))) 2 (nI 0))) 0 0 := by
  refine x_ofi (cc := cX4_sink) (maxL := 5) (ty := .int) (by decide) rfl (Nat.le_of_ble_eq_true rfl) ?_
  intro p e s m args below meth c ls A Q C hml hA hH hl hE
  have hl : lv_has ls 5 [(0, .ref (a 0)), (1, .int x), (2, .int y), (3, .int z), (4, .int u)] := hl
  have inX4 : ∀ w ∈ wsX40, w ∈ wsX4_sink := fun _ h => (List.mem_cons_of_mem _ (List.mem_append_right _ h))
  refine lv_aload_n C.1 C.2.1 dX4_sink_0 rfl (lv_at hl 0 rfl) ?_
  refine lv_iload_n C.1 C.2.1 dX4_sink_1 rfl (lv_at hl 1 rfl) ?_
  refine x_ci (w' := wM G a S T K Z L F) (va_runS (As := [.int x]) (rest := [.ref (a 0)]) (x_fix C hml) (c_X4_isPlace l G a S T K Z L F x _) (cwS 1 C.2.2.2.1 gX4_sink_X4_isPlace rfl rfl rfl (by decide +kernel) ⟨Nat.le_of_ble_eq_true rfl, Nat.le_of_ble_eq_true rfl⟩) (x_ps C hH) rfl rfl hl.1 rfl (lv_room (Nat.le_of_ble_eq_true rfl)) dX4_sink_2 ⟨Nat.le_of_ble_eq_true rfl, Nat.le_of_ble_eq_true rfl⟩) hH hA (fun H locs hH => ?_)
  refine lv_if_eq (tgt := 36) C.1 C.2.1 dX4_sink_5 (by decide) (fun z8 => absurd z8 (fun z9 => xb_0.mp z9 hx)) (fun _ => ?_)
  refine lv_iload_n C.1 C.2.1 dX4_sink_8 rfl (lv_at hl 2 rfl) ?_
  refine x_ci (w' := wM G a S T K Z L F) (va_runS (As := [.int y]) (rest := [.ref (a 0)]) (x_fix C hml) (c_X4_isPlace l G a S T K Z L F y _) (cwS 1 C.2.2.2.1 gX4_sink_X4_isPlace rfl rfl rfl (by decide +kernel) ⟨Nat.le_of_ble_eq_true rfl, Nat.le_of_ble_eq_true rfl⟩) (x_ps C hH) rfl rfl hl.1 rfl (lv_room (Nat.le_of_ble_eq_true rfl)) dX4_sink_9 ⟨Nat.le_of_ble_eq_true rfl, Nat.le_of_ble_eq_true rfl⟩) hH hA (fun H locs hH => ?_)
  refine lv_if_eq (tgt := 36) C.1 C.2.1 dX4_sink_12 (by decide) (fun z8 => absurd z8 (fun z9 => xb_0.mp z9 hy)) (fun _ => ?_)
  refine lv_iload_n C.1 C.2.1 dX4_sink_15 rfl (lv_at hl 3 rfl) ?_
  refine lv_iconst (v := nI 1) C.1 C.2.1 dX4_sink_16 (by decide) ?_
  refine lv_bipush (v := nI 100) C.1 C.2.1 dX4_sink_17 (by decide) ?_
  refine x_ci (w' := wM G a S T K Z L F) (va_runS (As := [.int z, .int (nI 1), .int (nI 100)]) (rest := [.ref (a 0)]) (x_fix C hml) (c_X4_within l G a S T K Z L F z (nI 1) (nI 100) _) (cwS 3 C.2.2.2.1 gX4_sink_X4_within rfl rfl rfl (by decide +kernel) ⟨Nat.le_of_ble_eq_true rfl, Nat.le_of_ble_eq_true rfl⟩) (x_ps C hH) rfl rfl hl.1 rfl (lv_room (Nat.le_of_ble_eq_true rfl)) dX4_sink_19 ⟨Nat.le_of_ble_eq_true rfl, Nat.le_of_ble_eq_true rfl⟩) hH hA (fun H locs hH => ?_)
  refine lv_if_eq (tgt := 36) C.1 C.2.1 dX4_sink_22 (by decide) (fun z8 => absurd z8 (fun z9 => xb_0.mp z9 hz)) (fun _ => ?_)
  refine lv_iload C.1 C.2.1 dX4_sink_25 (lv_at hl 4 rfl) ?_
  refine lv_iconst (v := nI 0) C.1 C.2.1 dX4_sink_27 (by decide) ?_
  refine lv_ldc C.1 C.2.1 C.2.2.1 (C.2.2.2.1 _ (List.mem_of_getElem? (i := 1) rfl)) dX4_sink_28 ?_
  refine x_toi (show (1000000000 : Int32) = nI 1000000000 by decide) ?_
  refine x_ci (w' := wM G a S T K Z L F) (va_runS (As := [.int u, .int (nI 0), .int (nI 1000000000)]) (rest := [.ref (a 0)]) (x_fix C hml) (c_X4_within l G a S T K Z L F u (nI 0) (nI 1000000000) _) (cwS 3 C.2.2.2.1 gX4_sink_X4_within rfl rfl rfl (by decide +kernel) ⟨Nat.le_of_ble_eq_true rfl, Nat.le_of_ble_eq_true rfl⟩) (x_ps C hH) rfl rfl hl.1 rfl (lv_room (Nat.le_of_ble_eq_true rfl)) dX4_sink_30 ⟨Nat.le_of_ble_eq_true rfl, Nat.le_of_ble_eq_true rfl⟩) hH hA (fun H locs hH => ?_)
  refine lv_if_ne (tgt := 40) C.1 C.2.1 dX4_sink_33 (by decide) (fun _ => ?_) (fun z8 => absurd z8 (fun z9 => xb_0.mp z9 hu))
  refine lv_aload_n C.1 C.2.1 dX4_sink_40 rfl (lv_at hl 0 rfl) ?_
  refine x_get (C := RX4) (T := TX4) (N := 37) (v := .int (F 4)) C inX4 hH 0 gM_0 rfl 1 (by decide) rfl rfl 2 rfl dX4_sink_41 ?_
  refine x_toi h4 ?_
  refine lv_bipush (v := nI 10) C.1 C.2.1 dX4_sink_44 (by decide) ?_
  refine lv_icmp_ne (tgt := 53) C.1 C.2.1 dX4_sink_46 (by decide) (fun _ => ?_) (fun c_5 => absurd c_5 (fun z => absurd ((nI_eq (by omega) (by omega)).mp z) (by omega)))
  refine lv_iconst (v := nI 0) C.1 C.2.1 dX4_sink_53 (by decide) ?_
  refine x_put (C := RX4) (T := TX4) (N := 37) (v := .int (nI 0)) (w' := wM G a S T K Z L ((tS F 3 (nI 0)))) C inX4 tyX4 tyX4_ok nmX4 hH 0 gM_0 rfl 0 (by decide) rfl rfl rfl rfl (Nat.le_of_ble_eq_true rfl) fM_0_0 3 rfl dX4_sink_54 (fun H locs hH => ?_)
  refine lv_aload_n C.1 C.2.1 dX4_sink_57 rfl (lv_at hl 0 rfl) ?_
  refine x_get (C := RX4) (T := TX4) (N := 37) (v := .int (nI 0)) C inX4 hH 0 gM_0 rfl 0 (by decide) rfl rfl 3 rfl dX4_sink_58 ?_
  refine lv_if_le (tgt := 66) C.1 C.2.1 dX4_sink_61 (by decide) (fun _ => ?_) (fun c_6 => absurd (by decide) c_6)
  refine lv_aload_n C.1 C.2.1 dX4_sink_66 rfl (lv_at hl 0 rfl) ?_
  refine x_get (C := RX4) (T := TX4) (N := 37) (v := .ref (a 1)) C inX4 hH 0 gM_0 rfl 2 (by decide) rfl rfl 4 rfl dX4_sink_67 ?_
  refine lv_aload_n C.1 C.2.1 dX4_sink_70 rfl (lv_at hl 0 rfl) ?_
  refine x_get (C := RX4) (T := TX4) (N := 37) (v := .int (F 4)) C inX4 hH 0 gM_0 rfl 1 (by decide) rfl rfl 2 rfl dX4_sink_71 ?_
  refine x_toi h4 ?_
  refine lv_iload_n C.1 C.2.1 dX4_sink_74 rfl (lv_at hl 1 rfl) ?_
  refine x_iast (f := S 0) (j := ct) (x := x) (w' := wM G a ((tS S 0 (upd (S 0) ct x))) T K Z L ((tS F 3 (nI 0)))) C hH 1 gM_1 (by omega) (by decide) sM_1 dX4_sink_75 (fun H locs hH => ?_)
  refine lv_aload_n C.1 C.2.1 dX4_sink_76 rfl (lv_at hl 0 rfl) ?_
  refine x_get (C := RX4) (T := TX4) (N := 37) (v := .ref (a 2)) C inX4 hH 0 gM_0 rfl 3 (by decide) rfl rfl 5 rfl dX4_sink_77 ?_
  refine lv_aload_n C.1 C.2.1 dX4_sink_80 rfl (lv_at hl 0 rfl) ?_
  refine x_get (C := RX4) (T := TX4) (N := 37) (v := .int (F 4)) C inX4 hH 0 gM_0 rfl 1 (by decide) rfl rfl 2 rfl dX4_sink_81 ?_
  refine x_toi h4 ?_
  refine lv_iload_n C.1 C.2.1 dX4_sink_84 rfl (lv_at hl 2 rfl) ?_
  refine x_iast (f := S 1) (j := ct) (x := y) (w' := wM G a ((tS ((tS S 0 (upd (S 0) ct x))) 1 (upd (S 1) ct y))) T K Z L ((tS F 3 (nI 0)))) C hH 2 gM_2 (by omega) (by decide) sM_2 dX4_sink_85 (fun H locs hH => ?_)
  refine lv_aload_n C.1 C.2.1 dX4_sink_86 rfl (lv_at hl 0 rfl) ?_
  refine x_get (C := RX4) (T := TX4) (N := 37) (v := .ref (a 3)) C inX4 hH 0 gM_0 rfl 4 (by decide) rfl rfl 6 rfl dX4_sink_87 ?_
  refine lv_aload_n C.1 C.2.1 dX4_sink_90 rfl (lv_at hl 0 rfl) ?_
  refine x_get (C := RX4) (T := TX4) (N := 37) (v := .int (F 4)) C inX4 hH 0 gM_0 rfl 1 (by decide) rfl rfl 2 rfl dX4_sink_91 ?_
  refine x_toi h4 ?_
  refine lv_iload_n C.1 C.2.1 dX4_sink_94 rfl (lv_at hl 3 rfl) ?_
  refine x_iast (f := S 2) (j := ct) (x := z) (w' := wM G a ((tS ((tS ((tS S 0 (upd (S 0) ct x))) 1 (upd (S 1) ct y))) 2 (upd (S 2) ct z))) T K Z L ((tS F 3 (nI 0)))) C hH 3 gM_3 (by omega) (by decide) sM_3 dX4_sink_95 (fun H locs hH => ?_)
  refine lv_aload_n C.1 C.2.1 dX4_sink_96 rfl (lv_at hl 0 rfl) ?_
  refine x_get (C := RX4) (T := TX4) (N := 37) (v := .ref (a 4)) C inX4 hH 0 gM_0 rfl 5 (by decide) rfl rfl 7 rfl dX4_sink_97 ?_
  refine lv_aload_n C.1 C.2.1 dX4_sink_100 rfl (lv_at hl 0 rfl) ?_
  refine x_get (C := RX4) (T := TX4) (N := 37) (v := .int (F 4)) C inX4 hH 0 gM_0 rfl 1 (by decide) rfl rfl 2 rfl dX4_sink_101 ?_
  refine x_toi h4 ?_
  refine lv_iload C.1 C.2.1 dX4_sink_104 (lv_at hl 4 rfl) ?_
  refine x_iast (f := S 3) (j := ct) (x := u) (w' := wM G a ((tS ((tS ((tS ((tS S 0 (upd (S 0) ct x))) 1 (upd (S 1) ct y))) 2 (upd (S 2) ct z))) 3 (upd (S 3) ct u))) T K Z L ((tS F 3 (nI 0)))) C hH 4 gM_4 (by omega) (by decide) sM_4 dX4_sink_106 (fun H locs hH => ?_)
  refine lv_aload_n C.1 C.2.1 dX4_sink_107 rfl (lv_at hl 0 rfl) ?_
  refine lv_dup C.1 C.2.1 dX4_sink_108 rfl ?_
  refine x_get (C := RX4) (T := TX4) (N := 37) (v := .int (F 4)) C inX4 hH 0 gM_0 rfl 1 (by decide) rfl rfl 2 rfl dX4_sink_109 ?_
  refine x_toi h4 ?_
  refine lv_iconst (v := nI 1) C.1 C.2.1 dX4_sink_112 (by decide) ?_
  refine lv_iadd C.1 C.2.1 dX4_sink_113 ?_
  refine x_toi (nI_add ct 1) ?_
  refine x_put (C := RX4) (T := TX4) (N := 37) (v := .int (nI (ct + 1))) (w' := wM G a ((tS ((tS ((tS ((tS S 0 (upd (S 0) ct x))) 1 (upd (S 1) ct y))) 2 (upd (S 2) ct z))) 3 (upd (S 3) ct u))) T K Z L ((tS ((tS F 3 (nI 0))) 4 (nI (ct + 1))))) C inX4 tyX4 tyX4_ok nmX4 hH 0 gM_0 rfl 1 (by decide) rfl rfl rfl rfl (Nat.le_of_ble_eq_true rfl) fM_0_1 2 rfl dX4_sink_114 (fun H locs hH => ?_)
  refine lv_aload_n C.1 C.2.1 dX4_sink_117 rfl (lv_at hl 0 rfl) ?_
  refine lv_iconst (v := nI 0) C.1 C.2.1 dX4_sink_118 (by decide) ?_
  refine x_put (C := RX4) (T := TX4) (N := 37) (v := .int (nI 0)) (w' := wM G a ((tS ((tS ((tS ((tS S 0 (upd (S 0) ct x))) 1 (upd (S 1) ct y))) 2 (upd (S 2) ct z))) 3 (upd (S 3) ct u))) T K Z L ((tS ((tS ((tS F 3 (nI 0))) 4 (nI (ct + 1)))) 2 (nI 0)))) C inX4 tyX4 tyX4_ok nmX4 hH 0 gM_0 rfl 13 (by decide) rfl rfl (by decide) rfl (Nat.le_of_ble_eq_true rfl) fM_0_13 8 rfl dX4_sink_119 (fun H locs hH => ?_)
  refine lv_aload_n C.1 C.2.1 dX4_sink_122 rfl (lv_at hl 0 rfl) ?_
  refine x_get (C := RX4) (T := TX4) (N := 37) (v := .int (nI (ct + 1))) C inX4 hH 0 gM_0 rfl 1 (by decide) rfl rfl 2 rfl dX4_sink_123 ?_
  refine lv_iconst (v := nI 1) C.1 C.2.1 dX4_sink_126 (by decide) ?_
  refine lv_isub C.1 C.2.1 dX4_sink_127 ?_
  refine x_toi (pk_sub (a := ct + 1) (b := 1) (by omega)) ?_
  have hH := x_eqw (w' := wM G a (appS S ct x y z u) T K Z L (tS (tS (tS F 3 (nI 0)) 4 (nI (ct + 1))) 2 (nI 0))) (rfl) hH
  exact hE _ _ _ _ _ hH (rfl) (rfl) dX4_sink_128
set_option maxHeartbeats 400000 in
set_option maxRecDepth 100000 in
theorem c_X4_sink_1 (l : Launch) (G : xG) (a : Nat → Nat) (S T K Z : Nat → Nat → Int32) (L : Nat → Nat → Int64) (F : Nat → Int32) (x y z u : Int32) (hneg : ¬ (inW x (nI 0) (nI 200) ∧ inW y (nI 0) (nI 200) ∧ inW z (nI 1) (nI 100) ∧ inW u (nI 0) (nI 1000000000))) : xMi l yX4_sink wsX4_sink { frames := 1, cells := 0, slots := 0, locals := 22 } [.ref (a 0), .int x, .int y, .int z, .int u] G (wM G a S T K Z L F) (nI 0) (wM G a S T K Z L (tS F 3 (nI 1))) 0 0 := by
  refine x_ofi (cc := cX4_sink) (maxL := 5) (ty := .int) (by decide) rfl (Nat.le_of_ble_eq_true rfl) ?_
  intro p e s m args below meth c ls A Q C hml hA hH hl hE
  have hl : lv_has ls 5 [(0, .ref (a 0)), (1, .int x), (2, .int y), (3, .int z), (4, .int u)] := hl
  have inX4 : ∀ w ∈ wsX40, w ∈ wsX4_sink := fun _ h => (List.mem_cons_of_mem _ (List.mem_append_right _ h))
  refine lv_aload_n C.1 C.2.1 dX4_sink_0 rfl (lv_at hl 0 rfl) ?_
  refine lv_iload_n C.1 C.2.1 dX4_sink_1 rfl (lv_at hl 1 rfl) ?_
  refine x_ci (w' := wM G a S T K Z L F) (va_runS (As := [.int x]) (rest := [.ref (a 0)]) (x_fix C hml) (c_X4_isPlace l G a S T K Z L F x _) (cwS 1 C.2.2.2.1 gX4_sink_X4_isPlace rfl rfl rfl (by decide +kernel) ⟨Nat.le_of_ble_eq_true rfl, Nat.le_of_ble_eq_true rfl⟩) (x_ps C hH) rfl rfl hl.1 rfl (lv_room (Nat.le_of_ble_eq_true rfl)) dX4_sink_2 ⟨Nat.le_of_ble_eq_true rfl, Nat.le_of_ble_eq_true rfl⟩) hH hA (fun H locs hH => ?_)
  refine lv_if_eq (tgt := 36) C.1 C.2.1 dX4_sink_5 (by decide) (fun c_1 => ?_) (fun c_1 => ?_)
  · rw [xb_0] at c_1
    refine lv_iconst (v := nI 1) C.1 C.2.1 dX4_sink_36 (by decide) ?_
    refine lv_goto (tgt := 54) C.1 C.2.1 dX4_sink_37 (by decide) ?_
    refine x_put (C := RX4) (T := TX4) (N := 37) (v := .int (nI 1)) (w' := wM G a S T K Z L ((tS F 3 (nI 1)))) C inX4 tyX4 tyX4_ok nmX4 hH 0 gM_0 rfl 0 (by decide) rfl rfl rfl rfl (Nat.le_of_ble_eq_true rfl) fM_0_0 3 rfl dX4_sink_54 (fun H locs hH => ?_)
    refine lv_aload_n C.1 C.2.1 dX4_sink_57 rfl (lv_at hl 0 rfl) ?_
    refine x_get (C := RX4) (T := TX4) (N := 37) (v := .int (nI 1)) C inX4 hH 0 gM_0 rfl 0 (by decide) rfl rfl 3 rfl dX4_sink_58 ?_
    refine lv_if_le (tgt := 66) C.1 C.2.1 dX4_sink_61 (by decide) (fun c_2 => absurd c_2 (by decide)) (fun _ => ?_)
    refine lv_iconst (v := nI 0) C.1 C.2.1 dX4_sink_64 (by decide) ?_
    have hH := x_eqw (w' := wM G a S T K Z L (tS F 3 (nI 1))) (rfl) hH
    exact hE _ _ _ _ _ hH (rfl) (rfl) dX4_sink_65
  · rw [xb_0] at c_1
    have c_1 := Classical.not_not.mp c_1
    refine lv_iload_n C.1 C.2.1 dX4_sink_8 rfl (lv_at hl 2 rfl) ?_
    refine x_ci (w' := wM G a S T K Z L F) (va_runS (As := [.int y]) (rest := [.ref (a 0)]) (x_fix C hml) (c_X4_isPlace l G a S T K Z L F y _) (cwS 1 C.2.2.2.1 gX4_sink_X4_isPlace rfl rfl rfl (by decide +kernel) ⟨Nat.le_of_ble_eq_true rfl, Nat.le_of_ble_eq_true rfl⟩) (x_ps C hH) rfl rfl hl.1 rfl (lv_room (Nat.le_of_ble_eq_true rfl)) dX4_sink_9 ⟨Nat.le_of_ble_eq_true rfl, Nat.le_of_ble_eq_true rfl⟩) hH hA (fun H locs hH => ?_)
    refine lv_if_eq (tgt := 36) C.1 C.2.1 dX4_sink_12 (by decide) (fun c_3 => ?_) (fun c_3 => ?_)
    · rw [xb_0] at c_3
      refine lv_iconst (v := nI 1) C.1 C.2.1 dX4_sink_36 (by decide) ?_
      refine lv_goto (tgt := 54) C.1 C.2.1 dX4_sink_37 (by decide) ?_
      refine x_put (C := RX4) (T := TX4) (N := 37) (v := .int (nI 1)) (w' := wM G a S T K Z L ((tS F 3 (nI 1)))) C inX4 tyX4 tyX4_ok nmX4 hH 0 gM_0 rfl 0 (by decide) rfl rfl rfl rfl (Nat.le_of_ble_eq_true rfl) fM_0_0 3 rfl dX4_sink_54 (fun H locs hH => ?_)
      refine lv_aload_n C.1 C.2.1 dX4_sink_57 rfl (lv_at hl 0 rfl) ?_
      refine x_get (C := RX4) (T := TX4) (N := 37) (v := .int (nI 1)) C inX4 hH 0 gM_0 rfl 0 (by decide) rfl rfl 3 rfl dX4_sink_58 ?_
      refine lv_if_le (tgt := 66) C.1 C.2.1 dX4_sink_61 (by decide) (fun c_4 => absurd c_4 (by decide)) (fun _ => ?_)
      refine lv_iconst (v := nI 0) C.1 C.2.1 dX4_sink_64 (by decide) ?_
      have hH := x_eqw (w' := wM G a S T K Z L (tS F 3 (nI 1))) (rfl) hH
      exact hE _ _ _ _ _ hH (rfl) (rfl) dX4_sink_65
    · rw [xb_0] at c_3
      have c_3 := Classical.not_not.mp c_3
      refine lv_iload_n C.1 C.2.1 dX4_sink_15 rfl (lv_at hl 3 rfl) ?_
      refine lv_iconst (v := nI 1) C.1 C.2.1 dX4_sink_16 (by decide) ?_
      refine lv_bipush (v := nI 100) C.1 C.2.1 dX4_sink_17 (by decide) ?_
      refine x_ci (w' := wM G a S T K Z L F) (va_runS (As := [.int z, .int (nI 1), .int (nI 100)]) (rest := [.ref (a 0)]) (x_fix C hml) (c_X4_within l G a S T K Z L F z (nI 1) (nI 100) _) (cwS 3 C.2.2.2.1 gX4_sink_X4_within rfl rfl rfl (by decide +kernel) ⟨Nat.le_of_ble_eq_true rfl, Nat.le_of_ble_eq_true rfl⟩) (x_ps C hH) rfl rfl hl.1 rfl (lv_room (Nat.le_of_ble_eq_true rfl)) dX4_sink_19 ⟨Nat.le_of_ble_eq_true rfl, Nat.le_of_ble_eq_true rfl⟩) hH hA (fun H locs hH => ?_)
      refine lv_if_eq (tgt := 36) C.1 C.2.1 dX4_sink_22 (by decide) (fun c_5 => ?_) (fun c_5 => ?_)
      · rw [xb_0] at c_5
        refine lv_iconst (v := nI 1) C.1 C.2.1 dX4_sink_36 (by decide) ?_
        refine lv_goto (tgt := 54) C.1 C.2.1 dX4_sink_37 (by decide) ?_
        refine x_put (C := RX4) (T := TX4) (N := 37) (v := .int (nI 1)) (w' := wM G a S T K Z L ((tS F 3 (nI 1)))) C inX4 tyX4 tyX4_ok nmX4 hH 0 gM_0 rfl 0 (by decide) rfl rfl rfl rfl (Nat.le_of_ble_eq_true rfl) fM_0_0 3 rfl dX4_sink_54 (fun H locs hH => ?_)
        refine lv_aload_n C.1 C.2.1 dX4_sink_57 rfl (lv_at hl 0 rfl) ?_
        refine x_get (C := RX4) (T := TX4) (N := 37) (v := .int (nI 1)) C inX4 hH 0 gM_0 rfl 0 (by decide) rfl rfl 3 rfl dX4_sink_58 ?_
        refine lv_if_le (tgt := 66) C.1 C.2.1 dX4_sink_61 (by decide) (fun c_6 => absurd c_6 (by decide)) (fun _ => ?_)
        refine lv_iconst (v := nI 0) C.1 C.2.1 dX4_sink_64 (by decide) ?_
        have hH := x_eqw (w' := wM G a S T K Z L (tS F 3 (nI 1))) (rfl) hH
        exact hE _ _ _ _ _ hH (rfl) (rfl) dX4_sink_65
      · rw [xb_0] at c_5
        have c_5 := Classical.not_not.mp c_5
        refine lv_iload C.1 C.2.1 dX4_sink_25 (lv_at hl 4 rfl) ?_
        refine lv_iconst (v := nI 0) C.1 C.2.1 dX4_sink_27 (by decide) ?_
        refine lv_ldc C.1 C.2.1 C.2.2.1 (C.2.2.2.1 _ (List.mem_of_getElem? (i := 1) rfl)) dX4_sink_28 ?_
        refine x_toi (show (1000000000 : Int32) = nI 1000000000 by decide) ?_
        refine x_ci (w' := wM G a S T K Z L F) (va_runS (As := [.int u, .int (nI 0), .int (nI 1000000000)]) (rest := [.ref (a 0)]) (x_fix C hml) (c_X4_within l G a S T K Z L F u (nI 0) (nI 1000000000) _) (cwS 3 C.2.2.2.1 gX4_sink_X4_within rfl rfl rfl (by decide +kernel) ⟨Nat.le_of_ble_eq_true rfl, Nat.le_of_ble_eq_true rfl⟩) (x_ps C hH) rfl rfl hl.1 rfl (lv_room (Nat.le_of_ble_eq_true rfl)) dX4_sink_30 ⟨Nat.le_of_ble_eq_true rfl, Nat.le_of_ble_eq_true rfl⟩) hH hA (fun H locs hH => ?_)
        refine lv_if_ne (tgt := 40) C.1 C.2.1 dX4_sink_33 (by decide) (fun c_7 => ?_) (fun c_7 => ?_)
        · rw [xb_0] at c_7
          have c_7 := Classical.not_not.mp c_7
          exact absurd ⟨c_1, c_3, c_5, c_7⟩ hneg
        · rw [xb_0] at c_7
          refine lv_iconst (v := nI 1) C.1 C.2.1 dX4_sink_36 (by decide) ?_
          refine lv_goto (tgt := 54) C.1 C.2.1 dX4_sink_37 (by decide) ?_
          refine x_put (C := RX4) (T := TX4) (N := 37) (v := .int (nI 1)) (w' := wM G a S T K Z L ((tS F 3 (nI 1)))) C inX4 tyX4 tyX4_ok nmX4 hH 0 gM_0 rfl 0 (by decide) rfl rfl rfl rfl (Nat.le_of_ble_eq_true rfl) fM_0_0 3 rfl dX4_sink_54 (fun H locs hH => ?_)
          refine lv_aload_n C.1 C.2.1 dX4_sink_57 rfl (lv_at hl 0 rfl) ?_
          refine x_get (C := RX4) (T := TX4) (N := 37) (v := .int (nI 1)) C inX4 hH 0 gM_0 rfl 0 (by decide) rfl rfl 3 rfl dX4_sink_58 ?_
          refine lv_if_le (tgt := 66) C.1 C.2.1 dX4_sink_61 (by decide) (fun c_8 => absurd c_8 (by decide)) (fun _ => ?_)
          refine lv_iconst (v := nI 0) C.1 C.2.1 dX4_sink_64 (by decide) ?_
          have hH := x_eqw (w' := wM G a S T K Z L (tS F 3 (nI 1))) (rfl) hH
          exact hE _ _ _ _ _ hH (rfl) (rfl) dX4_sink_65
set_option maxHeartbeats 400000 in
set_option maxRecDepth 100000 in
theorem c_X4_sink_2 (l : Launch) (G : xG) (a : Nat → Nat) (S T K Z : Nat → Nat → Int32) (L : Nat → Nat → Int64) (F : Nat → Int32) (x y z u : Int32) (h4 : F 4 = nI 10) (hx : inW x (nI 0) (nI 200)) (hy : inW y (nI 0) (nI 200)) (hz : inW z (nI 1) (nI 100)) (hu : inW u (nI 0) (nI 1000000000)) : xMi l yX4_sink wsX4_sink { frames := 1, cells := 0, slots := 0, locals := 22 } [.ref (a 0), .int x, .int y, .int z, .int u] G (wM G a S T K Z L F) (nI 0) (wM G a S T K Z L (tS F 3 (nI 2))) 0 0 := by
  refine x_ofi (cc := cX4_sink) (maxL := 5) (ty := .int) (by decide) rfl (Nat.le_of_ble_eq_true rfl) ?_
  intro p e s m args below meth c ls A Q C hml hA hH hl hE
  have hl : lv_has ls 5 [(0, .ref (a 0)), (1, .int x), (2, .int y), (3, .int z), (4, .int u)] := hl
  have inX4 : ∀ w ∈ wsX40, w ∈ wsX4_sink := fun _ h => (List.mem_cons_of_mem _ (List.mem_append_right _ h))
  refine lv_aload_n C.1 C.2.1 dX4_sink_0 rfl (lv_at hl 0 rfl) ?_
  refine lv_iload_n C.1 C.2.1 dX4_sink_1 rfl (lv_at hl 1 rfl) ?_
  refine x_ci (w' := wM G a S T K Z L F) (va_runS (As := [.int x]) (rest := [.ref (a 0)]) (x_fix C hml) (c_X4_isPlace l G a S T K Z L F x _) (cwS 1 C.2.2.2.1 gX4_sink_X4_isPlace rfl rfl rfl (by decide +kernel) ⟨Nat.le_of_ble_eq_true rfl, Nat.le_of_ble_eq_true rfl⟩) (x_ps C hH) rfl rfl hl.1 rfl (lv_room (Nat.le_of_ble_eq_true rfl)) dX4_sink_2 ⟨Nat.le_of_ble_eq_true rfl, Nat.le_of_ble_eq_true rfl⟩) hH hA (fun H locs hH => ?_)
  refine lv_if_eq (tgt := 36) C.1 C.2.1 dX4_sink_5 (by decide) (fun z8 => absurd z8 (fun z9 => xb_0.mp z9 hx)) (fun _ => ?_)
  refine lv_iload_n C.1 C.2.1 dX4_sink_8 rfl (lv_at hl 2 rfl) ?_
  refine x_ci (w' := wM G a S T K Z L F) (va_runS (As := [.int y]) (rest := [.ref (a 0)]) (x_fix C hml) (c_X4_isPlace l G a S T K Z L F y _) (cwS 1 C.2.2.2.1 gX4_sink_X4_isPlace rfl rfl rfl (by decide +kernel) ⟨Nat.le_of_ble_eq_true rfl, Nat.le_of_ble_eq_true rfl⟩) (x_ps C hH) rfl rfl hl.1 rfl (lv_room (Nat.le_of_ble_eq_true rfl)) dX4_sink_9 ⟨Nat.le_of_ble_eq_true rfl, Nat.le_of_ble_eq_true rfl⟩) hH hA (fun H locs hH => ?_)
  refine lv_if_eq (tgt := 36) C.1 C.2.1 dX4_sink_12 (by decide) (fun z8 => absurd z8 (fun z9 => xb_0.mp z9 hy)) (fun _ => ?_)
  refine lv_iload_n C.1 C.2.1 dX4_sink_15 rfl (lv_at hl 3 rfl) ?_
  refine lv_iconst (v := nI 1) C.1 C.2.1 dX4_sink_16 (by decide) ?_
  refine lv_bipush (v := nI 100) C.1 C.2.1 dX4_sink_17 (by decide) ?_
  refine x_ci (w' := wM G a S T K Z L F) (va_runS (As := [.int z, .int (nI 1), .int (nI 100)]) (rest := [.ref (a 0)]) (x_fix C hml) (c_X4_within l G a S T K Z L F z (nI 1) (nI 100) _) (cwS 3 C.2.2.2.1 gX4_sink_X4_within rfl rfl rfl (by decide +kernel) ⟨Nat.le_of_ble_eq_true rfl, Nat.le_of_ble_eq_true rfl⟩) (x_ps C hH) rfl rfl hl.1 rfl (lv_room (Nat.le_of_ble_eq_true rfl)) dX4_sink_19 ⟨Nat.le_of_ble_eq_true rfl, Nat.le_of_ble_eq_true rfl⟩) hH hA (fun H locs hH => ?_)
  refine lv_if_eq (tgt := 36) C.1 C.2.1 dX4_sink_22 (by decide) (fun z8 => absurd z8 (fun z9 => xb_0.mp z9 hz)) (fun _ => ?_)
  refine lv_iload C.1 C.2.1 dX4_sink_25 (lv_at hl 4 rfl) ?_
  refine lv_iconst (v := nI 0) C.1 C.2.1 dX4_sink_27 (by decide) ?_
  refine lv_ldc C.1 C.2.1 C.2.2.1 (C.2.2.2.1 _ (List.mem_of_getElem? (i := 1) rfl)) dX4_sink_28 ?_
  refine x_toi (show (1000000000 : Int32) = nI 1000000000 by decide) ?_
  refine x_ci (w' := wM G a S T K Z L F) (va_runS (As := [.int u, .int (nI 0), .int (nI 1000000000)]) (rest := [.ref (a 0)]) (x_fix C hml) (c_X4_within l G a S T K Z L F u (nI 0) (nI 1000000000) _) (cwS 3 C.2.2.2.1 gX4_sink_X4_within rfl rfl rfl (by decide +kernel) ⟨Nat.le_of_ble_eq_true rfl, Nat.le_of_ble_eq_true rfl⟩) (x_ps C hH) rfl rfl hl.1 rfl (lv_room (Nat.le_of_ble_eq_true rfl)) dX4_sink_30 ⟨Nat.le_of_ble_eq_true rfl, Nat.le_of_ble_eq_true rfl⟩) hH hA (fun H locs hH => ?_)
  refine lv_if_ne (tgt := 40) C.1 C.2.1 dX4_sink_33 (by decide) (fun _ => ?_) (fun z8 => absurd z8 (fun z9 => xb_0.mp z9 hu))
  refine lv_aload_n C.1 C.2.1 dX4_sink_40 rfl (lv_at hl 0 rfl) ?_
  refine x_get (C := RX4) (T := TX4) (N := 37) (v := .int (F 4)) C inX4 hH 0 gM_0 rfl 1 (by decide) rfl rfl 2 rfl dX4_sink_41 ?_
  refine x_toi h4 ?_
  refine lv_bipush (v := nI 10) C.1 C.2.1 dX4_sink_44 (by decide) ?_
  refine lv_icmp_ne (tgt := 53) C.1 C.2.1 dX4_sink_46 (by decide) (fun c_5 => absurd (by decide) c_5) (fun _ => ?_)
  refine lv_iconst (v := nI 2) C.1 C.2.1 dX4_sink_49 (by decide) ?_
  refine lv_goto (tgt := 54) C.1 C.2.1 dX4_sink_50 (by decide) ?_
  refine x_put (C := RX4) (T := TX4) (N := 37) (v := .int (nI 2)) (w' := wM G a S T K Z L ((tS F 3 (nI 2)))) C inX4 tyX4 tyX4_ok nmX4 hH 0 gM_0 rfl 0 (by decide) rfl rfl rfl rfl (Nat.le_of_ble_eq_true rfl) fM_0_0 3 rfl dX4_sink_54 (fun H locs hH => ?_)
  refine lv_aload_n C.1 C.2.1 dX4_sink_57 rfl (lv_at hl 0 rfl) ?_
  refine x_get (C := RX4) (T := TX4) (N := 37) (v := .int (nI 2)) C inX4 hH 0 gM_0 rfl 0 (by decide) rfl rfl 3 rfl dX4_sink_58 ?_
  refine lv_if_le (tgt := 66) C.1 C.2.1 dX4_sink_61 (by decide) (fun c_6 => absurd c_6 (by decide)) (fun _ => ?_)
  refine lv_iconst (v := nI 0) C.1 C.2.1 dX4_sink_64 (by decide) ?_
  have hH := x_eqw (w' := wM G a S T K Z L (tS F 3 (nI 2))) (rfl) hH
  exact hE _ _ _ _ _ hH (rfl) (rfl) dX4_sink_65
set_option maxHeartbeats 400000 in
set_option maxRecDepth 100000 in
theorem c_X4_cut_0 (l : Launch) (G : xG) (a : Nat → Nat) (S T K Z : Nat → Nat → Int32) (L : Nat → Nat → Int64) (F : Nat → Int32) (k ct : Nat) (h4 : F 4 = nI ct) (hc : ct ≤ 10) (hk : k ≤ ct) : xMv l yX4_cut wsX4_cut { frames := 1, cells := 0, slots := 0, locals := 22 } [.ref (a 0), .int (nI k)] G (wM G a S T K Z L F) (wM G a S T K Z L (tS (tS (tS F 3 (nI 0)) 4 (nI k)) 2 (nI 0))) 0 0 := by
  have hk1 : inW (nI k) (nI 0) (nI ct) := inN (by omega) (by omega) (by omega)
  refine x_ofv (cc := cX4_cut) (maxL := 2) (by decide) rfl (Nat.le_of_ble_eq_true rfl) ?_
  intro p e s m args below meth c ls A Q C hml hA hH hl hE
  have hl : lv_has ls 2 [(0, .ref (a 0)), (1, .int (nI k))] := hl
  have inX4 : ∀ w ∈ wsX40, w ∈ wsX4_cut := fun _ h => (List.mem_cons_of_mem _ (List.mem_append_right _ h))
  refine lv_aload_n C.1 C.2.1 dX4_cut_0 rfl (lv_at hl 0 rfl) ?_
  refine lv_iload_n C.1 C.2.1 dX4_cut_1 rfl (lv_at hl 1 rfl) ?_
  refine lv_iconst (v := nI 0) C.1 C.2.1 dX4_cut_2 (by decide) ?_
  refine lv_aload_n C.1 C.2.1 dX4_cut_3 rfl (lv_at hl 0 rfl) ?_
  refine x_get (C := RX4) (T := TX4) (N := 37) (v := .int (F 4)) C inX4 hH 0 gM_0 rfl 1 (by decide) rfl rfl 1 rfl dX4_cut_4 ?_
  refine x_toi h4 ?_
  refine x_ci (w' := wM G a S T K Z L F) (va_runS (As := [.int (nI k), .int (nI 0), .int (nI ct)]) (rest := [.ref (a 0)]) (x_fix C hml) (c_X4_within l G a S T K Z L F (nI k) (nI 0) (nI ct) _) (cwS 3 C.2.2.2.1 gX4_cut_X4_within rfl rfl rfl (by decide +kernel) ⟨Nat.le_of_ble_eq_true rfl, Nat.le_of_ble_eq_true rfl⟩) (x_ps C hH) rfl rfl hl.1 rfl (lv_room (Nat.le_of_ble_eq_true rfl)) dX4_cut_7 ⟨Nat.le_of_ble_eq_true rfl, Nat.le_of_ble_eq_true rfl⟩) hH hA (fun H locs hH => ?_)
  refine lv_if_eq (tgt := 17) C.1 C.2.1 dX4_cut_10 (by decide) (fun z8 => absurd z8 (fun z9 => xb_0.mp z9 hk1)) (fun _ => ?_)
  refine lv_iconst (v := nI 0) C.1 C.2.1 dX4_cut_13 (by decide) ?_
  refine lv_goto (tgt := 18) C.1 C.2.1 dX4_cut_14 (by decide) ?_
  refine x_put (C := RX4) (T := TX4) (N := 37) (v := .int (nI 0)) (w' := wM G a S T K Z L ((tS F 3 (nI 0)))) C inX4 tyX4 tyX4_ok nmX4 hH 0 gM_0 rfl 0 (by decide) rfl rfl rfl rfl (Nat.le_of_ble_eq_true rfl) fM_0_0 2 rfl dX4_cut_18 (fun H locs hH => ?_)
  refine lv_aload_n C.1 C.2.1 dX4_cut_21 rfl (lv_at hl 0 rfl) ?_
  refine x_get (C := RX4) (T := TX4) (N := 37) (v := .int (nI 0)) C inX4 hH 0 gM_0 rfl 0 (by decide) rfl rfl 2 rfl dX4_cut_22 ?_
  refine lv_if_ne (tgt := 38) C.1 C.2.1 dX4_cut_25 (by decide) (fun c_2 => absurd (by decide) c_2) (fun _ => ?_)
  refine lv_aload_n C.1 C.2.1 dX4_cut_28 rfl (lv_at hl 0 rfl) ?_
  refine lv_iload_n C.1 C.2.1 dX4_cut_29 rfl (lv_at hl 1 rfl) ?_
  refine x_put (C := RX4) (T := TX4) (N := 37) (v := .int (nI k)) (w' := wM G a S T K Z L ((tS ((tS F 3 (nI 0))) 4 (nI k)))) C inX4 tyX4 tyX4_ok nmX4 hH 0 gM_0 rfl 1 (by decide) rfl rfl rfl rfl (Nat.le_of_ble_eq_true rfl) fM_0_1 1 rfl dX4_cut_30 (fun H locs hH => ?_)
  refine lv_aload_n C.1 C.2.1 dX4_cut_33 rfl (lv_at hl 0 rfl) ?_
  refine lv_iconst (v := nI 0) C.1 C.2.1 dX4_cut_34 (by decide) ?_
  refine x_put (C := RX4) (T := TX4) (N := 37) (v := .int (nI 0)) (w' := wM G a S T K Z L ((tS ((tS ((tS F 3 (nI 0))) 4 (nI k))) 2 (nI 0)))) C inX4 tyX4 tyX4_ok nmX4 hH 0 gM_0 rfl 13 (by decide) rfl rfl (by decide) rfl (Nat.le_of_ble_eq_true rfl) fM_0_13 3 rfl dX4_cut_35 (fun H locs hH => ?_)
  have hH := x_eqw (w' := wM G a S T K Z L (tS (tS (tS F 3 (nI 0)) 4 (nI k)) 2 (nI 0))) (rfl) hH
  exact hE _ _ _ _ hH dX4_cut_38
set_option maxHeartbeats 400000 in
set_option maxRecDepth 100000 in
theorem c_X4_cut_1 (l : Launch) (G : xG) (a : Nat → Nat) (S T K Z : Nat → Nat → Int32) (L : Nat → Nat → Int64) (F : Nat → Int32) (x : Int32) (hneg : ¬ inW x (nI 0) (F 4)) : xMv l yX4_cut wsX4_cut { frames := 1, cells := 0, slots := 0, locals := 22 } [.ref (a 0), .int x] G (wM G a S T K Z L F) (wM G a S T K Z L (tS F 3 (nI 1))) 0 0 := by
  refine x_ofv (cc := cX4_cut) (maxL := 2) (by decide) rfl (Nat.le_of_ble_eq_true rfl) ?_
  intro p e s m args below meth c ls A Q C hml hA hH hl hE
  have hl : lv_has ls 2 [(0, .ref (a 0)), (1, .int x)] := hl
  have inX4 : ∀ w ∈ wsX40, w ∈ wsX4_cut := fun _ h => (List.mem_cons_of_mem _ (List.mem_append_right _ h))
  refine lv_aload_n C.1 C.2.1 dX4_cut_0 rfl (lv_at hl 0 rfl) ?_
  refine lv_iload_n C.1 C.2.1 dX4_cut_1 rfl (lv_at hl 1 rfl) ?_
  refine lv_iconst (v := nI 0) C.1 C.2.1 dX4_cut_2 (by decide) ?_
  refine lv_aload_n C.1 C.2.1 dX4_cut_3 rfl (lv_at hl 0 rfl) ?_
  refine x_get (C := RX4) (T := TX4) (N := 37) (v := .int (F 4)) C inX4 hH 0 gM_0 rfl 1 (by decide) rfl rfl 1 rfl dX4_cut_4 ?_
  refine x_ci (w' := wM G a S T K Z L F) (va_runS (As := [.int x, .int (nI 0), .int (F 4)]) (rest := [.ref (a 0)]) (x_fix C hml) (c_X4_within l G a S T K Z L F x (nI 0) (F 4) _) (cwS 3 C.2.2.2.1 gX4_cut_X4_within rfl rfl rfl (by decide +kernel) ⟨Nat.le_of_ble_eq_true rfl, Nat.le_of_ble_eq_true rfl⟩) (x_ps C hH) rfl rfl hl.1 rfl (lv_room (Nat.le_of_ble_eq_true rfl)) dX4_cut_7 ⟨Nat.le_of_ble_eq_true rfl, Nat.le_of_ble_eq_true rfl⟩) hH hA (fun H locs hH => ?_)
  refine lv_if_eq (tgt := 17) C.1 C.2.1 dX4_cut_10 (by decide) (fun _ => ?_) (fun z8 => absurd (xb_0.mpr hneg) z8)
  refine lv_iconst (v := nI 1) C.1 C.2.1 dX4_cut_17 (by decide) ?_
  refine x_put (C := RX4) (T := TX4) (N := 37) (v := .int (nI 1)) (w' := wM G a S T K Z L ((tS F 3 (nI 1)))) C inX4 tyX4 tyX4_ok nmX4 hH 0 gM_0 rfl 0 (by decide) rfl rfl rfl rfl (Nat.le_of_ble_eq_true rfl) fM_0_0 2 rfl dX4_cut_18 (fun H locs hH => ?_)
  refine lv_aload_n C.1 C.2.1 dX4_cut_21 rfl (lv_at hl 0 rfl) ?_
  refine x_get (C := RX4) (T := TX4) (N := 37) (v := .int (nI 1)) C inX4 hH 0 gM_0 rfl 0 (by decide) rfl rfl 2 rfl dX4_cut_22 ?_
  refine lv_if_ne (tgt := 38) C.1 C.2.1 dX4_cut_25 (by decide) (fun _ => ?_) (fun c_2 => absurd (c_2) (by decide))
  have hH := x_eqw (w' := wM G a S T K Z L (tS F 3 (nI 1))) (rfl) hH
  exact hE _ _ _ _ hH dX4_cut_38
set_option maxHeartbeats 400000 in
set_option maxRecDepth 100000 in
theorem c_X4_source_0 (l : Launch) (G : xG) (a : Nat → Nat) (S T K Z : Nat → Nat → Int32) (L : Nat → Nat → Int64) (F : Nat → Int32) (x y : Int32) (hx : inW x (nI 0) (nI 200)) (hy : inW y (nI 0) (nI 200)) : xMv l yX4_source wsX4_source { frames := 1, cells := 0, slots := 0, locals := 20 } [.ref (a 0), .int x, .int y] G (wM G a S T K Z L F) (wM G a S T K Z L (tS (tS (tS (tS F 3 (nI 0)) 0 x) 1 y) 2 (nI 0))) 0 0 := by
  refine x_ofv (cc := cX4_source) (maxL := 3) (by decide) rfl (Nat.le_of_ble_eq_true rfl) ?_
  intro p e s m args below meth c ls A Q C hml hA hH hl hE
  have hl : lv_has ls 3 [(0, .ref (a 0)), (1, .int x), (2, .int y)] := hl
  have inX4 : ∀ w ∈ wsX40, w ∈ wsX4_source := fun _ h => (List.mem_cons_of_mem _ (List.mem_append_right _ h))
  refine lv_aload_n C.1 C.2.1 dX4_source_0 rfl (lv_at hl 0 rfl) ?_
  refine lv_iload_n C.1 C.2.1 dX4_source_1 rfl (lv_at hl 1 rfl) ?_
  refine x_ci (w' := wM G a S T K Z L F) (va_runS (As := [.int x]) (rest := [.ref (a 0)]) (x_fix C hml) (c_X4_isPlace l G a S T K Z L F x _) (cwS 1 C.2.2.2.1 gX4_source_X4_isPlace rfl rfl rfl (by decide +kernel) ⟨Nat.le_of_ble_eq_true rfl, Nat.le_of_ble_eq_true rfl⟩) (x_ps C hH) rfl rfl hl.1 rfl (lv_room (Nat.le_of_ble_eq_true rfl)) dX4_source_2 ⟨Nat.le_of_ble_eq_true rfl, Nat.le_of_ble_eq_true rfl⟩) hH hA (fun H locs hH => ?_)
  refine lv_if_eq (tgt := 19) C.1 C.2.1 dX4_source_5 (by decide) (fun z8 => absurd z8 (fun z9 => xb_0.mp z9 hx)) (fun _ => ?_)
  refine lv_iload_n C.1 C.2.1 dX4_source_8 rfl (lv_at hl 2 rfl) ?_
  refine x_ci (w' := wM G a S T K Z L F) (va_runS (As := [.int y]) (rest := [.ref (a 0)]) (x_fix C hml) (c_X4_isPlace l G a S T K Z L F y _) (cwS 1 C.2.2.2.1 gX4_source_X4_isPlace rfl rfl rfl (by decide +kernel) ⟨Nat.le_of_ble_eq_true rfl, Nat.le_of_ble_eq_true rfl⟩) (x_ps C hH) rfl rfl hl.1 rfl (lv_room (Nat.le_of_ble_eq_true rfl)) dX4_source_9 ⟨Nat.le_of_ble_eq_true rfl, Nat.le_of_ble_eq_true rfl⟩) hH hA (fun H locs hH => ?_)
  refine lv_if_eq (tgt := 19) C.1 C.2.1 dX4_source_12 (by decide) (fun z8 => absurd z8 (fun z9 => xb_0.mp z9 hy)) (fun _ => ?_)
  refine lv_iconst (v := nI 0) C.1 C.2.1 dX4_source_15 (by decide) ?_
  refine lv_goto (tgt := 20) C.1 C.2.1 dX4_source_16 (by decide) ?_
  refine x_put (C := RX4) (T := TX4) (N := 37) (v := .int (nI 0)) (w' := wM G a S T K Z L ((tS F 3 (nI 0)))) C inX4 tyX4 tyX4_ok nmX4 hH 0 gM_0 rfl 0 (by decide) rfl rfl rfl rfl (Nat.le_of_ble_eq_true rfl) fM_0_0 1 rfl dX4_source_20 (fun H locs hH => ?_)
  refine lv_aload_n C.1 C.2.1 dX4_source_23 rfl (lv_at hl 0 rfl) ?_
  refine x_get (C := RX4) (T := TX4) (N := 37) (v := .int (nI 0)) C inX4 hH 0 gM_0 rfl 0 (by decide) rfl rfl 1 rfl dX4_source_24 ?_
  refine lv_if_ne (tgt := 45) C.1 C.2.1 dX4_source_27 (by decide) (fun c_3 => absurd (by decide) c_3) (fun _ => ?_)
  refine lv_aload_n C.1 C.2.1 dX4_source_30 rfl (lv_at hl 0 rfl) ?_
  refine lv_iload_n C.1 C.2.1 dX4_source_31 rfl (lv_at hl 1 rfl) ?_
  refine x_put (C := RX4) (T := TX4) (N := 37) (v := .int x) (w' := wM G a S T K Z L ((tS ((tS F 3 (nI 0))) 0 x))) C inX4 tyX4 tyX4_ok nmX4 hH 0 gM_0 rfl 6 (by decide) rfl rfl rfl rfl (Nat.le_of_ble_eq_true rfl) fM_0_6 2 rfl dX4_source_32 (fun H locs hH => ?_)
  refine lv_aload_n C.1 C.2.1 dX4_source_35 rfl (lv_at hl 0 rfl) ?_
  refine lv_iload_n C.1 C.2.1 dX4_source_36 rfl (lv_at hl 2 rfl) ?_
  refine x_put (C := RX4) (T := TX4) (N := 37) (v := .int y) (w' := wM G a S T K Z L ((tS ((tS ((tS F 3 (nI 0))) 0 x)) 1 y))) C inX4 tyX4 tyX4_ok nmX4 hH 0 gM_0 rfl 7 (by decide) rfl rfl rfl rfl (Nat.le_of_ble_eq_true rfl) fM_0_7 3 rfl dX4_source_37 (fun H locs hH => ?_)
  refine lv_aload_n C.1 C.2.1 dX4_source_40 rfl (lv_at hl 0 rfl) ?_
  refine lv_iconst (v := nI 0) C.1 C.2.1 dX4_source_41 (by decide) ?_
  refine x_put (C := RX4) (T := TX4) (N := 37) (v := .int (nI 0)) (w' := wM G a S T K Z L ((tS ((tS ((tS ((tS F 3 (nI 0))) 0 x)) 1 y)) 2 (nI 0)))) C inX4 tyX4 tyX4_ok nmX4 hH 0 gM_0 rfl 13 (by decide) rfl rfl (by decide) rfl (Nat.le_of_ble_eq_true rfl) fM_0_13 4 rfl dX4_source_42 (fun H locs hH => ?_)
  have hH := x_eqw (w' := wM G a S T K Z L (tS (tS (tS (tS F 3 (nI 0)) 0 x) 1 y) 2 (nI 0))) (rfl) hH
  exact hE _ _ _ _ hH dX4_source_45
set_option maxHeartbeats 400000 in
set_option maxRecDepth 100000 in
theorem c_X4_source_1 (l : Launch) (G : xG) (a : Nat → Nat) (S T K Z : Nat → Nat → Int32) (L : Nat → Nat → Int64) (F : Nat → Int32) (x y : Int32) (hneg : ¬ (inW x (nI 0) (nI 200) ∧ inW y (nI 0) (nI 200))) : xMv l yX4_source wsX4_source { frames := 1, cells := 0, slots := 0, locals := 20 } [.ref (a 0), .int x, .int y] G (wM G a S T K Z L F) (wM G a S T K Z L (tS F 3 (nI 1))) 0 0 := by
  refine x_ofv (cc := cX4_source) (maxL := 3) (by decide) rfl (Nat.le_of_ble_eq_true rfl) ?_
  intro p e s m args below meth c ls A Q C hml hA hH hl hE
  have hl : lv_has ls 3 [(0, .ref (a 0)), (1, .int x), (2, .int y)] := hl
  have inX4 : ∀ w ∈ wsX40, w ∈ wsX4_source := fun _ h => (List.mem_cons_of_mem _ (List.mem_append_right _ h))
  refine lv_aload_n C.1 C.2.1 dX4_source_0 rfl (lv_at hl 0 rfl) ?_
  refine lv_iload_n C.1 C.2.1 dX4_source_1 rfl (lv_at hl 1 rfl) ?_
  refine x_ci (w' := wM G a S T K Z L F) (va_runS (As := [.int x]) (rest := [.ref (a 0)]) (x_fix C hml) (c_X4_isPlace l G a S T K Z L F x _) (cwS 1 C.2.2.2.1 gX4_source_X4_isPlace rfl rfl rfl (by decide +kernel) ⟨Nat.le_of_ble_eq_true rfl, Nat.le_of_ble_eq_true rfl⟩) (x_ps C hH) rfl rfl hl.1 rfl (lv_room (Nat.le_of_ble_eq_true rfl)) dX4_source_2 ⟨Nat.le_of_ble_eq_true rfl, Nat.le_of_ble_eq_true rfl⟩) hH hA (fun H locs hH => ?_)
  refine lv_if_eq (tgt := 19) C.1 C.2.1 dX4_source_5 (by decide) (fun c_1 => ?_) (fun c_1 => ?_)
  · rw [xb_0] at c_1
    refine lv_iconst (v := nI 1) C.1 C.2.1 dX4_source_19 (by decide) ?_
    refine x_put (C := RX4) (T := TX4) (N := 37) (v := .int (nI 1)) (w' := wM G a S T K Z L ((tS F 3 (nI 1)))) C inX4 tyX4 tyX4_ok nmX4 hH 0 gM_0 rfl 0 (by decide) rfl rfl rfl rfl (Nat.le_of_ble_eq_true rfl) fM_0_0 1 rfl dX4_source_20 (fun H locs hH => ?_)
    refine lv_aload_n C.1 C.2.1 dX4_source_23 rfl (lv_at hl 0 rfl) ?_
    refine x_get (C := RX4) (T := TX4) (N := 37) (v := .int (nI 1)) C inX4 hH 0 gM_0 rfl 0 (by decide) rfl rfl 1 rfl dX4_source_24 ?_
    refine lv_if_ne (tgt := 45) C.1 C.2.1 dX4_source_27 (by decide) (fun _ => ?_) (fun c_2 => absurd (c_2) (by decide))
    have hH := x_eqw (w' := wM G a S T K Z L (tS F 3 (nI 1))) (rfl) hH
    exact hE _ _ _ _ hH dX4_source_45
  · rw [xb_0] at c_1
    have c_1 := Classical.not_not.mp c_1
    refine lv_iload_n C.1 C.2.1 dX4_source_8 rfl (lv_at hl 2 rfl) ?_
    refine x_ci (w' := wM G a S T K Z L F) (va_runS (As := [.int y]) (rest := [.ref (a 0)]) (x_fix C hml) (c_X4_isPlace l G a S T K Z L F y _) (cwS 1 C.2.2.2.1 gX4_source_X4_isPlace rfl rfl rfl (by decide +kernel) ⟨Nat.le_of_ble_eq_true rfl, Nat.le_of_ble_eq_true rfl⟩) (x_ps C hH) rfl rfl hl.1 rfl (lv_room (Nat.le_of_ble_eq_true rfl)) dX4_source_9 ⟨Nat.le_of_ble_eq_true rfl, Nat.le_of_ble_eq_true rfl⟩) hH hA (fun H locs hH => ?_)
    refine lv_if_eq (tgt := 19) C.1 C.2.1 dX4_source_12 (by decide) (fun c_3 => ?_) (fun c_3 => ?_)
    · rw [xb_0] at c_3
      refine lv_iconst (v := nI 1) C.1 C.2.1 dX4_source_19 (by decide) ?_
      refine x_put (C := RX4) (T := TX4) (N := 37) (v := .int (nI 1)) (w' := wM G a S T K Z L ((tS F 3 (nI 1)))) C inX4 tyX4 tyX4_ok nmX4 hH 0 gM_0 rfl 0 (by decide) rfl rfl rfl rfl (Nat.le_of_ble_eq_true rfl) fM_0_0 1 rfl dX4_source_20 (fun H locs hH => ?_)
      refine lv_aload_n C.1 C.2.1 dX4_source_23 rfl (lv_at hl 0 rfl) ?_
      refine x_get (C := RX4) (T := TX4) (N := 37) (v := .int (nI 1)) C inX4 hH 0 gM_0 rfl 0 (by decide) rfl rfl 1 rfl dX4_source_24 ?_
      refine lv_if_ne (tgt := 45) C.1 C.2.1 dX4_source_27 (by decide) (fun _ => ?_) (fun c_4 => absurd (c_4) (by decide))
      have hH := x_eqw (w' := wM G a S T K Z L (tS F 3 (nI 1))) (rfl) hH
      exact hE _ _ _ _ hH dX4_source_45
    · rw [xb_0] at c_3
      have c_3 := Classical.not_not.mp c_3
      exact absurd ⟨c_1, c_3⟩ hneg
set_option maxHeartbeats 400000 in
set_option maxRecDepth 100000 in
theorem c_X4_wires_0 (l : Launch) (G : xG) (a : Nat → Nat) (S T K Z : Nat → Nat → Int32) (L : Nat → Nat → Int64) (F : Nat → Int32) (x y : Int32) (hx : inW x (nI 1) (nI 20)) (hy : inW y (nI 1) (nI 20)) : xMv l yX4_wires wsX4_wires { frames := 1, cells := 0, slots := 0, locals := 22 } [.ref (a 0), .int x, .int y] G (wM G a S T K Z L F) (wM G a S T K Z L (tS (tS (tS F 3 (nI 0)) 7 x) 8 y)) 0 0 := by
  refine x_ofv (cc := cX4_wires) (maxL := 3) (by decide) rfl (Nat.le_of_ble_eq_true rfl) ?_
  intro p e s m args below meth c ls A Q C hml hA hH hl hE
  have hl : lv_has ls 3 [(0, .ref (a 0)), (1, .int x), (2, .int y)] := hl
  have inX4 : ∀ w ∈ wsX40, w ∈ wsX4_wires := fun _ h => (List.mem_cons_of_mem _ (List.mem_append_right _ h))
  refine lv_aload_n C.1 C.2.1 dX4_wires_0 rfl (lv_at hl 0 rfl) ?_
  refine lv_iload_n C.1 C.2.1 dX4_wires_1 rfl (lv_at hl 1 rfl) ?_
  refine lv_iconst (v := nI 1) C.1 C.2.1 dX4_wires_2 (by decide) ?_
  refine lv_bipush (v := nI 20) C.1 C.2.1 dX4_wires_3 (by decide) ?_
  refine x_ci (w' := wM G a S T K Z L F) (va_runS (As := [.int x, .int (nI 1), .int (nI 20)]) (rest := [.ref (a 0)]) (x_fix C hml) (c_X4_within l G a S T K Z L F x (nI 1) (nI 20) _) (cwS 3 C.2.2.2.1 gX4_wires_X4_within rfl rfl rfl (by decide +kernel) ⟨Nat.le_of_ble_eq_true rfl, Nat.le_of_ble_eq_true rfl⟩) (x_ps C hH) rfl rfl hl.1 rfl (lv_room (Nat.le_of_ble_eq_true rfl)) dX4_wires_5 ⟨Nat.le_of_ble_eq_true rfl, Nat.le_of_ble_eq_true rfl⟩) hH hA (fun H locs hH => ?_)
  refine lv_if_eq (tgt := 25) C.1 C.2.1 dX4_wires_8 (by decide) (fun z8 => absurd z8 (fun z9 => xb_0.mp z9 hx)) (fun _ => ?_)
  refine lv_iload_n C.1 C.2.1 dX4_wires_11 rfl (lv_at hl 2 rfl) ?_
  refine lv_iconst (v := nI 1) C.1 C.2.1 dX4_wires_12 (by decide) ?_
  refine lv_bipush (v := nI 20) C.1 C.2.1 dX4_wires_13 (by decide) ?_
  refine x_ci (w' := wM G a S T K Z L F) (va_runS (As := [.int y, .int (nI 1), .int (nI 20)]) (rest := [.ref (a 0)]) (x_fix C hml) (c_X4_within l G a S T K Z L F y (nI 1) (nI 20) _) (cwS 3 C.2.2.2.1 gX4_wires_X4_within rfl rfl rfl (by decide +kernel) ⟨Nat.le_of_ble_eq_true rfl, Nat.le_of_ble_eq_true rfl⟩) (x_ps C hH) rfl rfl hl.1 rfl (lv_room (Nat.le_of_ble_eq_true rfl)) dX4_wires_15 ⟨Nat.le_of_ble_eq_true rfl, Nat.le_of_ble_eq_true rfl⟩) hH hA (fun H locs hH => ?_)
  refine lv_if_eq (tgt := 25) C.1 C.2.1 dX4_wires_18 (by decide) (fun z8 => absurd z8 (fun z9 => xb_0.mp z9 hy)) (fun _ => ?_)
  refine lv_iconst (v := nI 0) C.1 C.2.1 dX4_wires_21 (by decide) ?_
  refine lv_goto (tgt := 26) C.1 C.2.1 dX4_wires_22 (by decide) ?_
  refine x_put (C := RX4) (T := TX4) (N := 37) (v := .int (nI 0)) (w' := wM G a S T K Z L ((tS F 3 (nI 0)))) C inX4 tyX4 tyX4_ok nmX4 hH 0 gM_0 rfl 0 (by decide) rfl rfl rfl rfl (Nat.le_of_ble_eq_true rfl) fM_0_0 1 rfl dX4_wires_26 (fun H locs hH => ?_)
  refine lv_aload_n C.1 C.2.1 dX4_wires_29 rfl (lv_at hl 0 rfl) ?_
  refine x_get (C := RX4) (T := TX4) (N := 37) (v := .int (nI 0)) C inX4 hH 0 gM_0 rfl 0 (by decide) rfl rfl 1 rfl dX4_wires_30 ?_
  refine lv_if_ne (tgt := 46) C.1 C.2.1 dX4_wires_33 (by decide) (fun c_3 => absurd (by decide) c_3) (fun _ => ?_)
  refine lv_aload_n C.1 C.2.1 dX4_wires_36 rfl (lv_at hl 0 rfl) ?_
  refine lv_iload_n C.1 C.2.1 dX4_wires_37 rfl (lv_at hl 1 rfl) ?_
  refine x_put (C := RX4) (T := TX4) (N := 37) (v := .int x) (w' := wM G a S T K Z L ((tS ((tS F 3 (nI 0))) 7 x))) C inX4 tyX4 tyX4_ok nmX4 hH 0 gM_0 rfl 8 (by decide) rfl rfl rfl rfl (Nat.le_of_ble_eq_true rfl) fM_0_8 2 rfl dX4_wires_38 (fun H locs hH => ?_)
  refine lv_aload_n C.1 C.2.1 dX4_wires_41 rfl (lv_at hl 0 rfl) ?_
  refine lv_iload_n C.1 C.2.1 dX4_wires_42 rfl (lv_at hl 2 rfl) ?_
  refine x_put (C := RX4) (T := TX4) (N := 37) (v := .int y) (w' := wM G a S T K Z L ((tS ((tS ((tS F 3 (nI 0))) 7 x)) 8 y))) C inX4 tyX4 tyX4_ok nmX4 hH 0 gM_0 rfl 9 (by decide) rfl rfl rfl rfl (Nat.le_of_ble_eq_true rfl) fM_0_9 3 rfl dX4_wires_43 (fun H locs hH => ?_)
  have hH := x_eqw (w' := wM G a S T K Z L (tS (tS (tS F 3 (nI 0)) 7 x) 8 y)) (rfl) hH
  exact hE _ _ _ _ hH dX4_wires_46
set_option maxHeartbeats 400000 in
set_option maxRecDepth 100000 in
theorem c_X4_wires_1 (l : Launch) (G : xG) (a : Nat → Nat) (S T K Z : Nat → Nat → Int32) (L : Nat → Nat → Int64) (F : Nat → Int32) (x y : Int32) (hneg : ¬ (inW x (nI 1) (nI 20) ∧ inW y (nI 1) (nI 20))) : xMv l yX4_wires wsX4_wires { frames := 1, cells := 0, slots := 0, locals := 22 } [.ref (a 0), .int x, .int y] G (wM G a S T K Z L F) (wM G a S T K Z L (tS F 3 (nI 1))) 0 0 := by
  refine x_ofv (cc := cX4_wires) (maxL := 3) (by decide) rfl (Nat.le_of_ble_eq_true rfl) ?_
  intro p e s m args below meth c ls A Q C hml hA hH hl hE
  have hl : lv_has ls 3 [(0, .ref (a 0)), (1, .int x), (2, .int y)] := hl
  have inX4 : ∀ w ∈ wsX40, w ∈ wsX4_wires := fun _ h => (List.mem_cons_of_mem _ (List.mem_append_right _ h))
  refine lv_aload_n C.1 C.2.1 dX4_wires_0 rfl (lv_at hl 0 rfl) ?_
  refine lv_iload_n C.1 C.2.1 dX4_wires_1 rfl (lv_at hl 1 rfl) ?_
  refine lv_iconst (v := nI 1) C.1 C.2.1 dX4_wires_2 (by decide) ?_
  refine lv_bipush (v := nI 20) C.1 C.2.1 dX4_wires_3 (by decide) ?_
  refine x_ci (w' := wM G a S T K Z L F) (va_runS (As := [.int x, .int (nI 1), .int (nI 20)]) (rest := [.ref (a 0)]) (x_fix C hml) (c_X4_within l G a S T K Z L F x (nI 1) (nI 20) _) (cwS 3 C.2.2.2.1 gX4_wires_X4_within rfl rfl rfl (by decide +kernel) ⟨Nat.le_of_ble_eq_true rfl, Nat.le_of_ble_eq_true rfl⟩) (x_ps C hH) rfl rfl hl.1 rfl (lv_room (Nat.le_of_ble_eq_true rfl)) dX4_wires_5 ⟨Nat.le_of_ble_eq_true rfl, Nat.le_of_ble_eq_true rfl⟩) hH hA (fun H locs hH => ?_)
  refine lv_if_eq (tgt := 25) C.1 C.2.1 dX4_wires_8 (by decide) (fun c_1 => ?_) (fun c_1 => ?_)
  · rw [xb_0] at c_1
    refine lv_iconst (v := nI 1) C.1 C.2.1 dX4_wires_25 (by decide) ?_
    refine x_put (C := RX4) (T := TX4) (N := 37) (v := .int (nI 1)) (w' := wM G a S T K Z L ((tS F 3 (nI 1)))) C inX4 tyX4 tyX4_ok nmX4 hH 0 gM_0 rfl 0 (by decide) rfl rfl rfl rfl (Nat.le_of_ble_eq_true rfl) fM_0_0 1 rfl dX4_wires_26 (fun H locs hH => ?_)
    refine lv_aload_n C.1 C.2.1 dX4_wires_29 rfl (lv_at hl 0 rfl) ?_
    refine x_get (C := RX4) (T := TX4) (N := 37) (v := .int (nI 1)) C inX4 hH 0 gM_0 rfl 0 (by decide) rfl rfl 1 rfl dX4_wires_30 ?_
    refine lv_if_ne (tgt := 46) C.1 C.2.1 dX4_wires_33 (by decide) (fun _ => ?_) (fun c_2 => absurd (c_2) (by decide))
    have hH := x_eqw (w' := wM G a S T K Z L (tS F 3 (nI 1))) (rfl) hH
    exact hE _ _ _ _ hH dX4_wires_46
  · rw [xb_0] at c_1
    have c_1 := Classical.not_not.mp c_1
    refine lv_iload_n C.1 C.2.1 dX4_wires_11 rfl (lv_at hl 2 rfl) ?_
    refine lv_iconst (v := nI 1) C.1 C.2.1 dX4_wires_12 (by decide) ?_
    refine lv_bipush (v := nI 20) C.1 C.2.1 dX4_wires_13 (by decide) ?_
    refine x_ci (w' := wM G a S T K Z L F) (va_runS (As := [.int y, .int (nI 1), .int (nI 20)]) (rest := [.ref (a 0)]) (x_fix C hml) (c_X4_within l G a S T K Z L F y (nI 1) (nI 20) _) (cwS 3 C.2.2.2.1 gX4_wires_X4_within rfl rfl rfl (by decide +kernel) ⟨Nat.le_of_ble_eq_true rfl, Nat.le_of_ble_eq_true rfl⟩) (x_ps C hH) rfl rfl hl.1 rfl (lv_room (Nat.le_of_ble_eq_true rfl)) dX4_wires_15 ⟨Nat.le_of_ble_eq_true rfl, Nat.le_of_ble_eq_true rfl⟩) hH hA (fun H locs hH => ?_)
    refine lv_if_eq (tgt := 25) C.1 C.2.1 dX4_wires_18 (by decide) (fun c_3 => ?_) (fun c_3 => ?_)
    · rw [xb_0] at c_3
      refine lv_iconst (v := nI 1) C.1 C.2.1 dX4_wires_25 (by decide) ?_
      refine x_put (C := RX4) (T := TX4) (N := 37) (v := .int (nI 1)) (w' := wM G a S T K Z L ((tS F 3 (nI 1)))) C inX4 tyX4 tyX4_ok nmX4 hH 0 gM_0 rfl 0 (by decide) rfl rfl rfl rfl (Nat.le_of_ble_eq_true rfl) fM_0_0 1 rfl dX4_wires_26 (fun H locs hH => ?_)
      refine lv_aload_n C.1 C.2.1 dX4_wires_29 rfl (lv_at hl 0 rfl) ?_
      refine x_get (C := RX4) (T := TX4) (N := 37) (v := .int (nI 1)) C inX4 hH 0 gM_0 rfl 0 (by decide) rfl rfl 1 rfl dX4_wires_30 ?_
      refine lv_if_ne (tgt := 46) C.1 C.2.1 dX4_wires_33 (by decide) (fun _ => ?_) (fun c_4 => absurd (c_4) (by decide))
      have hH := x_eqw (w' := wM G a S T K Z L (tS F 3 (nI 1))) (rfl) hH
      exact hE _ _ _ _ hH dX4_wires_46
    · rw [xb_0] at c_3
      have c_3 := Classical.not_not.mp c_3
      exact absurd ⟨c_1, c_3⟩ hneg
set_option maxHeartbeats 400000 in
set_option maxRecDepth 100000 in
theorem c_X4_buffer_0 (l : Launch) (G : xG) (a : Nat → Nat) (S T K Z : Nat → Nat → Int32) (L : Nat → Nat → Int64) (F : Nat → Int32) (x y z : Int32) (hx : inW x (nI 1) (nI 1000000)) (hy : inW y (nI 1) (nI 1000)) (hz : inW z (nI 0) (nI 1000000000)) : xMv l yX4_buffer wsX4_buffer { frames := 1, cells := 0, slots := 0, locals := 22 } [.ref (a 0), .int x, .int y, .int z] G (wM G a S T K Z L F) (wM G a S T K Z L (tS (tS (tS (tS F 3 (nI 0)) 9 x) 10 y) 11 z)) 0 0 := by
  refine x_ofv (cc := cX4_buffer) (maxL := 4) (by decide) rfl (Nat.le_of_ble_eq_true rfl) ?_
  intro p e s m args below meth c ls A Q C hml hA hH hl hE
  have hl : lv_has ls 4 [(0, .ref (a 0)), (1, .int x), (2, .int y), (3, .int z)] := hl
  have inX4 : ∀ w ∈ wsX40, w ∈ wsX4_buffer := fun _ h => (List.mem_cons_of_mem _ (List.mem_append_right _ h))
  refine lv_aload_n C.1 C.2.1 dX4_buffer_0 rfl (lv_at hl 0 rfl) ?_
  refine lv_iload_n C.1 C.2.1 dX4_buffer_1 rfl (lv_at hl 1 rfl) ?_
  refine lv_iconst (v := nI 1) C.1 C.2.1 dX4_buffer_2 (by decide) ?_
  refine lv_ldc C.1 C.2.1 C.2.2.1 (C.2.2.2.1 _ (List.mem_of_getElem? (i := 1) rfl)) dX4_buffer_3 ?_
  refine x_toi (show (1000000 : Int32) = nI 1000000 by decide) ?_
  refine x_ci (w' := wM G a S T K Z L F) (va_runS (As := [.int x, .int (nI 1), .int (nI 1000000)]) (rest := [.ref (a 0)]) (x_fix C hml) (c_X4_within l G a S T K Z L F x (nI 1) (nI 1000000) _) (cwS 3 C.2.2.2.1 gX4_buffer_X4_within rfl rfl rfl (by decide +kernel) ⟨Nat.le_of_ble_eq_true rfl, Nat.le_of_ble_eq_true rfl⟩) (x_ps C hH) rfl rfl hl.1 rfl (lv_room (Nat.le_of_ble_eq_true rfl)) dX4_buffer_5 ⟨Nat.le_of_ble_eq_true rfl, Nat.le_of_ble_eq_true rfl⟩) hH hA (fun H locs hH => ?_)
  refine lv_if_eq (tgt := 36) C.1 C.2.1 dX4_buffer_8 (by decide) (fun z8 => absurd z8 (fun z9 => xb_0.mp z9 hx)) (fun _ => ?_)
  refine lv_iload_n C.1 C.2.1 dX4_buffer_11 rfl (lv_at hl 2 rfl) ?_
  refine lv_iconst (v := nI 1) C.1 C.2.1 dX4_buffer_12 (by decide) ?_
  refine lv_sipush (v := nI 1000) C.1 C.2.1 dX4_buffer_13 (by decide) ?_
  refine x_ci (w' := wM G a S T K Z L F) (va_runS (As := [.int y, .int (nI 1), .int (nI 1000)]) (rest := [.ref (a 0)]) (x_fix C hml) (c_X4_within l G a S T K Z L F y (nI 1) (nI 1000) _) (cwS 3 C.2.2.2.1 gX4_buffer_X4_within rfl rfl rfl (by decide +kernel) ⟨Nat.le_of_ble_eq_true rfl, Nat.le_of_ble_eq_true rfl⟩) (x_ps C hH) rfl rfl hl.1 rfl (lv_room (Nat.le_of_ble_eq_true rfl)) dX4_buffer_16 ⟨Nat.le_of_ble_eq_true rfl, Nat.le_of_ble_eq_true rfl⟩) hH hA (fun H locs hH => ?_)
  refine lv_if_eq (tgt := 36) C.1 C.2.1 dX4_buffer_19 (by decide) (fun z8 => absurd z8 (fun z9 => xb_0.mp z9 hy)) (fun _ => ?_)
  refine lv_iload_n C.1 C.2.1 dX4_buffer_22 rfl (lv_at hl 3 rfl) ?_
  refine lv_iconst (v := nI 0) C.1 C.2.1 dX4_buffer_23 (by decide) ?_
  refine lv_ldc C.1 C.2.1 C.2.2.1 (C.2.2.2.1 _ (List.mem_of_getElem? (i := 2) rfl)) dX4_buffer_24 ?_
  refine x_toi (show (1000000000 : Int32) = nI 1000000000 by decide) ?_
  refine x_ci (w' := wM G a S T K Z L F) (va_runS (As := [.int z, .int (nI 0), .int (nI 1000000000)]) (rest := [.ref (a 0)]) (x_fix C hml) (c_X4_within l G a S T K Z L F z (nI 0) (nI 1000000000) _) (cwS 3 C.2.2.2.1 gX4_buffer_X4_within rfl rfl rfl (by decide +kernel) ⟨Nat.le_of_ble_eq_true rfl, Nat.le_of_ble_eq_true rfl⟩) (x_ps C hH) rfl rfl hl.1 rfl (lv_room (Nat.le_of_ble_eq_true rfl)) dX4_buffer_26 ⟨Nat.le_of_ble_eq_true rfl, Nat.le_of_ble_eq_true rfl⟩) hH hA (fun H locs hH => ?_)
  refine lv_if_eq (tgt := 36) C.1 C.2.1 dX4_buffer_29 (by decide) (fun z8 => absurd z8 (fun z9 => xb_0.mp z9 hz)) (fun _ => ?_)
  refine lv_iconst (v := nI 0) C.1 C.2.1 dX4_buffer_32 (by decide) ?_
  refine lv_goto (tgt := 37) C.1 C.2.1 dX4_buffer_33 (by decide) ?_
  refine x_put (C := RX4) (T := TX4) (N := 37) (v := .int (nI 0)) (w' := wM G a S T K Z L ((tS F 3 (nI 0)))) C inX4 tyX4 tyX4_ok nmX4 hH 0 gM_0 rfl 0 (by decide) rfl rfl rfl rfl (Nat.le_of_ble_eq_true rfl) fM_0_0 3 rfl dX4_buffer_37 (fun H locs hH => ?_)
  refine lv_aload_n C.1 C.2.1 dX4_buffer_40 rfl (lv_at hl 0 rfl) ?_
  refine x_get (C := RX4) (T := TX4) (N := 37) (v := .int (nI 0)) C inX4 hH 0 gM_0 rfl 0 (by decide) rfl rfl 3 rfl dX4_buffer_41 ?_
  refine lv_if_ne (tgt := 62) C.1 C.2.1 dX4_buffer_44 (by decide) (fun c_4 => absurd (by decide) c_4) (fun _ => ?_)
  refine lv_aload_n C.1 C.2.1 dX4_buffer_47 rfl (lv_at hl 0 rfl) ?_
  refine lv_iload_n C.1 C.2.1 dX4_buffer_48 rfl (lv_at hl 1 rfl) ?_
  refine x_put (C := RX4) (T := TX4) (N := 37) (v := .int x) (w' := wM G a S T K Z L ((tS ((tS F 3 (nI 0))) 9 x))) C inX4 tyX4 tyX4_ok nmX4 hH 0 gM_0 rfl 10 (by decide) rfl rfl rfl rfl (Nat.le_of_ble_eq_true rfl) fM_0_10 4 rfl dX4_buffer_49 (fun H locs hH => ?_)
  refine lv_aload_n C.1 C.2.1 dX4_buffer_52 rfl (lv_at hl 0 rfl) ?_
  refine lv_iload_n C.1 C.2.1 dX4_buffer_53 rfl (lv_at hl 2 rfl) ?_
  refine x_put (C := RX4) (T := TX4) (N := 37) (v := .int y) (w' := wM G a S T K Z L ((tS ((tS ((tS F 3 (nI 0))) 9 x)) 10 y))) C inX4 tyX4 tyX4_ok nmX4 hH 0 gM_0 rfl 11 (by decide) rfl rfl rfl rfl (Nat.le_of_ble_eq_true rfl) fM_0_11 5 rfl dX4_buffer_54 (fun H locs hH => ?_)
  refine lv_aload_n C.1 C.2.1 dX4_buffer_57 rfl (lv_at hl 0 rfl) ?_
  refine lv_iload_n C.1 C.2.1 dX4_buffer_58 rfl (lv_at hl 3 rfl) ?_
  refine x_put (C := RX4) (T := TX4) (N := 37) (v := .int z) (w' := wM G a S T K Z L ((tS ((tS ((tS ((tS F 3 (nI 0))) 9 x)) 10 y)) 11 z))) C inX4 tyX4 tyX4_ok nmX4 hH 0 gM_0 rfl 12 (by decide) rfl rfl rfl rfl (Nat.le_of_ble_eq_true rfl) fM_0_12 6 rfl dX4_buffer_59 (fun H locs hH => ?_)
  have hH := x_eqw (w' := wM G a S T K Z L (tS (tS (tS (tS F 3 (nI 0)) 9 x) 10 y) 11 z)) (rfl) hH
  exact hE _ _ _ _ hH dX4_buffer_62
set_option maxHeartbeats 400000 in
set_option maxRecDepth 100000 in
theorem c_X4_buffer_1 (l : Launch) (G : xG) (a : Nat → Nat) (S T K Z : Nat → Nat → Int32) (L : Nat → Nat → Int64) (F : Nat → Int32) (x y z : Int32) (hneg : ¬ (inW x (nI 1) (nI 1000000) ∧ inW y (nI 1) (nI 1000) ∧ inW z (nI 0) (nI 1000000000))) : xMv l yX4_buffer wsX4_buffer { frames := 1, cells := 0, slots := 0, locals := 22 } [.ref (a 0), .int x, .int y, .int z] G (wM G a S T K Z L F) (wM G a S T K Z L (tS F 3 (nI 1))) 0 0 := by
  refine x_ofv (cc := cX4_buffer) (maxL := 4) (by decide) rfl (Nat.le_of_ble_eq_true rfl) ?_
  intro p e s m args below meth c ls A Q C hml hA hH hl hE
  have hl : lv_has ls 4 [(0, .ref (a 0)), (1, .int x), (2, .int y), (3, .int z)] := hl
  have inX4 : ∀ w ∈ wsX40, w ∈ wsX4_buffer := fun _ h => (List.mem_cons_of_mem _ (List.mem_append_right _ h))
  refine lv_aload_n C.1 C.2.1 dX4_buffer_0 rfl (lv_at hl 0 rfl) ?_
  refine lv_iload_n C.1 C.2.1 dX4_buffer_1 rfl (lv_at hl 1 rfl) ?_
  refine lv_iconst (v := nI 1) C.1 C.2.1 dX4_buffer_2 (by decide) ?_
  refine lv_ldc C.1 C.2.1 C.2.2.1 (C.2.2.2.1 _ (List.mem_of_getElem? (i := 1) rfl)) dX4_buffer_3 ?_
  refine x_toi (show (1000000 : Int32) = nI 1000000 by decide) ?_
  refine x_ci (w' := wM G a S T K Z L F) (va_runS (As := [.int x, .int (nI 1), .int (nI 1000000)]) (rest := [.ref (a 0)]) (x_fix C hml) (c_X4_within l G a S T K Z L F x (nI 1) (nI 1000000) _) (cwS 3 C.2.2.2.1 gX4_buffer_X4_within rfl rfl rfl (by decide +kernel) ⟨Nat.le_of_ble_eq_true rfl, Nat.le_of_ble_eq_true rfl⟩) (x_ps C hH) rfl rfl hl.1 rfl (lv_room (Nat.le_of_ble_eq_true rfl)) dX4_buffer_5 ⟨Nat.le_of_ble_eq_true rfl, Nat.le_of_ble_eq_true rfl⟩) hH hA (fun H locs hH => ?_)
  refine lv_if_eq (tgt := 36) C.1 C.2.1 dX4_buffer_8 (by decide) (fun c_1 => ?_) (fun c_1 => ?_)
  · rw [xb_0] at c_1
    refine lv_iconst (v := nI 1) C.1 C.2.1 dX4_buffer_36 (by decide) ?_
    refine x_put (C := RX4) (T := TX4) (N := 37) (v := .int (nI 1)) (w' := wM G a S T K Z L ((tS F 3 (nI 1)))) C inX4 tyX4 tyX4_ok nmX4 hH 0 gM_0 rfl 0 (by decide) rfl rfl rfl rfl (Nat.le_of_ble_eq_true rfl) fM_0_0 3 rfl dX4_buffer_37 (fun H locs hH => ?_)
    refine lv_aload_n C.1 C.2.1 dX4_buffer_40 rfl (lv_at hl 0 rfl) ?_
    refine x_get (C := RX4) (T := TX4) (N := 37) (v := .int (nI 1)) C inX4 hH 0 gM_0 rfl 0 (by decide) rfl rfl 3 rfl dX4_buffer_41 ?_
    refine lv_if_ne (tgt := 62) C.1 C.2.1 dX4_buffer_44 (by decide) (fun _ => ?_) (fun c_2 => absurd (c_2) (by decide))
    have hH := x_eqw (w' := wM G a S T K Z L (tS F 3 (nI 1))) (rfl) hH
    exact hE _ _ _ _ hH dX4_buffer_62
  · rw [xb_0] at c_1
    have c_1 := Classical.not_not.mp c_1
    refine lv_iload_n C.1 C.2.1 dX4_buffer_11 rfl (lv_at hl 2 rfl) ?_
    refine lv_iconst (v := nI 1) C.1 C.2.1 dX4_buffer_12 (by decide) ?_
    refine lv_sipush (v := nI 1000) C.1 C.2.1 dX4_buffer_13 (by decide) ?_
    refine x_ci (w' := wM G a S T K Z L F) (va_runS (As := [.int y, .int (nI 1), .int (nI 1000)]) (rest := [.ref (a 0)]) (x_fix C hml) (c_X4_within l G a S T K Z L F y (nI 1) (nI 1000) _) (cwS 3 C.2.2.2.1 gX4_buffer_X4_within rfl rfl rfl (by decide +kernel) ⟨Nat.le_of_ble_eq_true rfl, Nat.le_of_ble_eq_true rfl⟩) (x_ps C hH) rfl rfl hl.1 rfl (lv_room (Nat.le_of_ble_eq_true rfl)) dX4_buffer_16 ⟨Nat.le_of_ble_eq_true rfl, Nat.le_of_ble_eq_true rfl⟩) hH hA (fun H locs hH => ?_)
    refine lv_if_eq (tgt := 36) C.1 C.2.1 dX4_buffer_19 (by decide) (fun c_3 => ?_) (fun c_3 => ?_)
    · rw [xb_0] at c_3
      refine lv_iconst (v := nI 1) C.1 C.2.1 dX4_buffer_36 (by decide) ?_
      refine x_put (C := RX4) (T := TX4) (N := 37) (v := .int (nI 1)) (w' := wM G a S T K Z L ((tS F 3 (nI 1)))) C inX4 tyX4 tyX4_ok nmX4 hH 0 gM_0 rfl 0 (by decide) rfl rfl rfl rfl (Nat.le_of_ble_eq_true rfl) fM_0_0 3 rfl dX4_buffer_37 (fun H locs hH => ?_)
      refine lv_aload_n C.1 C.2.1 dX4_buffer_40 rfl (lv_at hl 0 rfl) ?_
      refine x_get (C := RX4) (T := TX4) (N := 37) (v := .int (nI 1)) C inX4 hH 0 gM_0 rfl 0 (by decide) rfl rfl 3 rfl dX4_buffer_41 ?_
      refine lv_if_ne (tgt := 62) C.1 C.2.1 dX4_buffer_44 (by decide) (fun _ => ?_) (fun c_4 => absurd (c_4) (by decide))
      have hH := x_eqw (w' := wM G a S T K Z L (tS F 3 (nI 1))) (rfl) hH
      exact hE _ _ _ _ hH dX4_buffer_62
    · rw [xb_0] at c_3
      have c_3 := Classical.not_not.mp c_3
      refine lv_iload_n C.1 C.2.1 dX4_buffer_22 rfl (lv_at hl 3 rfl) ?_
      refine lv_iconst (v := nI 0) C.1 C.2.1 dX4_buffer_23 (by decide) ?_
      refine lv_ldc C.1 C.2.1 C.2.2.1 (C.2.2.2.1 _ (List.mem_of_getElem? (i := 2) rfl)) dX4_buffer_24 ?_
      refine x_toi (show (1000000000 : Int32) = nI 1000000000 by decide) ?_
      refine x_ci (w' := wM G a S T K Z L F) (va_runS (As := [.int z, .int (nI 0), .int (nI 1000000000)]) (rest := [.ref (a 0)]) (x_fix C hml) (c_X4_within l G a S T K Z L F z (nI 0) (nI 1000000000) _) (cwS 3 C.2.2.2.1 gX4_buffer_X4_within rfl rfl rfl (by decide +kernel) ⟨Nat.le_of_ble_eq_true rfl, Nat.le_of_ble_eq_true rfl⟩) (x_ps C hH) rfl rfl hl.1 rfl (lv_room (Nat.le_of_ble_eq_true rfl)) dX4_buffer_26 ⟨Nat.le_of_ble_eq_true rfl, Nat.le_of_ble_eq_true rfl⟩) hH hA (fun H locs hH => ?_)
      refine lv_if_eq (tgt := 36) C.1 C.2.1 dX4_buffer_29 (by decide) (fun c_5 => ?_) (fun c_5 => ?_)
      · rw [xb_0] at c_5
        refine lv_iconst (v := nI 1) C.1 C.2.1 dX4_buffer_36 (by decide) ?_
        refine x_put (C := RX4) (T := TX4) (N := 37) (v := .int (nI 1)) (w' := wM G a S T K Z L ((tS F 3 (nI 1)))) C inX4 tyX4 tyX4_ok nmX4 hH 0 gM_0 rfl 0 (by decide) rfl rfl rfl rfl (Nat.le_of_ble_eq_true rfl) fM_0_0 3 rfl dX4_buffer_37 (fun H locs hH => ?_)
        refine lv_aload_n C.1 C.2.1 dX4_buffer_40 rfl (lv_at hl 0 rfl) ?_
        refine x_get (C := RX4) (T := TX4) (N := 37) (v := .int (nI 1)) C inX4 hH 0 gM_0 rfl 0 (by decide) rfl rfl 3 rfl dX4_buffer_41 ?_
        refine lv_if_ne (tgt := 62) C.1 C.2.1 dX4_buffer_44 (by decide) (fun _ => ?_) (fun c_6 => absurd (c_6) (by decide))
        have hH := x_eqw (w' := wM G a S T K Z L (tS F 3 (nI 1))) (rfl) hH
        exact hE _ _ _ _ hH dX4_buffer_62
      · rw [xb_0] at c_5
        have c_5 := Classical.not_not.mp c_5
        exact absurd ⟨c_1, c_3, c_5⟩ hneg
set_option maxHeartbeats 400000 in
set_option maxRecDepth 100000 in
theorem c_X4_sinks (l : Launch) (G : xG) (a : Nat → Nat) (S T K Z : Nat → Nat → Int32) (L : Nat → Nat → Int64) (F : Nat → Int32) : xMi l yX4_sinks wsX4_sinks { frames := 0, cells := 0, slots := 0, locals := 0 } [.ref (a 0)] G (wM G a S T K Z L F) (F 4) (wM G a S T K Z L (tS F 3 (nI 0))) 0 0 := by
  refine x_ofi (cc := cX4_sinks) (maxL := 1) (ty := .int) (by decide) rfl (Nat.le_of_ble_eq_true rfl) ?_
  intro p e s m args below meth c ls A Q C hml hA hH hl hE
  have hl : lv_has ls 1 [(0, .ref (a 0))] := hl
  have inX4 : ∀ w ∈ wsX40, w ∈ wsX4_sinks := fun _ h => (List.mem_cons_of_mem _ (List.mem_append_right _ h))
  refine lv_aload_n C.1 C.2.1 dX4_sinks_0 rfl (lv_at hl 0 rfl) ?_
  refine lv_iconst (v := nI 0) C.1 C.2.1 dX4_sinks_1 (by decide) ?_
  refine x_put (C := RX4) (T := TX4) (N := 37) (v := .int (nI 0)) (w' := wM G a S T K Z L ((tS F 3 (nI 0)))) C inX4 tyX4 tyX4_ok nmX4 hH 0 gM_0 rfl 0 (by decide) rfl rfl rfl rfl (Nat.le_of_ble_eq_true rfl) fM_0_0 1 rfl dX4_sinks_2 (fun H locs hH => ?_)
  refine lv_aload_n C.1 C.2.1 dX4_sinks_5 rfl (lv_at hl 0 rfl) ?_
  refine x_get (C := RX4) (T := TX4) (N := 37) (v := .int (F 4)) C inX4 hH 0 gM_0 rfl 1 (by decide) rfl rfl 2 rfl dX4_sinks_6 ?_
  have hH := x_eqw (w' := wM G a S T K Z L (tS F 3 (nI 0))) (rfl) hH
  exact hE _ _ _ _ _ hH (rfl) (rfl) dX4_sinks_9
set_option maxHeartbeats 400000 in
set_option maxRecDepth 100000 in
theorem c_X4_thrown (l : Launch) (G : xG) (a : Nat → Nat) (S T K Z : Nat → Nat → Int32) (L : Nat → Nat → Int64) (F : Nat → Int32) : xMi l yX4_thrown wsX4_thrown { frames := 0, cells := 0, slots := 0, locals := 0 } [.ref (a 0)] G (wM G a S T K Z L F) (F 3) (wM G a S T K Z L F) 0 0 := by
  refine x_ofi (cc := cX4_thrown) (maxL := 1) (ty := .int) (by decide) rfl (Nat.le_of_ble_eq_true rfl) ?_
  intro p e s m args below meth c ls A Q C hml hA hH hl hE
  have hl : lv_has ls 1 [(0, .ref (a 0))] := hl
  have inX4 : ∀ w ∈ wsX40, w ∈ wsX4_thrown := fun _ h => (List.mem_cons_of_mem _ (List.mem_append_right _ h))
  refine lv_aload_n C.1 C.2.1 dX4_thrown_0 rfl (lv_at hl 0 rfl) ?_
  refine x_get (C := RX4) (T := TX4) (N := 37) (v := .int (F 3)) C inX4 hH 0 gM_0 rfl 0 (by decide) rfl rfl 1 rfl dX4_thrown_1 ?_
  exact hE _ _ _ _ _ hH (rfl) (rfl) dX4_thrown_4
