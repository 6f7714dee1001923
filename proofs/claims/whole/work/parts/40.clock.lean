theorem inN {a k b : Nat} (h1 : a ≤ k) (h2 : k ≤ b) (hb : b < 2 ^ 31) : inW (nI k) (nI a) (nI b) := ⟨nI_le h1 (by omega), nI_le h2 hb⟩
def setV (v : Int32) (k : Nat) (on : Bool) : Int32 := if on = true then v ||| bitI k else v &&& (bitI k ^^^ (-1))
set_option maxHeartbeats 400000 in
set_option maxRecDepth 100000 in
theorem c_X0_findBest_0 (l : Launch) (G : xG) (a : Nat → Nat) (S T : Nat → Nat → Int32) (L : Nat → Nat → Int64) (F : Nat → Int32) (bs : Int64) (lc rc : Nat → Nat) (lv nd : Nat) (h5 : F 5 = nI lv) (h6 : F 6 = nI nd) (h1 : 1 ≤ lv) (hl9 : lv ≤ nd) (hl10 : lv ≤ 10) (hn : nd ≤ 19) (hPQ : ∀ i, lv ≤ i → i < nd → T 0 i = nI (lc i) ∧ T 1 i = nI (rc i) ∧ lc i < 19 ∧ rc i < 19) (Z : (Nat → Nat → Int64) × Int64 × Int32) (hm : nd = lv + 0) (hZ : tfF F T lc rc lv nd 0 (nI 0) (wsF S lv 0 L, bs, -1) = Z) : xMv l yX0_findBest wsX0_findBest { frames := 14, cells := 0, slots := 0, locals := 317 } [.ref (a 19), .ref (a 6), .ref (a 1)] G (wX G a S T L F bs) (wX G a S T Z.1 (tS F 12 Z.2.2) Z.2.1) 0 0 := by
  refine x_ofv (cc := cX0_findBest) (maxL := 3) (by decide) rfl (Nat.le_of_ble_eq_true rfl) ?_
  intro p e s m args below meth c ls A Q C hml hA hH hl hE
  have hl : lv_has ls 3 [(0, .ref (a 19)), (1, .ref (a 6)), (2, .ref (a 1))] := hl
  have inX0 : ∀ w ∈ wsX00, w ∈ wsX0_findBest := fun _ h => (List.mem_cons_of_mem _ (List.mem_append_left _ (List.mem_append_left _ (List.mem_append_right _ h))))
  have inX2 : ∀ w ∈ wsX20, w ∈ wsX0_findBest := fun _ h => (List.mem_cons_of_mem _ (List.mem_append_left _ (List.mem_append_right _ h)))
  refine lv_aload_n C.1 C.2.1 dX0_findBest_0 rfl (lv_at hl 0 rfl) ?_
  refine lv_iconst (v := (-1)) C.1 C.2.1 dX0_findBest_1 (by decide) ?_
  refine x_put (C := RX0) (T := TX0) (N := 10) (v := .int ((-1))) (w' := wX G a S T L ((tS F 12 ((-1)))) bs) C inX0 tyX0 tyX0_ok nmX0 hH 19 gX_19 rfl 9 (by decide) rfl rfl rfl rfl (Nat.le_of_ble_eq_true rfl) fX_19_9 1 rfl dX0_findBest_2 (fun H locs hH => ?_)
  refine lv_aload_n C.1 C.2.1 dX0_findBest_5 rfl (lv_at hl 0 rfl) ?_
  refine lv_aload_n C.1 C.2.1 dX0_findBest_6 rfl (lv_at hl 1 rfl) ?_
  refine lv_aload_n C.1 C.2.1 dX0_findBest_7 rfl (lv_at hl 2 rfl) ?_
  refine x_cv (w' := wX G a S T (wsF S lv 0 L) ((tS F 12 ((-1)))) bs) (va_runV (As := [.ref (a 6), .ref (a 1)]) (rest := []) (x_fix C hml) (c_X0_weighSinks l G a S T L ((tS F 12 ((-1)))) bs lv h5 (by omega) _) (cwV 2 C.2.2.2.1 gX0_findBest_X0_weighSinks rfl rfl rfl (by decide +kernel) ⟨Nat.le_of_ble_eq_true rfl, Nat.le_of_ble_eq_true rfl⟩) (x_pv C hH rfl gX_19 rfl rfl) rfl rfl hl.1 rfl (lv_room (Nat.le_of_ble_eq_true rfl)) dX0_findBest_8 ⟨Nat.le_of_ble_eq_true rfl, Nat.le_of_ble_eq_true rfl⟩) hH hA (fun H locs hH => ?_)
  refine lv_aload_n C.1 C.2.1 dX0_findBest_11 rfl (lv_at hl 0 rfl) ?_
  refine lv_aload_n C.1 C.2.1 dX0_findBest_12 rfl (lv_at hl 1 rfl) ?_
  refine lv_aload_n C.1 C.2.1 dX0_findBest_13 rfl (lv_at hl 1 rfl) ?_
  refine x_get (C := RX2) (T := TX2) (N := 14) (v := .int (F 5)) C inX2 hH 6 gX_6 rfl 12 (by decide) rfl rfl 2 rfl dX0_findBest_14 ?_
  refine x_toi h5 ?_
  refine lv_iconst (v := nI 0) C.1 C.2.1 dX0_findBest_17 (by decide) ?_
  refine x_cv (w' := wX G a S T Z.1 ((tS F 12 Z.2.2)) Z.2.1) (va_runS (As := [.ref (a 19), .ref (a 6), .int (nI lv), .int (nI 0)]) (rest := []) (x_fix C hml) (c_X0_tryFrom_0 l G a S T (wsF S lv 0 L) F bs ((-1)) lv (nI 0) lc rc lv nd h5 h6 h1 hl9 hl10 hn hPQ Z (by omega) (by omega) hZ _) (cwS 4 C.2.2.2.1 gX0_findBest_X0_tryFrom rfl rfl rfl (by decide +kernel) ⟨Nat.le_of_ble_eq_true rfl, Nat.le_of_ble_eq_true rfl⟩) (x_ps C hH) rfl rfl hl.1 rfl (lv_room (Nat.le_of_ble_eq_true rfl)) dX0_findBest_18 ⟨Nat.le_of_ble_eq_true rfl, Nat.le_of_ble_eq_true rfl⟩) hH hA (fun H locs hH => ?_)
  have hH := x_eqw (w' := wX G a S T Z.1 (tS F 12 Z.2.2) Z.2.1) (rfl) hH
  exact hE _ _ _ _ hH dX0_findBest_21
set_option maxHeartbeats 400000 in
set_option maxRecDepth 100000 in
theorem c_X0_findBest_1 (l : Launch) (G : xG) (a : Nat → Nat) (S T : Nat → Nat → Int32) (L : Nat → Nat → Int64) (F : Nat → Int32) (bs : Int64) (lc rc : Nat → Nat) (lv nd : Nat) (h5 : F 5 = nI lv) (h6 : F 6 = nI nd) (h1 : 1 ≤ lv) (hl9 : lv ≤ nd) (hl10 : lv ≤ 10) (hn : nd ≤ 19) (hPQ : ∀ i, lv ≤ i → i < nd → T 0 i = nI (lc i) ∧ T 1 i = nI (rc i) ∧ lc i < 19 ∧ rc i < 19) (Z : (Nat → Nat → Int64) × Int64 × Int32) (hm : nd = lv + 1) (hZ : tfF F T lc rc lv nd 1 (nI 0) (wsF S lv 0 L, bs, -1) = Z) : xMv l yX0_findBest wsX0_findBest { frames := 14, cells := 0, slots := 0, locals := 317 } [.ref (a 19), .ref (a 6), .ref (a 1)] G (wX G a S T L F bs) (wX G a S T Z.1 (tS F 12 Z.2.2) Z.2.1) 0 0 := by
  refine x_ofv (cc := cX0_findBest) (maxL := 3) (by decide) rfl (Nat.le_of_ble_eq_true rfl) ?_
  intro p e s m args below meth c ls A Q C hml hA hH hl hE
  have hl : lv_has ls 3 [(0, .ref (a 19)), (1, .ref (a 6)), (2, .ref (a 1))] := hl
  have inX0 : ∀ w ∈ wsX00, w ∈ wsX0_findBest := fun _ h => (List.mem_cons_of_mem _ (List.mem_append_left _ (List.mem_append_left _ (List.mem_append_right _ h))))
  have inX2 : ∀ w ∈ wsX20, w ∈ wsX0_findBest := fun _ h => (List.mem_cons_of_mem _ (List.mem_append_left _ (List.mem_append_right _ h)))
  refine lv_aload_n C.1 C.2.1 dX0_findBest_0 rfl (lv_at hl 0 rfl) ?_
  refine lv_iconst (v := (-1)) C.1 C.2.1 dX0_findBest_1 (by decide) ?_
  refine x_put (C := RX0) (T := TX0) (N := 10) (v := .int ((-1))) (w' := wX G a S T L ((tS F 12 ((-1)))) bs) C inX0 tyX0 tyX0_ok nmX0 hH 19 gX_19 rfl 9 (by decide) rfl rfl rfl rfl (Nat.le_of_ble_eq_true rfl) fX_19_9 1 rfl dX0_findBest_2 (fun H locs hH => ?_)
  refine lv_aload_n C.1 C.2.1 dX0_findBest_5 rfl (lv_at hl 0 rfl) ?_
  refine lv_aload_n C.1 C.2.1 dX0_findBest_6 rfl (lv_at hl 1 rfl) ?_
  refine lv_aload_n C.1 C.2.1 dX0_findBest_7 rfl (lv_at hl 2 rfl) ?_
  refine x_cv (w' := wX G a S T (wsF S lv 0 L) ((tS F 12 ((-1)))) bs) (va_runV (As := [.ref (a 6), .ref (a 1)]) (rest := []) (x_fix C hml) (c_X0_weighSinks l G a S T L ((tS F 12 ((-1)))) bs lv h5 (by omega) _) (cwV 2 C.2.2.2.1 gX0_findBest_X0_weighSinks rfl rfl rfl (by decide +kernel) ⟨Nat.le_of_ble_eq_true rfl, Nat.le_of_ble_eq_true rfl⟩) (x_pv C hH rfl gX_19 rfl rfl) rfl rfl hl.1 rfl (lv_room (Nat.le_of_ble_eq_true rfl)) dX0_findBest_8 ⟨Nat.le_of_ble_eq_true rfl, Nat.le_of_ble_eq_true rfl⟩) hH hA (fun H locs hH => ?_)
  refine lv_aload_n C.1 C.2.1 dX0_findBest_11 rfl (lv_at hl 0 rfl) ?_
  refine lv_aload_n C.1 C.2.1 dX0_findBest_12 rfl (lv_at hl 1 rfl) ?_
  refine lv_aload_n C.1 C.2.1 dX0_findBest_13 rfl (lv_at hl 1 rfl) ?_
  refine x_get (C := RX2) (T := TX2) (N := 14) (v := .int (F 5)) C inX2 hH 6 gX_6 rfl 12 (by decide) rfl rfl 2 rfl dX0_findBest_14 ?_
  refine x_toi h5 ?_
  refine lv_iconst (v := nI 0) C.1 C.2.1 dX0_findBest_17 (by decide) ?_
  refine x_cv (w' := wX G a S T Z.1 ((tS F 12 Z.2.2)) Z.2.1) (va_runS (As := [.ref (a 19), .ref (a 6), .int (nI lv), .int (nI 0)]) (rest := []) (x_fix C hml) (c_X0_tryFrom_1 l G a S T (wsF S lv 0 L) F bs ((-1)) lv (nI 0) lc rc lv nd h5 h6 h1 hl9 hl10 hn hPQ Z (by omega) (by omega) hZ _) (cwS 4 C.2.2.2.1 gX0_findBest_X0_tryFrom rfl rfl rfl (by decide +kernel) ⟨Nat.le_of_ble_eq_true rfl, Nat.le_of_ble_eq_true rfl⟩) (x_ps C hH) rfl rfl hl.1 rfl (lv_room (Nat.le_of_ble_eq_true rfl)) dX0_findBest_18 ⟨Nat.le_of_ble_eq_true rfl, Nat.le_of_ble_eq_true rfl⟩) hH hA (fun H locs hH => ?_)
  have hH := x_eqw (w' := wX G a S T Z.1 (tS F 12 Z.2.2) Z.2.1) (rfl) hH
  exact hE _ _ _ _ hH dX0_findBest_21
set_option maxHeartbeats 400000 in
set_option maxRecDepth 100000 in
theorem c_X0_findBest_2 (l : Launch) (G : xG) (a : Nat → Nat) (S T : Nat → Nat → Int32) (L : Nat → Nat → Int64) (F : Nat → Int32) (bs : Int64) (lc rc : Nat → Nat) (lv nd : Nat) (h5 : F 5 = nI lv) (h6 : F 6 = nI nd) (h1 : 1 ≤ lv) (hl9 : lv ≤ nd) (hl10 : lv ≤ 10) (hn : nd ≤ 19) (hPQ : ∀ i, lv ≤ i → i < nd → T 0 i = nI (lc i) ∧ T 1 i = nI (rc i) ∧ lc i < 19 ∧ rc i < 19) (Z : (Nat → Nat → Int64) × Int64 × Int32) (hm : nd = lv + 2) (hZ : tfF F T lc rc lv nd 2 (nI 0) (wsF S lv 0 L, bs, -1) = Z) : xMv l yX0_findBest wsX0_findBest { frames := 14, cells := 0, slots := 0, locals := 317 } [.ref (a 19), .ref (a 6), .ref (a 1)] G (wX G a S T L F bs) (wX G a S T Z.1 (tS F 12 Z.2.2) Z.2.1) 0 0 := by
  refine x_ofv (cc := cX0_findBest) (maxL := 3) (by decide) rfl (Nat.le_of_ble_eq_true rfl) ?_
  intro p e s m args below meth c ls A Q C hml hA hH hl hE
  have hl : lv_has ls 3 [(0, .ref (a 19)), (1, .ref (a 6)), (2, .ref (a 1))] := hl
  have inX0 : ∀ w ∈ wsX00, w ∈ wsX0_findBest := fun _ h => (List.mem_cons_of_mem _ (List.mem_append_left _ (List.mem_append_left _ (List.mem_append_right _ h))))
  have inX2 : ∀ w ∈ wsX20, w ∈ wsX0_findBest := fun _ h => (List.mem_cons_of_mem _ (List.mem_append_left _ (List.mem_append_right _ h)))
  refine lv_aload_n C.1 C.2.1 dX0_findBest_0 rfl (lv_at hl 0 rfl) ?_
  refine lv_iconst (v := (-1)) C.1 C.2.1 dX0_findBest_1 (by decide) ?_
  refine x_put (C := RX0) (T := TX0) (N := 10) (v := .int ((-1))) (w' := wX G a S T L ((tS F 12 ((-1)))) bs) C inX0 tyX0 tyX0_ok nmX0 hH 19 gX_19 rfl 9 (by decide) rfl rfl rfl rfl (Nat.le_of_ble_eq_true rfl) fX_19_9 1 rfl dX0_findBest_2 (fun H locs hH => ?_)
  refine lv_aload_n C.1 C.2.1 dX0_findBest_5 rfl (lv_at hl 0 rfl) ?_
  refine lv_aload_n C.1 C.2.1 dX0_findBest_6 rfl (lv_at hl 1 rfl) ?_
  refine lv_aload_n C.1 C.2.1 dX0_findBest_7 rfl (lv_at hl 2 rfl) ?_
  refine x_cv (w' := wX G a S T (wsF S lv 0 L) ((tS F 12 ((-1)))) bs) (va_runV (As := [.ref (a 6), .ref (a 1)]) (rest := []) (x_fix C hml) (c_X0_weighSinks l G a S T L ((tS F 12 ((-1)))) bs lv h5 (by omega) _) (cwV 2 C.2.2.2.1 gX0_findBest_X0_weighSinks rfl rfl rfl (by decide +kernel) ⟨Nat.le_of_ble_eq_true rfl, Nat.le_of_ble_eq_true rfl⟩) (x_pv C hH rfl gX_19 rfl rfl) rfl rfl hl.1 rfl (lv_room (Nat.le_of_ble_eq_true rfl)) dX0_findBest_8 ⟨Nat.le_of_ble_eq_true rfl, Nat.le_of_ble_eq_true rfl⟩) hH hA (fun H locs hH => ?_)
  refine lv_aload_n C.1 C.2.1 dX0_findBest_11 rfl (lv_at hl 0 rfl) ?_
  refine lv_aload_n C.1 C.2.1 dX0_findBest_12 rfl (lv_at hl 1 rfl) ?_
  refine lv_aload_n C.1 C.2.1 dX0_findBest_13 rfl (lv_at hl 1 rfl) ?_
  refine x_get (C := RX2) (T := TX2) (N := 14) (v := .int (F 5)) C inX2 hH 6 gX_6 rfl 12 (by decide) rfl rfl 2 rfl dX0_findBest_14 ?_
  refine x_toi h5 ?_
  refine lv_iconst (v := nI 0) C.1 C.2.1 dX0_findBest_17 (by decide) ?_
  refine x_cv (w' := wX G a S T Z.1 ((tS F 12 Z.2.2)) Z.2.1) (va_runS (As := [.ref (a 19), .ref (a 6), .int (nI lv), .int (nI 0)]) (rest := []) (x_fix C hml) (c_X0_tryFrom_2 l G a S T (wsF S lv 0 L) F bs ((-1)) lv (nI 0) lc rc lv nd h5 h6 h1 hl9 hl10 hn hPQ Z (by omega) (by omega) hZ _) (cwS 4 C.2.2.2.1 gX0_findBest_X0_tryFrom rfl rfl rfl (by decide +kernel) ⟨Nat.le_of_ble_eq_true rfl, Nat.le_of_ble_eq_true rfl⟩) (x_ps C hH) rfl rfl hl.1 rfl (lv_room (Nat.le_of_ble_eq_true rfl)) dX0_findBest_18 ⟨Nat.le_of_ble_eq_true rfl, Nat.le_of_ble_eq_true rfl⟩) hH hA (fun H locs hH => ?_)
  have hH := x_eqw (w' := wX G a S T Z.1 (tS F 12 Z.2.2) Z.2.1) (rfl) hH
  exact hE _ _ _ _ hH dX0_findBest_21
set_option maxHeartbeats 400000 in
set_option maxRecDepth 100000 in
theorem c_X0_findBest_3 (l : Launch) (G : xG) (a : Nat → Nat) (S T : Nat → Nat → Int32) (L : Nat → Nat → Int64) (F : Nat → Int32) (bs : Int64) (lc rc : Nat → Nat) (lv nd : Nat) (h5 : F 5 = nI lv) (h6 : F 6 = nI nd) (h1 : 1 ≤ lv) (hl9 : lv ≤ nd) (hl10 : lv ≤ 10) (hn : nd ≤ 19) (hPQ : ∀ i, lv ≤ i → i < nd → T 0 i = nI (lc i) ∧ T 1 i = nI (rc i) ∧ lc i < 19 ∧ rc i < 19) (Z : (Nat → Nat → Int64) × Int64 × Int32) (hm : nd = lv + 3) (hZ : tfF F T lc rc lv nd 3 (nI 0) (wsF S lv 0 L, bs, -1) = Z) : xMv l yX0_findBest wsX0_findBest { frames := 14, cells := 0, slots := 0, locals := 317 } [.ref (a 19), .ref (a 6), .ref (a 1)] G (wX G a S T L F bs) (wX G a S T Z.1 (tS F 12 Z.2.2) Z.2.1) 0 0 := by
  refine x_ofv (cc := cX0_findBest) (maxL := 3) (by decide) rfl (Nat.le_of_ble_eq_true rfl) ?_
  intro p e s m args below meth c ls A Q C hml hA hH hl hE
  have hl : lv_has ls 3 [(0, .ref (a 19)), (1, .ref (a 6)), (2, .ref (a 1))] := hl
  have inX0 : ∀ w ∈ wsX00, w ∈ wsX0_findBest := fun _ h => (List.mem_cons_of_mem _ (List.mem_append_left _ (List.mem_append_left _ (List.mem_append_right _ h))))
  have inX2 : ∀ w ∈ wsX20, w ∈ wsX0_findBest := fun _ h => (List.mem_cons_of_mem _ (List.mem_append_left _ (List.mem_append_right _ h)))
  refine lv_aload_n C.1 C.2.1 dX0_findBest_0 rfl (lv_at hl 0 rfl) ?_
  refine lv_iconst (v := (-1)) C.1 C.2.1 dX0_findBest_1 (by decide) ?_
  refine x_put (C := RX0) (T := TX0) (N := 10) (v := .int ((-1))) (w' := wX G a S T L ((tS F 12 ((-1)))) bs) C inX0 tyX0 tyX0_ok nmX0 hH 19 gX_19 rfl 9 (by decide) rfl rfl rfl rfl (Nat.le_of_ble_eq_true rfl) fX_19_9 1 rfl dX0_findBest_2 (fun H locs hH => ?_)
  refine lv_aload_n C.1 C.2.1 dX0_findBest_5 rfl (lv_at hl 0 rfl) ?_
  refine lv_aload_n C.1 C.2.1 dX0_findBest_6 rfl (lv_at hl 1 rfl) ?_
  refine lv_aload_n C.1 C.2.1 dX0_findBest_7 rfl (lv_at hl 2 rfl) ?_
  refine x_cv (w' := wX G a S T (wsF S lv 0 L) ((tS F 12 ((-1)))) bs) (va_runV (As := [.ref (a 6), .ref (a 1)]) (rest := []) (x_fix C hml) (c_X0_weighSinks l G a S T L ((tS F 12 ((-1)))) bs lv h5 (by omega) _) (cwV 2 C.2.2.2.1 gX0_findBest_X0_weighSinks rfl rfl rfl (by decide +kernel) ⟨Nat.le_of_ble_eq_true rfl, Nat.le_of_ble_eq_true rfl⟩) (x_pv C hH rfl gX_19 rfl rfl) rfl rfl hl.1 rfl (lv_room (Nat.le_of_ble_eq_true rfl)) dX0_findBest_8 ⟨Nat.le_of_ble_eq_true rfl, Nat.le_of_ble_eq_true rfl⟩) hH hA (fun H locs hH => ?_)
  refine lv_aload_n C.1 C.2.1 dX0_findBest_11 rfl (lv_at hl 0 rfl) ?_
  refine lv_aload_n C.1 C.2.1 dX0_findBest_12 rfl (lv_at hl 1 rfl) ?_
  refine lv_aload_n C.1 C.2.1 dX0_findBest_13 rfl (lv_at hl 1 rfl) ?_
  refine x_get (C := RX2) (T := TX2) (N := 14) (v := .int (F 5)) C inX2 hH 6 gX_6 rfl 12 (by decide) rfl rfl 2 rfl dX0_findBest_14 ?_
  refine x_toi h5 ?_
  refine lv_iconst (v := nI 0) C.1 C.2.1 dX0_findBest_17 (by decide) ?_
  refine x_cv (w' := wX G a S T Z.1 ((tS F 12 Z.2.2)) Z.2.1) (va_runS (As := [.ref (a 19), .ref (a 6), .int (nI lv), .int (nI 0)]) (rest := []) (x_fix C hml) (c_X0_tryFrom_3 l G a S T (wsF S lv 0 L) F bs ((-1)) lv (nI 0) lc rc lv nd h5 h6 h1 hl9 hl10 hn hPQ Z (by omega) (by omega) hZ _) (cwS 4 C.2.2.2.1 gX0_findBest_X0_tryFrom rfl rfl rfl (by decide +kernel) ⟨Nat.le_of_ble_eq_true rfl, Nat.le_of_ble_eq_true rfl⟩) (x_ps C hH) rfl rfl hl.1 rfl (lv_room (Nat.le_of_ble_eq_true rfl)) dX0_findBest_18 ⟨Nat.le_of_ble_eq_true rfl, Nat.le_of_ble_eq_true rfl⟩) hH hA (fun H locs hH => ?_)
  have hH := x_eqw (w' := wX G a S T Z.1 (tS F 12 Z.2.2) Z.2.1) (rfl) hH
  exact hE _ _ _ _ hH dX0_findBest_21
set_option maxHeartbeats 400000 in
set_option maxRecDepth 100000 in
theorem c_X0_findBest_4 (l : Launch) (G : xG) (a : Nat → Nat) (S T : Nat → Nat → Int32) (L : Nat → Nat → Int64) (F : Nat → Int32) (bs : Int64) (lc rc : Nat → Nat) (lv nd : Nat) (h5 : F 5 = nI lv) (h6 : F 6 = nI nd) (h1 : 1 ≤ lv) (hl9 : lv ≤ nd) (hl10 : lv ≤ 10) (hn : nd ≤ 19) (hPQ : ∀ i, lv ≤ i → i < nd → T 0 i = nI (lc i) ∧ T 1 i = nI (rc i) ∧ lc i < 19 ∧ rc i < 19) (Z : (Nat → Nat → Int64) × Int64 × Int32) (hm : nd = lv + 4) (hZ : tfF F T lc rc lv nd 4 (nI 0) (wsF S lv 0 L, bs, -1) = Z) : xMv l yX0_findBest wsX0_findBest { frames := 14, cells := 0, slots := 0, locals := 317 } [.ref (a 19), .ref (a 6), .ref (a 1)] G (wX G a S T L F bs) (wX G a S T Z.1 (tS F 12 Z.2.2) Z.2.1) 0 0 := by
  refine x_ofv (cc := cX0_findBest) (maxL := 3) (by decide) rfl (Nat.le_of_ble_eq_true rfl) ?_
  intro p e s m args below meth c ls A Q C hml hA hH hl hE
  have hl : lv_has ls 3 [(0, .ref (a 19)), (1, .ref (a 6)), (2, .ref (a 1))] := hl
  have inX0 : ∀ w ∈ wsX00, w ∈ wsX0_findBest := fun _ h => (List.mem_cons_of_mem _ (List.mem_append_left _ (List.mem_append_left _ (List.mem_append_right _ h))))
  have inX2 : ∀ w ∈ wsX20, w ∈ wsX0_findBest := fun _ h => (List.mem_cons_of_mem _ (List.mem_append_left _ (List.mem_append_right _ h)))
  refine lv_aload_n C.1 C.2.1 dX0_findBest_0 rfl (lv_at hl 0 rfl) ?_
  refine lv_iconst (v := (-1)) C.1 C.2.1 dX0_findBest_1 (by decide) ?_
  refine x_put (C := RX0) (T := TX0) (N := 10) (v := .int ((-1))) (w' := wX G a S T L ((tS F 12 ((-1)))) bs) C inX0 tyX0 tyX0_ok nmX0 hH 19 gX_19 rfl 9 (by decide) rfl rfl rfl rfl (Nat.le_of_ble_eq_true rfl) fX_19_9 1 rfl dX0_findBest_2 (fun H locs hH => ?_)
  refine lv_aload_n C.1 C.2.1 dX0_findBest_5 rfl (lv_at hl 0 rfl) ?_
  refine lv_aload_n C.1 C.2.1 dX0_findBest_6 rfl (lv_at hl 1 rfl) ?_
  refine lv_aload_n C.1 C.2.1 dX0_findBest_7 rfl (lv_at hl 2 rfl) ?_
  refine x_cv (w' := wX G a S T (wsF S lv 0 L) ((tS F 12 ((-1)))) bs) (va_runV (As := [.ref (a 6), .ref (a 1)]) (rest := []) (x_fix C hml) (c_X0_weighSinks l G a S T L ((tS F 12 ((-1)))) bs lv h5 (by omega) _) (cwV 2 C.2.2.2.1 gX0_findBest_X0_weighSinks rfl rfl rfl (by decide +kernel) ⟨Nat.le_of_ble_eq_true rfl, Nat.le_of_ble_eq_true rfl⟩) (x_pv C hH rfl gX_19 rfl rfl) rfl rfl hl.1 rfl (lv_room (Nat.le_of_ble_eq_true rfl)) dX0_findBest_8 ⟨Nat.le_of_ble_eq_true rfl, Nat.le_of_ble_eq_true rfl⟩) hH hA (fun H locs hH => ?_)
  refine lv_aload_n C.1 C.2.1 dX0_findBest_11 rfl (lv_at hl 0 rfl) ?_
  refine lv_aload_n C.1 C.2.1 dX0_findBest_12 rfl (lv_at hl 1 rfl) ?_
  refine lv_aload_n C.1 C.2.1 dX0_findBest_13 rfl (lv_at hl 1 rfl) ?_
  refine x_get (C := RX2) (T := TX2) (N := 14) (v := .int (F 5)) C inX2 hH 6 gX_6 rfl 12 (by decide) rfl rfl 2 rfl dX0_findBest_14 ?_
  refine x_toi h5 ?_
  refine lv_iconst (v := nI 0) C.1 C.2.1 dX0_findBest_17 (by decide) ?_
  refine x_cv (w' := wX G a S T Z.1 ((tS F 12 Z.2.2)) Z.2.1) (va_runS (As := [.ref (a 19), .ref (a 6), .int (nI lv), .int (nI 0)]) (rest := []) (x_fix C hml) (c_X0_tryFrom_4 l G a S T (wsF S lv 0 L) F bs ((-1)) lv (nI 0) lc rc lv nd h5 h6 h1 hl9 hl10 hn hPQ Z (by omega) (by omega) hZ _) (cwS 4 C.2.2.2.1 gX0_findBest_X0_tryFrom rfl rfl rfl (by decide +kernel) ⟨Nat.le_of_ble_eq_true rfl, Nat.le_of_ble_eq_true rfl⟩) (x_ps C hH) rfl rfl hl.1 rfl (lv_room (Nat.le_of_ble_eq_true rfl)) dX0_findBest_18 ⟨Nat.le_of_ble_eq_true rfl, Nat.le_of_ble_eq_true rfl⟩) hH hA (fun H locs hH => ?_)
  have hH := x_eqw (w' := wX G a S T Z.1 (tS F 12 Z.2.2) Z.2.1) (rfl) hH
  exact hE _ _ _ _ hH dX0_findBest_21
set_option maxHeartbeats 400000 in
set_option maxRecDepth 100000 in
theorem c_X0_findBest_5 (l : Launch) (G : xG) (a : Nat → Nat) (S T : Nat → Nat → Int32) (L : Nat → Nat → Int64) (F : Nat → Int32) (bs : Int64) (lc rc : Nat → Nat) (lv nd : Nat) (h5 : F 5 = nI lv) (h6 : F 6 = nI nd) (h1 : 1 ≤ lv) (hl9 : lv ≤ nd) (hl10 : lv ≤ 10) (hn : nd ≤ 19) (hPQ : ∀ i, lv ≤ i → i < nd → T 0 i = nI (lc i) ∧ T 1 i = nI (rc i) ∧ lc i < 19 ∧ rc i < 19) (Z : (Nat → Nat → Int64) × Int64 × Int32) (hm : nd = lv + 5) (hZ : tfF F T lc rc lv nd 5 (nI 0) (wsF S lv 0 L, bs, -1) = Z) : xMv l yX0_findBest wsX0_findBest { frames := 14, cells := 0, slots := 0, locals := 317 } [.ref (a 19), .ref (a 6), .ref (a 1)] G (wX G a S T L F bs) (wX G a S T Z.1 (tS F 12 Z.2.2) Z.2.1) 0 0 := by
  refine x_ofv (cc := cX0_findBest) (maxL := 3) (by decide) rfl (Nat.le_of_ble_eq_true rfl) ?_
  intro p e s m args below meth c ls A Q C hml hA hH hl hE
  have hl : lv_has ls 3 [(0, .ref (a 19)), (1, .ref (a 6)), (2, .ref (a 1))] := hl
  have inX0 : ∀ w ∈ wsX00, w ∈ wsX0_findBest := fun _ h => (List.mem_cons_of_mem _ (List.mem_append_left _ (List.mem_append_left _ (List.mem_append_right _ h))))
  have inX2 : ∀ w ∈ wsX20, w ∈ wsX0_findBest := fun _ h => (List.mem_cons_of_mem _ (List.mem_append_left _ (List.mem_append_right _ h)))
  refine lv_aload_n C.1 C.2.1 dX0_findBest_0 rfl (lv_at hl 0 rfl) ?_
  refine lv_iconst (v := (-1)) C.1 C.2.1 dX0_findBest_1 (by decide) ?_
  refine x_put (C := RX0) (T := TX0) (N := 10) (v := .int ((-1))) (w' := wX G a S T L ((tS F 12 ((-1)))) bs) C inX0 tyX0 tyX0_ok nmX0 hH 19 gX_19 rfl 9 (by decide) rfl rfl rfl rfl (Nat.le_of_ble_eq_true rfl) fX_19_9 1 rfl dX0_findBest_2 (fun H locs hH => ?_)
  refine lv_aload_n C.1 C.2.1 dX0_findBest_5 rfl (lv_at hl 0 rfl) ?_
  refine lv_aload_n C.1 C.2.1 dX0_findBest_6 rfl (lv_at hl 1 rfl) ?_
  refine lv_aload_n C.1 C.2.1 dX0_findBest_7 rfl (lv_at hl 2 rfl) ?_
  refine x_cv (w' := wX G a S T (wsF S lv 0 L) ((tS F 12 ((-1)))) bs) (va_runV (As := [.ref (a 6), .ref (a 1)]) (rest := []) (x_fix C hml) (c_X0_weighSinks l G a S T L ((tS F 12 ((-1)))) bs lv h5 (by omega) _) (cwV 2 C.2.2.2.1 gX0_findBest_X0_weighSinks rfl rfl rfl (by decide +kernel) ⟨Nat.le_of_ble_eq_true rfl, Nat.le_of_ble_eq_true rfl⟩) (x_pv C hH rfl gX_19 rfl rfl) rfl rfl hl.1 rfl (lv_room (Nat.le_of_ble_eq_true rfl)) dX0_findBest_8 ⟨Nat.le_of_ble_eq_true rfl, Nat.le_of_ble_eq_true rfl⟩) hH hA (fun H locs hH => ?_)
  refine lv_aload_n C.1 C.2.1 dX0_findBest_11 rfl (lv_at hl 0 rfl) ?_
  refine lv_aload_n C.1 C.2.1 dX0_findBest_12 rfl (lv_at hl 1 rfl) ?_
  refine lv_aload_n C.1 C.2.1 dX0_findBest_13 rfl (lv_at hl 1 rfl) ?_
  refine x_get (C := RX2) (T := TX2) (N := 14) (v := .int (F 5)) C inX2 hH 6 gX_6 rfl 12 (by decide) rfl rfl 2 rfl dX0_findBest_14 ?_
  refine x_toi h5 ?_
  refine lv_iconst (v := nI 0) C.1 C.2.1 dX0_findBest_17 (by decide) ?_
  refine x_cv (w' := wX G a S T Z.1 ((tS F 12 Z.2.2)) Z.2.1) (va_runS (As := [.ref (a 19), .ref (a 6), .int (nI lv), .int (nI 0)]) (rest := []) (x_fix C hml) (c_X0_tryFrom_5 l G a S T (wsF S lv 0 L) F bs ((-1)) lv (nI 0) lc rc lv nd h5 h6 h1 hl9 hl10 hn hPQ Z (by omega) (by omega) hZ _) (cwS 4 C.2.2.2.1 gX0_findBest_X0_tryFrom rfl rfl rfl (by decide +kernel) ⟨Nat.le_of_ble_eq_true rfl, Nat.le_of_ble_eq_true rfl⟩) (x_ps C hH) rfl rfl hl.1 rfl (lv_room (Nat.le_of_ble_eq_true rfl)) dX0_findBest_18 ⟨Nat.le_of_ble_eq_true rfl, Nat.le_of_ble_eq_true rfl⟩) hH hA (fun H locs hH => ?_)
  have hH := x_eqw (w' := wX G a S T Z.1 (tS F 12 Z.2.2) Z.2.1) (rfl) hH
  exact hE _ _ _ _ hH dX0_findBest_21
set_option maxHeartbeats 400000 in
set_option maxRecDepth 100000 in
theorem c_X0_findBest_6 (l : Launch) (G : xG) (a : Nat → Nat) (S T : Nat → Nat → Int32) (L : Nat → Nat → Int64) (F : Nat → Int32) (bs : Int64) (lc rc : Nat → Nat) (lv nd : Nat) (h5 : F 5 = nI lv) (h6 : F 6 = nI nd) (h1 : 1 ≤ lv) (hl9 : lv ≤ nd) (hl10 : lv ≤ 10) (hn : nd ≤ 19) (hPQ : ∀ i, lv ≤ i → i < nd → T 0 i = nI (lc i) ∧ T 1 i = nI (rc i) ∧ lc i < 19 ∧ rc i < 19) (Z : (Nat → Nat → Int64) × Int64 × Int32) (hm : nd = lv + 6) (hZ : tfF F T lc rc lv nd 6 (nI 0) (wsF S lv 0 L, bs, -1) = Z) : xMv l yX0_findBest wsX0_findBest { frames := 14, cells := 0, slots := 0, locals := 317 } [.ref (a 19), .ref (a 6), .ref (a 1)] G (wX G a S T L F bs) (wX G a S T Z.1 (tS F 12 Z.2.2) Z.2.1) 0 0 := by
  refine x_ofv (cc := cX0_findBest) (maxL := 3) (by decide) rfl (Nat.le_of_ble_eq_true rfl) ?_
  intro p e s m args below meth c ls A Q C hml hA hH hl hE
  have hl : lv_has ls 3 [(0, .ref (a 19)), (1, .ref (a 6)), (2, .ref (a 1))] := hl
  have inX0 : ∀ w ∈ wsX00, w ∈ wsX0_findBest := fun _ h => (List.mem_cons_of_mem _ (List.mem_append_left _ (List.mem_append_left _ (List.mem_append_right _ h))))
  have inX2 : ∀ w ∈ wsX20, w ∈ wsX0_findBest := fun _ h => (List.mem_cons_of_mem _ (List.mem_append_left _ (List.mem_append_right _ h)))
  refine lv_aload_n C.1 C.2.1 dX0_findBest_0 rfl (lv_at hl 0 rfl) ?_
  refine lv_iconst (v := (-1)) C.1 C.2.1 dX0_findBest_1 (by decide) ?_
  refine x_put (C := RX0) (T := TX0) (N := 10) (v := .int ((-1))) (w' := wX G a S T L ((tS F 12 ((-1)))) bs) C inX0 tyX0 tyX0_ok nmX0 hH 19 gX_19 rfl 9 (by decide) rfl rfl rfl rfl (Nat.le_of_ble_eq_true rfl) fX_19_9 1 rfl dX0_findBest_2 (fun H locs hH => ?_)
  refine lv_aload_n C.1 C.2.1 dX0_findBest_5 rfl (lv_at hl 0 rfl) ?_
  refine lv_aload_n C.1 C.2.1 dX0_findBest_6 rfl (lv_at hl 1 rfl) ?_
  refine lv_aload_n C.1 C.2.1 dX0_findBest_7 rfl (lv_at hl 2 rfl) ?_
  refine x_cv (w' := wX G a S T (wsF S lv 0 L) ((tS F 12 ((-1)))) bs) (va_runV (As := [.ref (a 6), .ref (a 1)]) (rest := []) (x_fix C hml) (c_X0_weighSinks l G a S T L ((tS F 12 ((-1)))) bs lv h5 (by omega) _) (cwV 2 C.2.2.2.1 gX0_findBest_X0_weighSinks rfl rfl rfl (by decide +kernel) ⟨Nat.le_of_ble_eq_true rfl, Nat.le_of_ble_eq_true rfl⟩) (x_pv C hH rfl gX_19 rfl rfl) rfl rfl hl.1 rfl (lv_room (Nat.le_of_ble_eq_true rfl)) dX0_findBest_8 ⟨Nat.le_of_ble_eq_true rfl, Nat.le_of_ble_eq_true rfl⟩) hH hA (fun H locs hH => ?_)
  refine lv_aload_n C.1 C.2.1 dX0_findBest_11 rfl (lv_at hl 0 rfl) ?_
  refine lv_aload_n C.1 C.2.1 dX0_findBest_12 rfl (lv_at hl 1 rfl) ?_
  refine lv_aload_n C.1 C.2.1 dX0_findBest_13 rfl (lv_at hl 1 rfl) ?_
  refine x_get (C := RX2) (T := TX2) (N := 14) (v := .int (F 5)) C inX2 hH 6 gX_6 rfl 12 (by decide) rfl rfl 2 rfl dX0_findBest_14 ?_
  refine x_toi h5 ?_
  refine lv_iconst (v := nI 0) C.1 C.2.1 dX0_findBest_17 (by decide) ?_
  refine x_cv (w' := wX G a S T Z.1 ((tS F 12 Z.2.2)) Z.2.1) (va_runS (As := [.ref (a 19), .ref (a 6), .int (nI lv), .int (nI 0)]) (rest := []) (x_fix C hml) (c_X0_tryFrom_6 l G a S T (wsF S lv 0 L) F bs ((-1)) lv (nI 0) lc rc lv nd h5 h6 h1 hl9 hl10 hn hPQ Z (by omega) (by omega) hZ _) (cwS 4 C.2.2.2.1 gX0_findBest_X0_tryFrom rfl rfl rfl (by decide +kernel) ⟨Nat.le_of_ble_eq_true rfl, Nat.le_of_ble_eq_true rfl⟩) (x_ps C hH) rfl rfl hl.1 rfl (lv_room (Nat.le_of_ble_eq_true rfl)) dX0_findBest_18 ⟨Nat.le_of_ble_eq_true rfl, Nat.le_of_ble_eq_true rfl⟩) hH hA (fun H locs hH => ?_)
  have hH := x_eqw (w' := wX G a S T Z.1 (tS F 12 Z.2.2) Z.2.1) (rfl) hH
  exact hE _ _ _ _ hH dX0_findBest_21
set_option maxHeartbeats 400000 in
set_option maxRecDepth 100000 in
theorem c_X0_findBest_7 (l : Launch) (G : xG) (a : Nat → Nat) (S T : Nat → Nat → Int32) (L : Nat → Nat → Int64) (F : Nat → Int32) (bs : Int64) (lc rc : Nat → Nat) (lv nd : Nat) (h5 : F 5 = nI lv) (h6 : F 6 = nI nd) (h1 : 1 ≤ lv) (hl9 : lv ≤ nd) (hl10 : lv ≤ 10) (hn : nd ≤ 19) (hPQ : ∀ i, lv ≤ i → i < nd → T 0 i = nI (lc i) ∧ T 1 i = nI (rc i) ∧ lc i < 19 ∧ rc i < 19) (Z : (Nat → Nat → Int64) × Int64 × Int32) (hm : nd = lv + 7) (hZ : tfF F T lc rc lv nd 7 (nI 0) (wsF S lv 0 L, bs, -1) = Z) : xMv l yX0_findBest wsX0_findBest { frames := 14, cells := 0, slots := 0, locals := 317 } [.ref (a 19), .ref (a 6), .ref (a 1)] G (wX G a S T L F bs) (wX G a S T Z.1 (tS F 12 Z.2.2) Z.2.1) 0 0 := by
  refine x_ofv (cc := cX0_findBest) (maxL := 3) (by decide) rfl (Nat.le_of_ble_eq_true rfl) ?_
  intro p e s m args below meth c ls A Q C hml hA hH hl hE
  have hl : lv_has ls 3 [(0, .ref (a 19)), (1, .ref (a 6)), (2, .ref (a 1))] := hl
  have inX0 : ∀ w ∈ wsX00, w ∈ wsX0_findBest := fun _ h => (List.mem_cons_of_mem _ (List.mem_append_left _ (List.mem_append_left _ (List.mem_append_right _ h))))
  have inX2 : ∀ w ∈ wsX20, w ∈ wsX0_findBest := fun _ h => (List.mem_cons_of_mem _ (List.mem_append_left _ (List.mem_append_right _ h)))
  refine lv_aload_n C.1 C.2.1 dX0_findBest_0 rfl (lv_at hl 0 rfl) ?_
  refine lv_iconst (v := (-1)) C.1 C.2.1 dX0_findBest_1 (by decide) ?_
  refine x_put (C := RX0) (T := TX0) (N := 10) (v := .int ((-1))) (w' := wX G a S T L ((tS F 12 ((-1)))) bs) C inX0 tyX0 tyX0_ok nmX0 hH 19 gX_19 rfl 9 (by decide) rfl rfl rfl rfl (Nat.le_of_ble_eq_true rfl) fX_19_9 1 rfl dX0_findBest_2 (fun H locs hH => ?_)
  refine lv_aload_n C.1 C.2.1 dX0_findBest_5 rfl (lv_at hl 0 rfl) ?_
  refine lv_aload_n C.1 C.2.1 dX0_findBest_6 rfl (lv_at hl 1 rfl) ?_
  refine lv_aload_n C.1 C.2.1 dX0_findBest_7 rfl (lv_at hl 2 rfl) ?_
  refine x_cv (w' := wX G a S T (wsF S lv 0 L) ((tS F 12 ((-1)))) bs) (va_runV (As := [.ref (a 6), .ref (a 1)]) (rest := []) (x_fix C hml) (c_X0_weighSinks l G a S T L ((tS F 12 ((-1)))) bs lv h5 (by omega) _) (cwV 2 C.2.2.2.1 gX0_findBest_X0_weighSinks rfl rfl rfl (by decide +kernel) ⟨Nat.le_of_ble_eq_true rfl, Nat.le_of_ble_eq_true rfl⟩) (x_pv C hH rfl gX_19 rfl rfl) rfl rfl hl.1 rfl (lv_room (Nat.le_of_ble_eq_true rfl)) dX0_findBest_8 ⟨Nat.le_of_ble_eq_true rfl, Nat.le_of_ble_eq_true rfl⟩) hH hA (fun H locs hH => ?_)
  refine lv_aload_n C.1 C.2.1 dX0_findBest_11 rfl (lv_at hl 0 rfl) ?_
  refine lv_aload_n C.1 C.2.1 dX0_findBest_12 rfl (lv_at hl 1 rfl) ?_
  refine lv_aload_n C.1 C.2.1 dX0_findBest_13 rfl (lv_at hl 1 rfl) ?_
  refine x_get (C := RX2) (T := TX2) (N := 14) (v := .int (F 5)) C inX2 hH 6 gX_6 rfl 12 (by decide) rfl rfl 2 rfl dX0_findBest_14 ?_
  refine x_toi h5 ?_
  refine lv_iconst (v := nI 0) C.1 C.2.1 dX0_findBest_17 (by decide) ?_
  refine x_cv (w' := wX G a S T Z.1 ((tS F 12 Z.2.2)) Z.2.1) (va_runS (As := [.ref (a 19), .ref (a 6), .int (nI lv), .int (nI 0)]) (rest := []) (x_fix C hml) (c_X0_tryFrom_7 l G a S T (wsF S lv 0 L) F bs ((-1)) lv (nI 0) lc rc lv nd h5 h6 h1 hl9 hl10 hn hPQ Z (by omega) (by omega) hZ _) (cwS 4 C.2.2.2.1 gX0_findBest_X0_tryFrom rfl rfl rfl (by decide +kernel) ⟨Nat.le_of_ble_eq_true rfl, Nat.le_of_ble_eq_true rfl⟩) (x_ps C hH) rfl rfl hl.1 rfl (lv_room (Nat.le_of_ble_eq_true rfl)) dX0_findBest_18 ⟨Nat.le_of_ble_eq_true rfl, Nat.le_of_ble_eq_true rfl⟩) hH hA (fun H locs hH => ?_)
  have hH := x_eqw (w' := wX G a S T Z.1 (tS F 12 Z.2.2) Z.2.1) (rfl) hH
  exact hE _ _ _ _ hH dX0_findBest_21
set_option maxHeartbeats 400000 in
set_option maxRecDepth 100000 in
theorem c_X0_findBest_8 (l : Launch) (G : xG) (a : Nat → Nat) (S T : Nat → Nat → Int32) (L : Nat → Nat → Int64) (F : Nat → Int32) (bs : Int64) (lc rc : Nat → Nat) (lv nd : Nat) (h5 : F 5 = nI lv) (h6 : F 6 = nI nd) (h1 : 1 ≤ lv) (hl9 : lv ≤ nd) (hl10 : lv ≤ 10) (hn : nd ≤ 19) (hPQ : ∀ i, lv ≤ i → i < nd → T 0 i = nI (lc i) ∧ T 1 i = nI (rc i) ∧ lc i < 19 ∧ rc i < 19) (Z : (Nat → Nat → Int64) × Int64 × Int32) (hm : nd = lv + 8) (hZ : tfF F T lc rc lv nd 8 (nI 0) (wsF S lv 0 L, bs, -1) = Z) : xMv l yX0_findBest wsX0_findBest { frames := 14, cells := 0, slots := 0, locals := 317 } [.ref (a 19), .ref (a 6), .ref (a 1)] G (wX G a S T L F bs) (wX G a S T Z.1 (tS F 12 Z.2.2) Z.2.1) 0 0 := by
  refine x_ofv (cc := cX0_findBest) (maxL := 3) (by decide) rfl (Nat.le_of_ble_eq_true rfl) ?_
  intro p e s m args below meth c ls A Q C hml hA hH hl hE
  have hl : lv_has ls 3 [(0, .ref (a 19)), (1, .ref (a 6)), (2, .ref (a 1))] := hl
  have inX0 : ∀ w ∈ wsX00, w ∈ wsX0_findBest := fun _ h => (List.mem_cons_of_mem _ (List.mem_append_left _ (List.mem_append_left _ (List.mem_append_right _ h))))
  have inX2 : ∀ w ∈ wsX20, w ∈ wsX0_findBest := fun _ h => (List.mem_cons_of_mem _ (List.mem_append_left _ (List.mem_append_right _ h)))
  refine lv_aload_n C.1 C.2.1 dX0_findBest_0 rfl (lv_at hl 0 rfl) ?_
  refine lv_iconst (v := (-1)) C.1 C.2.1 dX0_findBest_1 (by decide) ?_
  refine x_put (C := RX0) (T := TX0) (N := 10) (v := .int ((-1))) (w' := wX G a S T L ((tS F 12 ((-1)))) bs) C inX0 tyX0 tyX0_ok nmX0 hH 19 gX_19 rfl 9 (by decide) rfl rfl rfl rfl (Nat.le_of_ble_eq_true rfl) fX_19_9 1 rfl dX0_findBest_2 (fun H locs hH => ?_)
  refine lv_aload_n C.1 C.2.1 dX0_findBest_5 rfl (lv_at hl 0 rfl) ?_
  refine lv_aload_n C.1 C.2.1 dX0_findBest_6 rfl (lv_at hl 1 rfl) ?_
  refine lv_aload_n C.1 C.2.1 dX0_findBest_7 rfl (lv_at hl 2 rfl) ?_
  refine x_cv (w' := wX G a S T (wsF S lv 0 L) ((tS F 12 ((-1)))) bs) (va_runV (As := [.ref (a 6), .ref (a 1)]) (rest := []) (x_fix C hml) (c_X0_weighSinks l G a S T L ((tS F 12 ((-1)))) bs lv h5 (by omega) _) (cwV 2 C.2.2.2.1 gX0_findBest_X0_weighSinks rfl rfl rfl (by decide +kernel) ⟨Nat.le_of_ble_eq_true rfl, Nat.le_of_ble_eq_true rfl⟩) (x_pv C hH rfl gX_19 rfl rfl) rfl rfl hl.1 rfl (lv_room (Nat.le_of_ble_eq_true rfl)) dX0_findBest_8 ⟨Nat.le_of_ble_eq_true rfl, Nat.le_of_ble_eq_true rfl⟩) hH hA (fun H locs hH => ?_)
  refine lv_aload_n C.1 C.2.1 dX0_findBest_11 rfl (lv_at hl 0 rfl) ?_
  refine lv_aload_n C.1 C.2.1 dX0_findBest_12 rfl (lv_at hl 1 rfl) ?_
  refine lv_aload_n C.1 C.2.1 dX0_findBest_13 rfl (lv_at hl 1 rfl) ?_
  refine x_get (C := RX2) (T := TX2) (N := 14) (v := .int (F 5)) C inX2 hH 6 gX_6 rfl 12 (by decide) rfl rfl 2 rfl dX0_findBest_14 ?_
  refine x_toi h5 ?_
  refine lv_iconst (v := nI 0) C.1 C.2.1 dX0_findBest_17 (by decide) ?_
  refine x_cv (w' := wX G a S T Z.1 ((tS F 12 Z.2.2)) Z.2.1) (va_runS (As := [.ref (a 19), .ref (a 6), .int (nI lv), .int (nI 0)]) (rest := []) (x_fix C hml) (c_X0_tryFrom_8 l G a S T (wsF S lv 0 L) F bs ((-1)) lv (nI 0) lc rc lv nd h5 h6 h1 hl9 hl10 hn hPQ Z (by omega) (by omega) hZ _) (cwS 4 C.2.2.2.1 gX0_findBest_X0_tryFrom rfl rfl rfl (by decide +kernel) ⟨Nat.le_of_ble_eq_true rfl, Nat.le_of_ble_eq_true rfl⟩) (x_ps C hH) rfl rfl hl.1 rfl (lv_room (Nat.le_of_ble_eq_true rfl)) dX0_findBest_18 ⟨Nat.le_of_ble_eq_true rfl, Nat.le_of_ble_eq_true rfl⟩) hH hA (fun H locs hH => ?_)
  have hH := x_eqw (w' := wX G a S T Z.1 (tS F 12 Z.2.2) Z.2.1) (rfl) hH
  exact hE _ _ _ _ hH dX0_findBest_21
set_option maxHeartbeats 400000 in
set_option maxRecDepth 100000 in
theorem c_X0_findBest_9 (l : Launch) (G : xG) (a : Nat → Nat) (S T : Nat → Nat → Int32) (L : Nat → Nat → Int64) (F : Nat → Int32) (bs : Int64) (lc rc : Nat → Nat) (lv nd : Nat) (h5 : F 5 = nI lv) (h6 : F 6 = nI nd) (h1 : 1 ≤ lv) (hl9 : lv ≤ nd) (hl10 : lv ≤ 10) (hn : nd ≤ 19) (hPQ : ∀ i, lv ≤ i → i < nd → T 0 i = nI (lc i) ∧ T 1 i = nI (rc i) ∧ lc i < 19 ∧ rc i < 19) (Z : (Nat → Nat → Int64) × Int64 × Int32) (hm : nd = lv + 9) (hZ : tfF F T lc rc lv nd 9 (nI 0) (wsF S lv 0 L, bs, -1) = Z) : xMv l yX0_findBest wsX0_findBest { frames := 14, cells := 0, slots := 0, locals := 317 } [.ref (a 19), .ref (a 6), .ref (a 1)] G (wX G a S T L F bs) (wX G a S T Z.1 (tS F 12 Z.2.2) Z.2.1) 0 0 := by
  refine x_ofv (cc := cX0_findBest) (maxL := 3) (by decide) rfl (Nat.le_of_ble_eq_true rfl) ?_
  intro p e s m args below meth c ls A Q C hml hA hH hl hE
  have hl : lv_has ls 3 [(0, .ref (a 19)), (1, .ref (a 6)), (2, .ref (a 1))] := hl
  have inX0 : ∀ w ∈ wsX00, w ∈ wsX0_findBest := fun _ h => (List.mem_cons_of_mem _ (List.mem_append_left _ (List.mem_append_left _ (List.mem_append_right _ h))))
  have inX2 : ∀ w ∈ wsX20, w ∈ wsX0_findBest := fun _ h => (List.mem_cons_of_mem _ (List.mem_append_left _ (List.mem_append_right _ h)))
  refine lv_aload_n C.1 C.2.1 dX0_findBest_0 rfl (lv_at hl 0 rfl) ?_
  refine lv_iconst (v := (-1)) C.1 C.2.1 dX0_findBest_1 (by decide) ?_
  refine x_put (C := RX0) (T := TX0) (N := 10) (v := .int ((-1))) (w' := wX G a S T L ((tS F 12 ((-1)))) bs) C inX0 tyX0 tyX0_ok nmX0 hH 19 gX_19 rfl 9 (by decide) rfl rfl rfl rfl (Nat.le_of_ble_eq_true rfl) fX_19_9 1 rfl dX0_findBest_2 (fun H locs hH => ?_)
  refine lv_aload_n C.1 C.2.1 dX0_findBest_5 rfl (lv_at hl 0 rfl) ?_
  refine lv_aload_n C.1 C.2.1 dX0_findBest_6 rfl (lv_at hl 1 rfl) ?_
  refine lv_aload_n C.1 C.2.1 dX0_findBest_7 rfl (lv_at hl 2 rfl) ?_
  refine x_cv (w' := wX G a S T (wsF S lv 0 L) ((tS F 12 ((-1)))) bs) (va_runV (As := [.ref (a 6), .ref (a 1)]) (rest := []) (x_fix C hml) (c_X0_weighSinks l G a S T L ((tS F 12 ((-1)))) bs lv h5 (by omega) _) (cwV 2 C.2.2.2.1 gX0_findBest_X0_weighSinks rfl rfl rfl (by decide +kernel) ⟨Nat.le_of_ble_eq_true rfl, Nat.le_of_ble_eq_true rfl⟩) (x_pv C hH rfl gX_19 rfl rfl) rfl rfl hl.1 rfl (lv_room (Nat.le_of_ble_eq_true rfl)) dX0_findBest_8 ⟨Nat.le_of_ble_eq_true rfl, Nat.le_of_ble_eq_true rfl⟩) hH hA (fun H locs hH => ?_)
  refine lv_aload_n C.1 C.2.1 dX0_findBest_11 rfl (lv_at hl 0 rfl) ?_
  refine lv_aload_n C.1 C.2.1 dX0_findBest_12 rfl (lv_at hl 1 rfl) ?_
  refine lv_aload_n C.1 C.2.1 dX0_findBest_13 rfl (lv_at hl 1 rfl) ?_
  refine x_get (C := RX2) (T := TX2) (N := 14) (v := .int (F 5)) C inX2 hH 6 gX_6 rfl 12 (by decide) rfl rfl 2 rfl dX0_findBest_14 ?_
  refine x_toi h5 ?_
  refine lv_iconst (v := nI 0) C.1 C.2.1 dX0_findBest_17 (by decide) ?_
  refine x_cv (w' := wX G a S T Z.1 ((tS F 12 Z.2.2)) Z.2.1) (va_runS (As := [.ref (a 19), .ref (a 6), .int (nI lv), .int (nI 0)]) (rest := []) (x_fix C hml) (c_X0_tryFrom_9 l G a S T (wsF S lv 0 L) F bs ((-1)) lv (nI 0) lc rc lv nd h5 h6 h1 hl9 hl10 hn hPQ Z (by omega) (by omega) hZ _) (cwS 4 C.2.2.2.1 gX0_findBest_X0_tryFrom rfl rfl rfl (by decide +kernel) ⟨Nat.le_of_ble_eq_true rfl, Nat.le_of_ble_eq_true rfl⟩) (x_ps C hH) rfl rfl hl.1 rfl (lv_room (Nat.le_of_ble_eq_true rfl)) dX0_findBest_18 ⟨Nat.le_of_ble_eq_true rfl, Nat.le_of_ble_eq_true rfl⟩) hH hA (fun H locs hH => ?_)
  have hH := x_eqw (w' := wX G a S T Z.1 (tS F 12 Z.2.2) Z.2.1) (rfl) hH
  exact hE _ _ _ _ hH dX0_findBest_21
theorem c_X0_findBest (l : Launch) (G : xG) (a : Nat → Nat) (S T : Nat → Nat → Int32) (L : Nat → Nat → Int64) (F : Nat → Int32) (bs : Int64) (lc rc : Nat → Nat) (lv nd : Nat) (h5 : F 5 = nI lv) (h6 : F 6 = nI nd) (h1 : 1 ≤ lv) (hl9 : lv ≤ nd) (hl10 : lv ≤ 10) (hn : nd ≤ 19) (hPQ : ∀ i, lv ≤ i → i < nd → T 0 i = nI (lc i) ∧ T 1 i = nI (rc i) ∧ lc i < 19 ∧ rc i < 19) (Z : (Nat → Nat → Int64) × Int64 × Int32) (hm : nd - lv < 10) (hZ : tfF F T lc rc lv nd (nd - lv) (nI 0) (wsF S lv 0 L, bs, -1) = Z) : xMv l yX0_findBest wsX0_findBest { frames := 14, cells := 0, slots := 0, locals := 317 } [.ref (a 19), .ref (a 6), .ref (a 1)] G (wX G a S T L F bs) (wX G a S T Z.1 (tS F 12 Z.2.2) Z.2.1) 0 0 := by
  obtain ⟨m, hm2⟩ : ∃ m, nd = lv + m := ⟨nd - lv, by omega⟩
  rw [show nd - lv = m by omega] at hm hZ
  rcases (show m = 0 ∨ m = 1 ∨ m = 2 ∨ m = 3 ∨ m = 4 ∨ m = 5 ∨ m = 6 ∨ m = 7 ∨ m = 8 ∨ m = 9 by omega) with rfl | rfl | rfl | rfl | rfl | rfl | rfl | rfl | rfl | rfl
  · exact c_X0_findBest_0 l G a S T L F bs lc rc lv nd h5 h6 h1 hl9 hl10 hn hPQ Z hm2 hZ
  · exact c_X0_findBest_1 l G a S T L F bs lc rc lv nd h5 h6 h1 hl9 hl10 hn hPQ Z hm2 hZ
  · exact c_X0_findBest_2 l G a S T L F bs lc rc lv nd h5 h6 h1 hl9 hl10 hn hPQ Z hm2 hZ
  · exact c_X0_findBest_3 l G a S T L F bs lc rc lv nd h5 h6 h1 hl9 hl10 hn hPQ Z hm2 hZ
  · exact c_X0_findBest_4 l G a S T L F bs lc rc lv nd h5 h6 h1 hl9 hl10 hn hPQ Z hm2 hZ
  · exact c_X0_findBest_5 l G a S T L F bs lc rc lv nd h5 h6 h1 hl9 hl10 hn hPQ Z hm2 hZ
  · exact c_X0_findBest_6 l G a S T L F bs lc rc lv nd h5 h6 h1 hl9 hl10 hn hPQ Z hm2 hZ
  · exact c_X0_findBest_7 l G a S T L F bs lc rc lv nd h5 h6 h1 hl9 hl10 hn hPQ Z hm2 hZ
  · exact c_X0_findBest_8 l G a S T L F bs lc rc lv nd h5 h6 h1 hl9 hl10 hn hPQ Z hm2 hZ
  · exact c_X0_findBest_9 l G a S T L F bs lc rc lv nd h5 h6 h1 hl9 hl10 hn hPQ Z hm2 hZ
theorem c_X2_partOf (l : Launch) (G : xG) (a : Nat → Nat) (S T : Nat → Nat → Int32) (L : Nat → Nat → Int64) (F : Nat → Int32) (bs : Int64) (k q : Nat) (hk : k < 19) (hq : q < 11) : xMi l yX2_partOf wsX2_partOf { frames := 0, cells := 0, slots := 0, locals := 0 } [.ref (a 6), .int (nI k), .int (nI q)] G (wX G a S T L F bs) (T q k) (wX G a S T L F bs) 0 0 := by
  rcases (show q = 0 ∨ q = 1 ∨ q = 2 ∨ q = 3 ∨ q = 4 ∨ q = 5 ∨ q = 6 ∨ q = 7 ∨ q = 8 ∨ q = 9 ∨ q = 10 by omega) with rfl | rfl | rfl | rfl | rfl | rfl | rfl | rfl | rfl | rfl | rfl
  · exact c_X2_partOf_0 l G a S T L F bs k hk
  · exact c_X2_partOf_1 l G a S T L F bs k hk
  · exact c_X2_partOf_2 l G a S T L F bs k hk
  · exact c_X2_partOf_3 l G a S T L F bs k hk
  · exact c_X2_partOf_4 l G a S T L F bs k hk
  · exact c_X2_partOf_5 l G a S T L F bs k hk
  · exact c_X2_partOf_6 l G a S T L F bs k hk
  · exact c_X2_partOf_7 l G a S T L F bs k hk
  · exact c_X2_partOf_8 l G a S T L F bs k hk
  · exact c_X2_partOf_9 l G a S T L F bs k hk
  · exact c_X2_partOf_10 l G a S T L F bs k hk
set_option maxHeartbeats 400000 in
set_option maxRecDepth 100000 in
theorem c_X3_requireTree (l : Launch) (G : xG) (a : Nat → Nat) (S T : Nat → Nat → Int32) (L : Nat → Nat → Int64) (F : Nat → Int32) (bs : Int64) (h2 : F 2 = nI 1) : xMv l yX3_requireTree wsX3_requireTree { frames := 0, cells := 0, slots := 0, locals := 0 } [.ref (a 0)] G (wX G a S T L F bs) (wX G a S T L F bs) 0 0 := by
  refine x_ofv (cc := cX3_requireTree) (maxL := 1) (by decide) rfl (Nat.le_of_ble_eq_true rfl) ?_
  intro p e s m args below meth c ls A Q C hml hA hH hl hE
  have hl : lv_has ls 1 [(0, .ref (a 0))] := hl
  have inX3 : ∀ w ∈ wsX30, w ∈ wsX3_requireTree := fun _ h => (List.mem_cons_of_mem _ (List.mem_append_left _ (List.mem_append_right _ h)))
  refine lv_aload_n C.1 C.2.1 dX3_requireTree_0 rfl (lv_at hl 0 rfl) ?_
  refine x_get (C := RX3) (T := TX3) (N := 7) (v := .int (F 2)) C inX3 hH 0 gX_0 rfl 5 (by decide) rfl rfl 3 rfl dX3_requireTree_1 ?_
  refine x_toi h2 ?_
  refine lv_if_ne (tgt := 17) C.1 C.2.1 dX3_requireTree_4 (by decide) (fun _ => ?_) (fun c_1 => absurd (c_1) (by decide))
  exact hE _ _ _ _ hH dX3_requireTree_17
set_option maxHeartbeats 400000 in
set_option maxRecDepth 100000 in
theorem c_X3_requireSink (l : Launch) (G : xG) (a : Nat → Nat) (S T : Nat → Nat → Int32) (L : Nat → Nat → Int64) (F : Nat → Int32) (bs : Int64) (k lv : Nat) (h5 : F 5 = nI lv) (hk : k < lv) (hl10 : lv ≤ 10) : xMv l yX3_requireSink wsX3_requireSink { frames := 1, cells := 0, slots := 0, locals := 22 } [.ref (a 0), .int (nI k)] G (wX G a S T L F bs) (wX G a S T L F bs) 0 0 := by
  have hk1 : inW (nI k) (nI 0) (nI (lv - 1)) := inN (by omega) (by omega) (by omega)
  refine x_ofv (cc := cX3_requireSink) (maxL := 2) (by decide) rfl (Nat.le_of_ble_eq_true rfl) ?_
  intro p e s m args below meth c ls A Q C hml hA hH hl hE
  have hl : lv_has ls 2 [(0, .ref (a 0)), (1, .int (nI k))] := hl
  have inX2 : ∀ w ∈ wsX20, w ∈ wsX3_requireSink := fun _ h => (List.mem_cons_of_mem _ (List.mem_append_left _ (List.mem_append_right _ h)))
  have inX3 : ∀ w ∈ wsX30, w ∈ wsX3_requireSink := fun _ h => (List.mem_cons_of_mem _ (List.mem_append_left _ (List.mem_append_left _ (List.mem_append_right _ h))))
  refine lv_iload_n C.1 C.2.1 dX3_requireSink_0 rfl (lv_at hl 1 rfl) ?_
  refine lv_iconst (v := nI 0) C.1 C.2.1 dX3_requireSink_1 (by decide) ?_
  refine lv_aload_n C.1 C.2.1 dX3_requireSink_2 rfl (lv_at hl 0 rfl) ?_
  refine x_get (C := RX3) (T := TX3) (N := 7) (v := .ref (a 6)) C inX3 hH 0 gX_0 rfl 1 (by decide) rfl rfl 3 rfl dX3_requireSink_3 ?_
  refine x_get (C := RX2) (T := TX2) (N := 14) (v := .int (F 5)) C inX2 hH 6 gX_6 rfl 12 (by decide) rfl rfl 4 rfl dX3_requireSink_6 ?_
  refine x_toi h5 ?_
  refine lv_iconst (v := nI 1) C.1 C.2.1 dX3_requireSink_9 (by decide) ?_
  refine lv_isub C.1 C.2.1 dX3_requireSink_10 ?_
  refine x_toi (pk_sub (a := lv) (b := 1) (by omega)) ?_
  refine x_ci (w' := wX G a S T L F bs) (va_runS (As := [.int (nI k), .int (nI 0), .int (nI (lv - 1))]) (rest := []) (x_fix C hml) (c_X3_isWithin l G a S T L F bs (nI k) (nI 0) (nI (lv - 1)) _) (cwS 3 C.2.2.2.1 gX3_requireSink_X3_isWithin rfl rfl rfl (by decide +kernel) ⟨Nat.le_of_ble_eq_true rfl, Nat.le_of_ble_eq_true rfl⟩) (x_ps C hH) rfl rfl hl.1 rfl (lv_room (Nat.le_of_ble_eq_true rfl)) dX3_requireSink_11 ⟨Nat.le_of_ble_eq_true rfl, Nat.le_of_ble_eq_true rfl⟩) hH hA (fun H locs hH => ?_)
  refine lv_if_ne (tgt := 27) C.1 C.2.1 dX3_requireSink_14 (by decide) (fun _ => ?_) (fun z8 => absurd z8 (fun z9 => xb_0.mp z9 hk1))
  exact hE _ _ _ _ hH dX3_requireSink_27
set_option maxHeartbeats 400000 in
set_option maxRecDepth 100000 in
theorem c_X3_sink (l : Launch) (G : xG) (a : Nat → Nat) (S T : Nat → Nat → Int32) (L : Nat → Nat → Int64) (F : Nat → Int32) (bs : Int64) (x y z u : Int32) (ct : Nat) (h4 : F 4 = nI ct) (hc : ct < 10) (hxy : inW x (nI 0) (nI 200) ∧ inW y (nI 0) (nI 200)) (hz : inW z (nI 1) (nI 100)) (hu : inW u (nI 0) (nI 1000000000)) : xMi l yX3_sink wsX3_sink { frames := 2, cells := 0, slots := 0, locals := 43 } [.ref (a 0), .int x, .int y, .int z, .int u] G (wX G a S T L F bs) (nI ct) (wX G a (appS S ct x y z u) T L (tS (tS F 2 (nI 0)) 4 (nI (ct + 1))) bs) 0 0 := by
  refine x_ofi (cc := cX3_sink) (maxL := 5) (ty := .int) (by decide) rfl (Nat.le_of_ble_eq_true rfl) ?_
  intro p e s m args below meth c ls A Q C hml hA hH hl hE
  have hl : lv_has ls 5 [(0, .ref (a 0)), (1, .int x), (2, .int y), (3, .int z), (4, .int u)] := hl
  have inX1 : ∀ w ∈ wsX10, w ∈ wsX3_sink := fun _ h => (List.mem_cons_of_mem _ (List.mem_append_left _ (List.mem_append_left _ (List.mem_append_right _ h))))
  have inX3 : ∀ w ∈ wsX30, w ∈ wsX3_sink := fun _ h => (List.mem_cons_of_mem _ (List.mem_append_left _ (List.mem_append_left _ (List.mem_append_left _ (List.mem_append_right _ h)))))
  refine lv_iload_n C.1 C.2.1 dX3_sink_0 rfl (lv_at hl 1 rfl) ?_
  refine lv_iload_n C.1 C.2.1 dX3_sink_1 rfl (lv_at hl 2 rfl) ?_
  refine x_ci (w' := wX G a S T L F bs) (va_runS (As := [.int x, .int y]) (rest := []) (x_fix C hml) (c_X3_isPlace l G a S T L F bs x y _) (cwS 2 C.2.2.2.1 gX3_sink_X3_isPlace rfl rfl rfl (by decide +kernel) ⟨Nat.le_of_ble_eq_true rfl, Nat.le_of_ble_eq_true rfl⟩) (x_ps C hH) rfl rfl hl.1 rfl (lv_room (Nat.le_of_ble_eq_true rfl)) dX3_sink_2 ⟨Nat.le_of_ble_eq_true rfl, Nat.le_of_ble_eq_true rfl⟩) hH hA (fun H locs hH => ?_)
  refine lv_if_eq (tgt := 29) C.1 C.2.1 dX3_sink_5 (by decide) (fun z8 => absurd z8 (fun z9 => xb_0.mp z9 hxy)) (fun _ => ?_)
  refine lv_iload_n C.1 C.2.1 dX3_sink_8 rfl (lv_at hl 3 rfl) ?_
  refine lv_iconst (v := nI 1) C.1 C.2.1 dX3_sink_9 (by decide) ?_
  refine lv_bipush (v := nI 100) C.1 C.2.1 dX3_sink_10 (by decide) ?_
  refine x_ci (w' := wX G a S T L F bs) (va_runS (As := [.int z, .int (nI 1), .int (nI 100)]) (rest := []) (x_fix C hml) (c_X3_isWithin l G a S T L F bs z (nI 1) (nI 100) _) (cwS 3 C.2.2.2.1 gX3_sink_X3_isWithin rfl rfl rfl (by decide +kernel) ⟨Nat.le_of_ble_eq_true rfl, Nat.le_of_ble_eq_true rfl⟩) (x_ps C hH) rfl rfl hl.1 rfl (lv_room (Nat.le_of_ble_eq_true rfl)) dX3_sink_12 ⟨Nat.le_of_ble_eq_true rfl, Nat.le_of_ble_eq_true rfl⟩) hH hA (fun H locs hH => ?_)
  refine lv_if_eq (tgt := 29) C.1 C.2.1 dX3_sink_15 (by decide) (fun z8 => absurd z8 (fun z9 => xb_0.mp z9 hz)) (fun _ => ?_)
  refine lv_iload C.1 C.2.1 dX3_sink_18 (lv_at hl 4 rfl) ?_
  refine lv_iconst (v := nI 0) C.1 C.2.1 dX3_sink_20 (by decide) ?_
  refine lv_ldc C.1 C.2.1 C.2.2.1 (C.2.2.2.1 _ (List.mem_of_getElem? (i := 5) rfl)) dX3_sink_21 ?_
  refine x_toi (show (1000000000 : Int32) = nI 1000000000 by decide) ?_
  refine x_ci (w' := wX G a S T L F bs) (va_runS (As := [.int u, .int (nI 0), .int (nI 1000000000)]) (rest := []) (x_fix C hml) (c_X3_isWithin l G a S T L F bs u (nI 0) (nI 1000000000) _) (cwS 3 C.2.2.2.1 gX3_sink_X3_isWithin rfl rfl rfl (by decide +kernel) ⟨Nat.le_of_ble_eq_true rfl, Nat.le_of_ble_eq_true rfl⟩) (x_ps C hH) rfl rfl hl.1 rfl (lv_room (Nat.le_of_ble_eq_true rfl)) dX3_sink_23 ⟨Nat.le_of_ble_eq_true rfl, Nat.le_of_ble_eq_true rfl⟩) hH hA (fun H locs hH => ?_)
  refine lv_if_ne (tgt := 39) C.1 C.2.1 dX3_sink_26 (by decide) (fun _ => ?_) (fun z8 => absurd z8 (fun z9 => xb_0.mp z9 hu))
  refine lv_aload_n C.1 C.2.1 dX3_sink_39 rfl (lv_at hl 0 rfl) ?_
  refine x_get (C := RX3) (T := TX3) (N := 7) (v := .ref (a 1)) C inX3 hH 0 gX_0 rfl 0 (by decide) rfl rfl 6 rfl dX3_sink_40 ?_
  refine x_get (C := RX1) (T := TX1) (N := 5) (v := .int (F 4)) C inX1 hH 1 gX_1 rfl 4 (by decide) rfl rfl 7 rfl dX3_sink_43 ?_
  refine x_toi h4 ?_
  refine lv_bipush (v := nI 10) C.1 C.2.1 dX3_sink_46 (by decide) ?_
  refine lv_icmp_lt (tgt := 61) C.1 C.2.1 dX3_sink_48 (by decide) (fun _ => ?_) (fun c_4 => absurd ((nI_ltI (by omega) (by omega)).mpr (by omega)) c_4)
  refine lv_aload_n C.1 C.2.1 dX3_sink_61 rfl (lv_at hl 0 rfl) ?_
  refine lv_iconst (v := nI 0) C.1 C.2.1 dX3_sink_62 (by decide) ?_
  refine x_put (C := RX3) (T := TX3) (N := 7) (v := .int (nI 0)) (w' := wX G a S T L ((tS F 2 (nI 0))) bs) C inX3 tyX3 tyX3_ok nmX3 hH 0 gX_0 rfl 5 (by decide) rfl rfl (by decide) rfl (Nat.le_of_ble_eq_true rfl) fX_0_5 8 rfl dX3_sink_63 (fun H locs hH => ?_)
  refine lv_aload_n C.1 C.2.1 dX3_sink_66 rfl (lv_at hl 0 rfl) ?_
  refine x_get (C := RX3) (T := TX3) (N := 7) (v := .ref (a 1)) C inX3 hH 0 gX_0 rfl 0 (by decide) rfl rfl 6 rfl dX3_sink_67 ?_
  refine lv_iload_n C.1 C.2.1 dX3_sink_70 rfl (lv_at hl 1 rfl) ?_
  refine lv_iload_n C.1 C.2.1 dX3_sink_71 rfl (lv_at hl 2 rfl) ?_
  refine lv_iload_n C.1 C.2.1 dX3_sink_72 rfl (lv_at hl 3 rfl) ?_
  refine lv_iload C.1 C.2.1 dX3_sink_73 (lv_at hl 4 rfl) ?_
  refine x_ci (w' := wX G a (appS S ct x y z u) T L ((tS ((tS F 2 (nI 0))) 4 (nI (ct + 1)))) bs) (va_runV (As := [.int x, .int y, .int z, .int u]) (rest := []) (x_fix C hml) (c_X1_append l G a S T L ((tS F 2 (nI 0))) bs x y z u ct h4 (by omega) _) (cwV 4 C.2.2.2.1 gX3_sink_X1_append rfl rfl rfl (by decide +kernel) ⟨Nat.le_of_ble_eq_true rfl, Nat.le_of_ble_eq_true rfl⟩) (x_pv C hH rfl gX_1 rfl rfl) rfl rfl hl.1 rfl (lv_room (Nat.le_of_ble_eq_true rfl)) dX3_sink_75 ⟨Nat.le_of_ble_eq_true rfl, Nat.le_of_ble_eq_true rfl⟩) hH hA (fun H locs hH => ?_)
  have hH := x_eqw (w' := wX G a (appS S ct x y z u) T L (tS (tS F 2 (nI 0)) 4 (nI (ct + 1))) bs) (rfl) hH
  exact hE _ _ _ _ _ hH (rfl) (rfl) dX3_sink_78
set_option maxHeartbeats 400000 in
set_option maxRecDepth 100000 in
theorem c_X3_cut (l : Launch) (G : xG) (a : Nat → Nat) (S T : Nat → Nat → Int32) (L : Nat → Nat → Int64) (F : Nat → Int32) (bs : Int64) (k ct : Nat) (h4 : F 4 = nI ct) (hc : ct ≤ 10) (hk : k ≤ ct) : xMv l yX3_cut wsX3_cut { frames := 1, cells := 0, slots := 0, locals := 22 } [.ref (a 0), .int (nI k)] G (wX G a S T L F bs) (wX G a S T L (tS (tS F 2 (nI 0)) 4 (nI k)) bs) 0 0 := by
  have hk1 : inW (nI k) (nI 0) (nI ct) := inN (by omega) (by omega) (by omega)
  refine x_ofv (cc := cX3_cut) (maxL := 2) (by decide) rfl (Nat.le_of_ble_eq_true rfl) ?_
  intro p e s m args below meth c ls A Q C hml hA hH hl hE
  have hl : lv_has ls 2 [(0, .ref (a 0)), (1, .int (nI k))] := hl
  have inX1 : ∀ w ∈ wsX10, w ∈ wsX3_cut := fun _ h => (List.mem_cons_of_mem _ (List.mem_append_left _ (List.mem_append_right _ h)))
  have inX3 : ∀ w ∈ wsX30, w ∈ wsX3_cut := fun _ h => (List.mem_cons_of_mem _ (List.mem_append_left _ (List.mem_append_left _ (List.mem_append_right _ h))))
  refine lv_iload_n C.1 C.2.1 dX3_cut_0 rfl (lv_at hl 1 rfl) ?_
  refine lv_iconst (v := nI 0) C.1 C.2.1 dX3_cut_1 (by decide) ?_
  refine lv_aload_n C.1 C.2.1 dX3_cut_2 rfl (lv_at hl 0 rfl) ?_
  refine x_get (C := RX3) (T := TX3) (N := 7) (v := .ref (a 1)) C inX3 hH 0 gX_0 rfl 0 (by decide) rfl rfl 3 rfl dX3_cut_3 ?_
  refine x_get (C := RX1) (T := TX1) (N := 5) (v := .int (F 4)) C inX1 hH 1 gX_1 rfl 4 (by decide) rfl rfl 4 rfl dX3_cut_6 ?_
  refine x_toi h4 ?_
  refine x_ci (w' := wX G a S T L F bs) (va_runS (As := [.int (nI k), .int (nI 0), .int (nI ct)]) (rest := []) (x_fix C hml) (c_X3_isWithin l G a S T L F bs (nI k) (nI 0) (nI ct) _) (cwS 3 C.2.2.2.1 gX3_cut_X3_isWithin rfl rfl rfl (by decide +kernel) ⟨Nat.le_of_ble_eq_true rfl, Nat.le_of_ble_eq_true rfl⟩) (x_ps C hH) rfl rfl hl.1 rfl (lv_room (Nat.le_of_ble_eq_true rfl)) dX3_cut_9 ⟨Nat.le_of_ble_eq_true rfl, Nat.le_of_ble_eq_true rfl⟩) hH hA (fun H locs hH => ?_)
  refine lv_if_ne (tgt := 25) C.1 C.2.1 dX3_cut_12 (by decide) (fun _ => ?_) (fun z8 => absurd z8 (fun z9 => xb_0.mp z9 hk1))
  refine lv_aload_n C.1 C.2.1 dX3_cut_25 rfl (lv_at hl 0 rfl) ?_
  refine lv_iconst (v := nI 0) C.1 C.2.1 dX3_cut_26 (by decide) ?_
  refine x_put (C := RX3) (T := TX3) (N := 7) (v := .int (nI 0)) (w' := wX G a S T L ((tS F 2 (nI 0))) bs) C inX3 tyX3 tyX3_ok nmX3 hH 0 gX_0 rfl 5 (by decide) rfl rfl (by decide) rfl (Nat.le_of_ble_eq_true rfl) fX_0_5 5 rfl dX3_cut_27 (fun H locs hH => ?_)
  refine lv_aload_n C.1 C.2.1 dX3_cut_30 rfl (lv_at hl 0 rfl) ?_
  refine x_get (C := RX3) (T := TX3) (N := 7) (v := .ref (a 1)) C inX3 hH 0 gX_0 rfl 0 (by decide) rfl rfl 3 rfl dX3_cut_31 ?_
  refine lv_iload_n C.1 C.2.1 dX3_cut_34 rfl (lv_at hl 1 rfl) ?_
  refine x_put (C := RX1) (T := TX1) (N := 5) (v := .int (nI k)) (w' := wX G a S T L ((tS ((tS F 2 (nI 0))) 4 (nI k))) bs) C inX1 tyX1 tyX1_ok nmX1 hH 1 gX_1 rfl 4 (by decide) rfl rfl rfl rfl (Nat.le_of_ble_eq_true rfl) fX_1_4 4 rfl dX3_cut_35 (fun H locs hH => ?_)
  have hH := x_eqw (w' := wX G a S T L (tS (tS F 2 (nI 0)) 4 (nI k)) bs) (rfl) hH
  exact hE _ _ _ _ hH dX3_cut_38
set_option maxHeartbeats 400000 in
set_option maxRecDepth 100000 in
theorem c_X3_source (l : Launch) (G : xG) (a : Nat → Nat) (S T : Nat → Nat → Int32) (L : Nat → Nat → Int64) (F : Nat → Int32) (bs : Int64) (x y : Int32) (hxy : inW x (nI 0) (nI 200) ∧ inW y (nI 0) (nI 200)) : xMv l yX3_source wsX3_source { frames := 2, cells := 0, slots := 0, locals := 43 } [.ref (a 0), .int x, .int y] G (wX G a S T L F bs) (wX G a S T L (tS (tS (tS F 2 (nI 0)) 0 x) 1 y) bs) 0 0 := by
  refine x_ofv (cc := cX3_source) (maxL := 3) (by decide) rfl (Nat.le_of_ble_eq_true rfl) ?_
  intro p e s m args below meth c ls A Q C hml hA hH hl hE
  have hl : lv_has ls 3 [(0, .ref (a 0)), (1, .int x), (2, .int y)] := hl
  have inX3 : ∀ w ∈ wsX30, w ∈ wsX3_source := fun _ h => (List.mem_cons_of_mem _ (List.mem_append_left _ (List.mem_append_right _ h)))
  refine lv_iload_n C.1 C.2.1 dX3_source_0 rfl (lv_at hl 1 rfl) ?_
  refine lv_iload_n C.1 C.2.1 dX3_source_1 rfl (lv_at hl 2 rfl) ?_
  refine x_ci (w' := wX G a S T L F bs) (va_runS (As := [.int x, .int y]) (rest := []) (x_fix C hml) (c_X3_isPlace l G a S T L F bs x y _) (cwS 2 C.2.2.2.1 gX3_source_X3_isPlace rfl rfl rfl (by decide +kernel) ⟨Nat.le_of_ble_eq_true rfl, Nat.le_of_ble_eq_true rfl⟩) (x_ps C hH) rfl rfl hl.1 rfl (lv_room (Nat.le_of_ble_eq_true rfl)) dX3_source_2 ⟨Nat.le_of_ble_eq_true rfl, Nat.le_of_ble_eq_true rfl⟩) hH hA (fun H locs hH => ?_)
  refine lv_if_ne (tgt := 18) C.1 C.2.1 dX3_source_5 (by decide) (fun _ => ?_) (fun z8 => absurd z8 (fun z9 => xb_0.mp z9 hxy))
  refine lv_aload_n C.1 C.2.1 dX3_source_18 rfl (lv_at hl 0 rfl) ?_
  refine lv_iconst (v := nI 0) C.1 C.2.1 dX3_source_19 (by decide) ?_
  refine x_put (C := RX3) (T := TX3) (N := 7) (v := .int (nI 0)) (w' := wX G a S T L ((tS F 2 (nI 0))) bs) C inX3 tyX3 tyX3_ok nmX3 hH 0 gX_0 rfl 5 (by decide) rfl rfl (by decide) rfl (Nat.le_of_ble_eq_true rfl) fX_0_5 3 rfl dX3_source_20 (fun H locs hH => ?_)
  refine lv_aload_n C.1 C.2.1 dX3_source_23 rfl (lv_at hl 0 rfl) ?_
  refine lv_iload_n C.1 C.2.1 dX3_source_24 rfl (lv_at hl 1 rfl) ?_
  refine x_put (C := RX3) (T := TX3) (N := 7) (v := .int x) (w' := wX G a S T L ((tS ((tS F 2 (nI 0))) 0 x)) bs) C inX3 tyX3 tyX3_ok nmX3 hH 0 gX_0 rfl 3 (by decide) rfl rfl rfl rfl (Nat.le_of_ble_eq_true rfl) fX_0_3 4 rfl dX3_source_25 (fun H locs hH => ?_)
  refine lv_aload_n C.1 C.2.1 dX3_source_28 rfl (lv_at hl 0 rfl) ?_
  refine lv_iload_n C.1 C.2.1 dX3_source_29 rfl (lv_at hl 2 rfl) ?_
  refine x_put (C := RX3) (T := TX3) (N := 7) (v := .int y) (w' := wX G a S T L ((tS ((tS ((tS F 2 (nI 0))) 0 x)) 1 y)) bs) C inX3 tyX3 tyX3_ok nmX3 hH 0 gX_0 rfl 4 (by decide) rfl rfl rfl rfl (Nat.le_of_ble_eq_true rfl) fX_0_4 5 rfl dX3_source_30 (fun H locs hH => ?_)
  have hH := x_eqw (w' := wX G a S T L (tS (tS (tS F 2 (nI 0)) 0 x) 1 y) bs) (rfl) hH
  exact hE _ _ _ _ hH dX3_source_33
set_option maxHeartbeats 400000 in
set_option maxRecDepth 100000 in
theorem c_X3_wires (l : Launch) (G : xG) (a : Nat → Nat) (S T : Nat → Nat → Int32) (L : Nat → Nat → Int64) (F : Nat → Int32) (bs : Int64) (x y : Int32) (hx : inW x (nI 1) (nI 20)) (hy : inW y (nI 1) (nI 20)) : xMv l yX3_wires wsX3_wires { frames := 1, cells := 0, slots := 0, locals := 22 } [.ref (a 0), .int x, .int y] G (wX G a S T L F bs) (wX G a S T L (tS (tS F 7 x) 8 y) bs) 0 0 := by
  refine x_ofv (cc := cX3_wires) (maxL := 3) (by decide) rfl (Nat.le_of_ble_eq_true rfl) ?_
  intro p e s m args below meth c ls A Q C hml hA hH hl hE
  have hl : lv_has ls 3 [(0, .ref (a 0)), (1, .int x), (2, .int y)] := hl
  have inX0 : ∀ w ∈ wsX00, w ∈ wsX3_wires := fun _ h => (List.mem_cons_of_mem _ (List.mem_append_left _ (List.mem_append_right _ h)))
  have inX3 : ∀ w ∈ wsX30, w ∈ wsX3_wires := fun _ h => (List.mem_cons_of_mem _ (List.mem_append_left _ (List.mem_append_left _ (List.mem_append_right _ h))))
  refine lv_iload_n C.1 C.2.1 dX3_wires_0 rfl (lv_at hl 1 rfl) ?_
  refine lv_iconst (v := nI 1) C.1 C.2.1 dX3_wires_1 (by decide) ?_
  refine lv_bipush (v := nI 20) C.1 C.2.1 dX3_wires_2 (by decide) ?_
  refine x_ci (w' := wX G a S T L F bs) (va_runS (As := [.int x, .int (nI 1), .int (nI 20)]) (rest := []) (x_fix C hml) (c_X3_isWithin l G a S T L F bs x (nI 1) (nI 20) _) (cwS 3 C.2.2.2.1 gX3_wires_X3_isWithin rfl rfl rfl (by decide +kernel) ⟨Nat.le_of_ble_eq_true rfl, Nat.le_of_ble_eq_true rfl⟩) (x_ps C hH) rfl rfl hl.1 rfl (lv_room (Nat.le_of_ble_eq_true rfl)) dX3_wires_4 ⟨Nat.le_of_ble_eq_true rfl, Nat.le_of_ble_eq_true rfl⟩) hH hA (fun H locs hH => ?_)
  refine lv_if_eq (tgt := 20) C.1 C.2.1 dX3_wires_7 (by decide) (fun z8 => absurd z8 (fun z9 => xb_0.mp z9 hx)) (fun _ => ?_)
  refine lv_iload_n C.1 C.2.1 dX3_wires_10 rfl (lv_at hl 2 rfl) ?_
  refine lv_iconst (v := nI 1) C.1 C.2.1 dX3_wires_11 (by decide) ?_
  refine lv_bipush (v := nI 20) C.1 C.2.1 dX3_wires_12 (by decide) ?_
  refine x_ci (w' := wX G a S T L F bs) (va_runS (As := [.int y, .int (nI 1), .int (nI 20)]) (rest := []) (x_fix C hml) (c_X3_isWithin l G a S T L F bs y (nI 1) (nI 20) _) (cwS 3 C.2.2.2.1 gX3_wires_X3_isWithin rfl rfl rfl (by decide +kernel) ⟨Nat.le_of_ble_eq_true rfl, Nat.le_of_ble_eq_true rfl⟩) (x_ps C hH) rfl rfl hl.1 rfl (lv_room (Nat.le_of_ble_eq_true rfl)) dX3_wires_14 ⟨Nat.le_of_ble_eq_true rfl, Nat.le_of_ble_eq_true rfl⟩) hH hA (fun H locs hH => ?_)
  refine lv_if_ne (tgt := 30) C.1 C.2.1 dX3_wires_17 (by decide) (fun _ => ?_) (fun z8 => absurd z8 (fun z9 => xb_0.mp z9 hy))
  refine lv_aload_n C.1 C.2.1 dX3_wires_30 rfl (lv_at hl 0 rfl) ?_
  refine x_get (C := RX3) (T := TX3) (N := 7) (v := .ref (a 19)) C inX3 hH 0 gX_0 rfl 2 (by decide) rfl rfl 3 rfl dX3_wires_31 ?_
  refine lv_iload_n C.1 C.2.1 dX3_wires_34 rfl (lv_at hl 1 rfl) ?_
  refine x_put (C := RX0) (T := TX0) (N := 10) (v := .int x) (w' := wX G a S T L ((tS F 7 x)) bs) C inX0 tyX0 tyX0_ok nmX0 hH 19 gX_19 rfl 3 (by decide) rfl rfl rfl rfl (Nat.le_of_ble_eq_true rfl) fX_19_3 4 rfl dX3_wires_35 (fun H locs hH => ?_)
  refine lv_aload_n C.1 C.2.1 dX3_wires_38 rfl (lv_at hl 0 rfl) ?_
  refine x_get (C := RX3) (T := TX3) (N := 7) (v := .ref (a 19)) C inX3 hH 0 gX_0 rfl 2 (by decide) rfl rfl 3 rfl dX3_wires_39 ?_
  refine lv_iload_n C.1 C.2.1 dX3_wires_42 rfl (lv_at hl 2 rfl) ?_
  refine x_put (C := RX0) (T := TX0) (N := 10) (v := .int y) (w' := wX G a S T L ((tS ((tS F 7 x)) 8 y)) bs) C inX0 tyX0 tyX0_ok nmX0 hH 19 gX_19 rfl 4 (by decide) rfl rfl rfl rfl (Nat.le_of_ble_eq_true rfl) fX_19_4 5 rfl dX3_wires_43 (fun H locs hH => ?_)
  have hH := x_eqw (w' := wX G a S T L (tS (tS F 7 x) 8 y) bs) (rfl) hH
  exact hE _ _ _ _ hH dX3_wires_46
set_option maxHeartbeats 400000 in
set_option maxRecDepth 100000 in
theorem c_X3_buffer (l : Launch) (G : xG) (a : Nat → Nat) (S T : Nat → Nat → Int32) (L : Nat → Nat → Int64) (F : Nat → Int32) (bs : Int64) (x y z : Int32) (hx : inW x (nI 1) (nI 1000000)) (hy : inW y (nI 1) (nI 1000)) (hz : inW z (nI 0) (nI 1000000000)) : xMv l yX3_buffer wsX3_buffer { frames := 1, cells := 0, slots := 0, locals := 22 } [.ref (a 0), .int x, .int y, .int z] G (wX G a S T L F bs) (wX G a S T L (tS (tS (tS F 9 x) 10 y) 11 z) bs) 0 0 := by
  refine x_ofv (cc := cX3_buffer) (maxL := 4) (by decide) rfl (Nat.le_of_ble_eq_true rfl) ?_
  intro p e s m args below meth c ls A Q C hml hA hH hl hE
  have hl : lv_has ls 4 [(0, .ref (a 0)), (1, .int x), (2, .int y), (3, .int z)] := hl
  have inX0 : ∀ w ∈ wsX00, w ∈ wsX3_buffer := fun _ h => (List.mem_cons_of_mem _ (List.mem_append_left _ (List.mem_append_right _ h)))
  have inX3 : ∀ w ∈ wsX30, w ∈ wsX3_buffer := fun _ h => (List.mem_cons_of_mem _ (List.mem_append_left _ (List.mem_append_left _ (List.mem_append_right _ h))))
  refine lv_iload_n C.1 C.2.1 dX3_buffer_0 rfl (lv_at hl 1 rfl) ?_
  refine lv_iconst (v := nI 1) C.1 C.2.1 dX3_buffer_1 (by decide) ?_
  refine lv_ldc C.1 C.2.1 C.2.2.1 (C.2.2.2.1 _ (List.mem_of_getElem? (i := 3) rfl)) dX3_buffer_2 ?_
  refine x_toi (show (1000000 : Int32) = nI 1000000 by decide) ?_
  refine x_ci (w' := wX G a S T L F bs) (va_runS (As := [.int x, .int (nI 1), .int (nI 1000000)]) (rest := []) (x_fix C hml) (c_X3_isWithin l G a S T L F bs x (nI 1) (nI 1000000) _) (cwS 3 C.2.2.2.1 gX3_buffer_X3_isWithin rfl rfl rfl (by decide +kernel) ⟨Nat.le_of_ble_eq_true rfl, Nat.le_of_ble_eq_true rfl⟩) (x_ps C hH) rfl rfl hl.1 rfl (lv_room (Nat.le_of_ble_eq_true rfl)) dX3_buffer_4 ⟨Nat.le_of_ble_eq_true rfl, Nat.le_of_ble_eq_true rfl⟩) hH hA (fun H locs hH => ?_)
  refine lv_if_eq (tgt := 31) C.1 C.2.1 dX3_buffer_7 (by decide) (fun z8 => absurd z8 (fun z9 => xb_0.mp z9 hx)) (fun _ => ?_)
  refine lv_iload_n C.1 C.2.1 dX3_buffer_10 rfl (lv_at hl 2 rfl) ?_
  refine lv_iconst (v := nI 1) C.1 C.2.1 dX3_buffer_11 (by decide) ?_
  refine lv_sipush (v := nI 1000) C.1 C.2.1 dX3_buffer_12 (by decide) ?_
  refine x_ci (w' := wX G a S T L F bs) (va_runS (As := [.int y, .int (nI 1), .int (nI 1000)]) (rest := []) (x_fix C hml) (c_X3_isWithin l G a S T L F bs y (nI 1) (nI 1000) _) (cwS 3 C.2.2.2.1 gX3_buffer_X3_isWithin rfl rfl rfl (by decide +kernel) ⟨Nat.le_of_ble_eq_true rfl, Nat.le_of_ble_eq_true rfl⟩) (x_ps C hH) rfl rfl hl.1 rfl (lv_room (Nat.le_of_ble_eq_true rfl)) dX3_buffer_15 ⟨Nat.le_of_ble_eq_true rfl, Nat.le_of_ble_eq_true rfl⟩) hH hA (fun H locs hH => ?_)
  refine lv_if_eq (tgt := 31) C.1 C.2.1 dX3_buffer_18 (by decide) (fun z8 => absurd z8 (fun z9 => xb_0.mp z9 hy)) (fun _ => ?_)
  refine lv_iload_n C.1 C.2.1 dX3_buffer_21 rfl (lv_at hl 3 rfl) ?_
  refine lv_iconst (v := nI 0) C.1 C.2.1 dX3_buffer_22 (by decide) ?_
  refine lv_ldc C.1 C.2.1 C.2.2.1 (C.2.2.2.1 _ (List.mem_of_getElem? (i := 4) rfl)) dX3_buffer_23 ?_
  refine x_toi (show (1000000000 : Int32) = nI 1000000000 by decide) ?_
  refine x_ci (w' := wX G a S T L F bs) (va_runS (As := [.int z, .int (nI 0), .int (nI 1000000000)]) (rest := []) (x_fix C hml) (c_X3_isWithin l G a S T L F bs z (nI 0) (nI 1000000000) _) (cwS 3 C.2.2.2.1 gX3_buffer_X3_isWithin rfl rfl rfl (by decide +kernel) ⟨Nat.le_of_ble_eq_true rfl, Nat.le_of_ble_eq_true rfl⟩) (x_ps C hH) rfl rfl hl.1 rfl (lv_room (Nat.le_of_ble_eq_true rfl)) dX3_buffer_25 ⟨Nat.le_of_ble_eq_true rfl, Nat.le_of_ble_eq_true rfl⟩) hH hA (fun H locs hH => ?_)
  refine lv_if_ne (tgt := 41) C.1 C.2.1 dX3_buffer_28 (by decide) (fun _ => ?_) (fun z8 => absurd z8 (fun z9 => xb_0.mp z9 hz))
  refine lv_aload_n C.1 C.2.1 dX3_buffer_41 rfl (lv_at hl 0 rfl) ?_
  refine x_get (C := RX3) (T := TX3) (N := 7) (v := .ref (a 19)) C inX3 hH 0 gX_0 rfl 2 (by decide) rfl rfl 5 rfl dX3_buffer_42 ?_
  refine lv_iload_n C.1 C.2.1 dX3_buffer_45 rfl (lv_at hl 1 rfl) ?_
  refine x_put (C := RX0) (T := TX0) (N := 10) (v := .int x) (w' := wX G a S T L ((tS F 9 x)) bs) C inX0 tyX0 tyX0_ok nmX0 hH 19 gX_19 rfl 5 (by decide) rfl rfl rfl rfl (Nat.le_of_ble_eq_true rfl) fX_19_5 6 rfl dX3_buffer_46 (fun H locs hH => ?_)
  refine lv_aload_n C.1 C.2.1 dX3_buffer_49 rfl (lv_at hl 0 rfl) ?_
  refine x_get (C := RX3) (T := TX3) (N := 7) (v := .ref (a 19)) C inX3 hH 0 gX_0 rfl 2 (by decide) rfl rfl 5 rfl dX3_buffer_50 ?_
  refine lv_iload_n C.1 C.2.1 dX3_buffer_53 rfl (lv_at hl 2 rfl) ?_
  refine x_put (C := RX0) (T := TX0) (N := 10) (v := .int y) (w' := wX G a S T L ((tS ((tS F 9 x)) 10 y)) bs) C inX0 tyX0 tyX0_ok nmX0 hH 19 gX_19 rfl 6 (by decide) rfl rfl rfl rfl (Nat.le_of_ble_eq_true rfl) fX_19_6 7 rfl dX3_buffer_54 (fun H locs hH => ?_)
  refine lv_aload_n C.1 C.2.1 dX3_buffer_57 rfl (lv_at hl 0 rfl) ?_
  refine x_get (C := RX3) (T := TX3) (N := 7) (v := .ref (a 19)) C inX3 hH 0 gX_0 rfl 2 (by decide) rfl rfl 5 rfl dX3_buffer_58 ?_
  refine lv_iload_n C.1 C.2.1 dX3_buffer_61 rfl (lv_at hl 3 rfl) ?_
  refine x_put (C := RX0) (T := TX0) (N := 10) (v := .int z) (w' := wX G a S T L ((tS ((tS ((tS F 9 x)) 10 y)) 11 z)) bs) C inX0 tyX0 tyX0_ok nmX0 hH 19 gX_19 rfl 7 (by decide) rfl rfl rfl rfl (Nat.le_of_ble_eq_true rfl) fX_19_7 8 rfl dX3_buffer_62 (fun H locs hH => ?_)
  have hH := x_eqw (w' := wX G a S T L (tS (tS (tS F 9 x) 10 y) 11 z) bs) (rfl) hH
  exact hE _ _ _ _ hH dX3_buffer_65
set_option maxHeartbeats 400000 in
set_option maxRecDepth 100000 in
theorem c_X3_sinks (l : Launch) (G : xG) (a : Nat → Nat) (S T : Nat → Nat → Int32) (L : Nat → Nat → Int64) (F : Nat → Int32) (bs : Int64) : xMi l yX3_sinks wsX3_sinks { frames := 0, cells := 0, slots := 0, locals := 0 } [.ref (a 0)] G (wX G a S T L F bs) (F 4) (wX G a S T L F bs) 0 0 := by
  refine x_ofi (cc := cX3_sinks) (maxL := 1) (ty := .int) (by decide) rfl (Nat.le_of_ble_eq_true rfl) ?_
  intro p e s m args below meth c ls A Q C hml hA hH hl hE
  have hl : lv_has ls 1 [(0, .ref (a 0))] := hl
  have inX1 : ∀ w ∈ wsX10, w ∈ wsX3_sinks := fun _ h => (List.mem_cons_of_mem _ (List.mem_append_right _ h))
  have inX3 : ∀ w ∈ wsX30, w ∈ wsX3_sinks := fun _ h => (List.mem_cons_of_mem _ (List.mem_append_left _ (List.mem_append_right _ h)))
  refine lv_aload_n C.1 C.2.1 dX3_sinks_0 rfl (lv_at hl 0 rfl) ?_
  refine x_get (C := RX3) (T := TX3) (N := 7) (v := .ref (a 1)) C inX3 hH 0 gX_0 rfl 0 (by decide) rfl rfl 1 rfl dX3_sinks_1 ?_
  refine x_get (C := RX1) (T := TX1) (N := 5) (v := .int (F 4)) C inX1 hH 1 gX_1 rfl 4 (by decide) rfl rfl 2 rfl dX3_sinks_4 ?_
  exact hE _ _ _ _ _ hH (rfl) (rfl) dX3_sinks_7
set_option maxHeartbeats 400000 in
set_option maxRecDepth 100000 in
theorem c_X3_node (l : Launch) (G : xG) (a : Nat → Nat) (S T : Nat → Nat → Int32) (L : Nat → Nat → Int64) (F : Nat → Int32) (bs : Int64) (k q nd : Nat) (h2 : F 2 = nI 1) (h6 : F 6 = nI nd) (hn : nd ≤ 19) (hk : k < nd) (hq : q < 11) : xMi l yX3_node wsX3_node { frames := 1, cells := 0, slots := 0, locals := 22 } [.ref (a 0), .int (nI k), .int (nI q)] G (wX G a S T L F bs) (T q k) (wX G a S T L F bs) 0 0 := by
  have hk1 : inW (nI k) (nI 0) (nI (nd - 1)) := inN (by omega) (by omega) (by omega)
  have hq1 : inW (nI q) (nI 0) (nI 10) := inN (by omega) (by omega) (by omega)
  refine x_ofi (cc := cX3_node) (maxL := 3) (ty := .int) (by decide) rfl (Nat.le_of_ble_eq_true rfl) ?_
  intro p e s m args below meth c ls A Q C hml hA hH hl hE
  have hl : lv_has ls 3 [(0, .ref (a 0)), (1, .int (nI k)), (2, .int (nI q))] := hl
  have inX2 : ∀ w ∈ wsX20, w ∈ wsX3_node := fun _ h => (List.mem_cons_of_mem _ (List.mem_append_left _ (List.mem_append_left _ (List.mem_append_right _ h))))
  have inX3 : ∀ w ∈ wsX30, w ∈ wsX3_node := fun _ h => (List.mem_cons_of_mem _ (List.mem_append_left _ (List.mem_append_left _ (List.mem_append_left _ (List.mem_append_right _ h)))))
  refine lv_aload_n C.1 C.2.1 dX3_node_0 rfl (lv_at hl 0 rfl) ?_
  refine x_cv (w' := wX G a S T L F bs) (va_runV (As := []) (rest := []) (x_fix C hml) (c_X3_requireTree l G a S T L F bs h2 _) (cwV 0 C.2.2.2.1 gX3_node_X3_requireTree rfl rfl rfl (by decide +kernel) ⟨Nat.le_of_ble_eq_true rfl, Nat.le_of_ble_eq_true rfl⟩) (x_pv C hH rfl gX_0 rfl rfl) rfl rfl hl.1 rfl (lv_room (Nat.le_of_ble_eq_true rfl)) dX3_node_1 ⟨Nat.le_of_ble_eq_true rfl, Nat.le_of_ble_eq_true rfl⟩) hH hA (fun H locs hH => ?_)
  refine lv_iload_n C.1 C.2.1 dX3_node_4 rfl (lv_at hl 1 rfl) ?_
  refine lv_iconst (v := nI 0) C.1 C.2.1 dX3_node_5 (by decide) ?_
  refine lv_aload_n C.1 C.2.1 dX3_node_6 rfl (lv_at hl 0 rfl) ?_
  refine x_get (C := RX3) (T := TX3) (N := 7) (v := .ref (a 6)) C inX3 hH 0 gX_0 rfl 1 (by decide) rfl rfl 3 rfl dX3_node_7 ?_
  refine x_get (C := RX2) (T := TX2) (N := 14) (v := .int (F 6)) C inX2 hH 6 gX_6 rfl 13 (by decide) rfl rfl 4 rfl dX3_node_10 ?_
  refine x_toi h6 ?_
  refine lv_iconst (v := nI 1) C.1 C.2.1 dX3_node_13 (by decide) ?_
  refine lv_isub C.1 C.2.1 dX3_node_14 ?_
  refine x_toi (pk_sub (a := nd) (b := 1) (by omega)) ?_
  refine x_ci (w' := wX G a S T L F bs) (va_runS (As := [.int (nI k), .int (nI 0), .int (nI (nd - 1))]) (rest := []) (x_fix C hml) (c_X3_isWithin l G a S T L F bs (nI k) (nI 0) (nI (nd - 1)) _) (cwS 3 C.2.2.2.1 gX3_node_X3_isWithin rfl rfl rfl (by decide +kernel) ⟨Nat.le_of_ble_eq_true rfl, Nat.le_of_ble_eq_true rfl⟩) (x_ps C hH) rfl rfl hl.1 rfl (lv_room (Nat.le_of_ble_eq_true rfl)) dX3_node_15 ⟨Nat.le_of_ble_eq_true rfl, Nat.le_of_ble_eq_true rfl⟩) hH hA (fun H locs hH => ?_)
  refine lv_if_eq (tgt := 31) C.1 C.2.1 dX3_node_18 (by decide) (fun z8 => absurd z8 (fun z9 => xb_0.mp z9 hk1)) (fun _ => ?_)
  refine lv_iload_n C.1 C.2.1 dX3_node_21 rfl (lv_at hl 2 rfl) ?_
  refine lv_iconst (v := nI 0) C.1 C.2.1 dX3_node_22 (by decide) ?_
  refine lv_bipush (v := nI 10) C.1 C.2.1 dX3_node_23 (by decide) ?_
  refine x_ci (w' := wX G a S T L F bs) (va_runS (As := [.int (nI q), .int (nI 0), .int (nI 10)]) (rest := []) (x_fix C hml) (c_X3_isWithin l G a S T L F bs (nI q) (nI 0) (nI 10) _) (cwS 3 C.2.2.2.1 gX3_node_X3_isWithin rfl rfl rfl (by decide +kernel) ⟨Nat.le_of_ble_eq_true rfl, Nat.le_of_ble_eq_true rfl⟩) (x_ps C hH) rfl rfl hl.1 rfl (lv_room (Nat.le_of_ble_eq_true rfl)) dX3_node_25 ⟨Nat.le_of_ble_eq_true rfl, Nat.le_of_ble_eq_true rfl⟩) hH hA (fun H locs hH => ?_)
  refine lv_if_ne (tgt := 41) C.1 C.2.1 dX3_node_28 (by decide) (fun _ => ?_) (fun z8 => absurd z8 (fun z9 => xb_0.mp z9 hq1))
  refine lv_aload_n C.1 C.2.1 dX3_node_41 rfl (lv_at hl 0 rfl) ?_
  refine x_get (C := RX3) (T := TX3) (N := 7) (v := .ref (a 6)) C inX3 hH 0 gX_0 rfl 1 (by decide) rfl rfl 3 rfl dX3_node_42 ?_
  refine lv_iload_n C.1 C.2.1 dX3_node_45 rfl (lv_at hl 1 rfl) ?_
  refine lv_iload_n C.1 C.2.1 dX3_node_46 rfl (lv_at hl 2 rfl) ?_
  refine x_ci (w' := wX G a S T L F bs) (va_runV (As := [.int (nI k), .int (nI q)]) (rest := []) (x_fix C hml) (c_X2_partOf l G a S T L F bs k q (by omega) (by omega) _) (cwV 2 C.2.2.2.1 gX3_node_X2_partOf rfl rfl rfl (by decide +kernel) ⟨Nat.le_of_ble_eq_true rfl, Nat.le_of_ble_eq_true rfl⟩) (x_pv C hH rfl gX_6 rfl rfl) rfl rfl hl.1 rfl (lv_room (Nat.le_of_ble_eq_true rfl)) dX3_node_47 ⟨Nat.le_of_ble_eq_true rfl, Nat.le_of_ble_eq_true rfl⟩) hH hA (fun H locs hH => ?_)
  exact hE _ _ _ _ _ hH (rfl) (rfl) dX3_node_50
set_option maxHeartbeats 400000 in
set_option maxRecDepth 100000 in
theorem c_X3_length (l : Launch) (G : xG) (a : Nat → Nat) (S T : Nat → Nat → Int32) (L : Nat → Nat → Int64) (F : Nat → Int32) (bs : Int64) (nd : Nat) (h2 : F 2 = nI 1) (h6 : F 6 = nI nd) (hn : nd ≤ 19) : xMi l yX3_length wsX3_length { frames := 1, cells := 0, slots := 0, locals := 22 } [.ref (a 0)] G (wX G a S T L F bs) (sumW T nd 0 (nI 0)) (wX G a S T L F bs) 0 0 := by
  refine x_ofi (cc := cX3_length) (maxL := 1) (ty := .int) (by decide) rfl (Nat.le_of_ble_eq_true rfl) ?_
  intro p e s m args below meth c ls A Q C hml hA hH hl hE
  have hl : lv_has ls 1 [(0, .ref (a 0))] := hl
  have inX3 : ∀ w ∈ wsX30, w ∈ wsX3_length := fun _ h => (List.mem_cons_of_mem _ (List.mem_append_left _ (List.mem_append_left _ (List.mem_append_right _ h))))
  refine lv_aload_n C.1 C.2.1 dX3_length_0 rfl (lv_at hl 0 rfl) ?_
  refine x_cv (w' := wX G a S T L F bs) (va_runV (As := []) (rest := []) (x_fix C hml) (c_X3_requireTree l G a S T L F bs h2 _) (cwV 0 C.2.2.2.1 gX3_length_X3_requireTree rfl rfl rfl (by decide +kernel) ⟨Nat.le_of_ble_eq_true rfl, Nat.le_of_ble_eq_true rfl⟩) (x_pv C hH rfl gX_0 rfl rfl) rfl rfl hl.1 rfl (lv_room (Nat.le_of_ble_eq_true rfl)) dX3_length_1 ⟨Nat.le_of_ble_eq_true rfl, Nat.le_of_ble_eq_true rfl⟩) hH hA (fun H locs hH => ?_)
  refine lv_aload_n C.1 C.2.1 dX3_length_4 rfl (lv_at hl 0 rfl) ?_
  refine x_get (C := RX3) (T := TX3) (N := 7) (v := .ref (a 6)) C inX3 hH 0 gX_0 rfl 1 (by decide) rfl rfl 1 rfl dX3_length_5 ?_
  refine x_ci (w' := wX G a S T L F bs) (va_runV (As := []) (rest := []) (x_fix C hml) (c_X2_wireSum l G a S T L F bs nd h6 hn _) (cwV 0 C.2.2.2.1 gX3_length_X2_wireSum rfl rfl rfl (by decide +kernel) ⟨Nat.le_of_ble_eq_true rfl, Nat.le_of_ble_eq_true rfl⟩) (x_pv C hH rfl gX_6 rfl rfl) rfl rfl hl.1 rfl (lv_room (Nat.le_of_ble_eq_true rfl)) dX3_length_8 ⟨Nat.le_of_ble_eq_true rfl, Nat.le_of_ble_eq_true rfl⟩) hH hA (fun H locs hH => ?_)
  exact hE _ _ _ _ _ hH (rfl) (rfl) dX3_length_11
set_option maxHeartbeats 400000 in
set_option maxRecDepth 100000 in
theorem c_X3_depth (l : Launch) (G : xG) (a : Nat → Nat) (S T : Nat → Nat → Int32) (L : Nat → Nat → Int64) (F : Nat → Int32) (bs : Int64) (k lv nd : Nat) (h2 : F 2 = nI 1) (h5 : F 5 = nI lv) (h6 : F 6 = nI nd) (hl9 : lv ≤ nd) (hl10 : lv ≤ 10) (hn : nd ≤ 19) (hk : k < lv) : xMi l yX3_depth wsX3_depth { frames := 2, cells := 0, slots := 0, locals := 43 } [.ref (a 0), .int (nI k)] G (wX G a S T L F bs) (nI (upF T (nd - lv) lv k 0)) (wX G a S T L F bs) 0 0 := by
  refine x_ofi (cc := cX3_depth) (maxL := 2) (ty := .int) (by decide) rfl (Nat.le_of_ble_eq_true rfl) ?_
  intro p e s m args below meth c ls A Q C hml hA hH hl hE
  have hl : lv_has ls 2 [(0, .ref (a 0)), (1, .int (nI k))] := hl
  have inX3 : ∀ w ∈ wsX30, w ∈ wsX3_depth := fun _ h => (List.mem_cons_of_mem _ (List.mem_append_left _ (List.mem_append_left _ (List.mem_append_left _ (List.mem_append_right _ h)))))
  refine lv_aload_n C.1 C.2.1 dX3_depth_0 rfl (lv_at hl 0 rfl) ?_
  refine x_cv (w' := wX G a S T L F bs) (va_runV (As := []) (rest := []) (x_fix C hml) (c_X3_requireTree l G a S T L F bs h2 _) (cwV 0 C.2.2.2.1 gX3_depth_X3_requireTree rfl rfl rfl (by decide +kernel) ⟨Nat.le_of_ble_eq_true rfl, Nat.le_of_ble_eq_true rfl⟩) (x_pv C hH rfl gX_0 rfl rfl) rfl rfl hl.1 rfl (lv_room (Nat.le_of_ble_eq_true rfl)) dX3_depth_1 ⟨Nat.le_of_ble_eq_true rfl, Nat.le_of_ble_eq_true rfl⟩) hH hA (fun H locs hH => ?_)
  refine lv_aload_n C.1 C.2.1 dX3_depth_4 rfl (lv_at hl 0 rfl) ?_
  refine lv_iload_n C.1 C.2.1 dX3_depth_5 rfl (lv_at hl 1 rfl) ?_
  refine x_cv (w' := wX G a S T L F bs) (va_runV (As := [.int (nI k)]) (rest := []) (x_fix C hml) (c_X3_requireSink l G a S T L F bs k lv h5 (by omega) (by omega) _) (cwV 1 C.2.2.2.1 gX3_depth_X3_requireSink rfl rfl rfl (by decide +kernel) ⟨Nat.le_of_ble_eq_true rfl, Nat.le_of_ble_eq_true rfl⟩) (x_pv C hH rfl gX_0 rfl rfl) rfl rfl hl.1 rfl (lv_room (Nat.le_of_ble_eq_true rfl)) dX3_depth_6 ⟨Nat.le_of_ble_eq_true rfl, Nat.le_of_ble_eq_true rfl⟩) hH hA (fun H locs hH => ?_)
  refine lv_aload_n C.1 C.2.1 dX3_depth_9 rfl (lv_at hl 0 rfl) ?_
  refine x_get (C := RX3) (T := TX3) (N := 7) (v := .ref (a 6)) C inX3 hH 0 gX_0 rfl 1 (by decide) rfl rfl 1 rfl dX3_depth_10 ?_
  refine lv_iload_n C.1 C.2.1 dX3_depth_13 rfl (lv_at hl 1 rfl) ?_
  refine x_ci (w' := wX G a S T L F bs) (va_runV (As := [.int (nI k)]) (rest := []) (x_fix C hml) (c_X2_joinsAbove l G a S T L F bs k lv nd h5 h6 (by omega) hl9 hn _) (cwV 1 C.2.2.2.1 gX3_depth_X2_joinsAbove rfl rfl rfl (by decide +kernel) ⟨Nat.le_of_ble_eq_true rfl, Nat.le_of_ble_eq_true rfl⟩) (x_pv C hH rfl gX_6 rfl rfl) rfl rfl hl.1 rfl (lv_room (Nat.le_of_ble_eq_true rfl)) dX3_depth_14 ⟨Nat.le_of_ble_eq_true rfl, Nat.le_of_ble_eq_true rfl⟩) hH hA (fun H locs hH => ?_)
  exact hE _ _ _ _ _ hH (rfl) (rfl) dX3_depth_17
set_option maxHeartbeats 400000 in
set_option maxRecDepth 100000 in
theorem c_X3_set (l : Launch) (G : xG) (a : Nat → Nat) (S T : Nat → Nat → Int32) (L : Nat → Nat → Int64) (F : Nat → Int32) (bs : Int64) (j lv nd : Nat) (on : Bool) (h2 : F 2 = nI 1) (h5 : F 5 = nI lv) (h6 : F 6 = nI nd) (hn : nd ≤ 19) (hj : lv ≤ j) (hj2 : j < nd) : xMi l yX3_set wsX3_set { frames := 1, cells := 0, slots := 0, locals := 22 } [.ref (a 0), .int (nI j), .int (xb (on = true))] G (wX G a S T L F bs) (xb (¬ setV (F 3) (j - lv) on = F 3)) (wX G a S T L (tS F 3 (setV (F 3) (j - lv) on)) bs) 0 0 := by
  have hj1 : inW (nI j) (nI lv) (nI (nd - 1)) := inN (by omega) (by omega) (by omega)
  refine x_ofi (cc := cX3_set) (maxL := 5) (ty := .boolean) (by decide) rfl (Nat.le_of_ble_eq_true rfl) ?_
  intro p e s m args below meth c ls A Q C hml hA hH hl hE
  have hl : lv_has ls 5 [(0, .ref (a 0)), (1, .int (nI j)), (2, .int (xb (on = true)))] := hl
  have inX2 : ∀ w ∈ wsX20, w ∈ wsX3_set := fun _ h => (List.mem_cons_of_mem _ (List.mem_append_left _ (List.mem_append_left _ (List.mem_append_right _ h))))
  have inX3 : ∀ w ∈ wsX30, w ∈ wsX3_set := fun _ h => (List.mem_cons_of_mem _ (List.mem_append_left _ (List.mem_append_left _ (List.mem_append_left _ (List.mem_append_right _ h)))))
  refine lv_aload_n C.1 C.2.1 dX3_set_0 rfl (lv_at hl 0 rfl) ?_
  refine x_cv (w' := wX G a S T L F bs) (va_runV (As := []) (rest := []) (x_fix C hml) (c_X3_requireTree l G a S T L F bs h2 _) (cwV 0 C.2.2.2.1 gX3_set_X3_requireTree rfl rfl rfl (by decide +kernel) ⟨Nat.le_of_ble_eq_true rfl, Nat.le_of_ble_eq_true rfl⟩) (x_pv C hH rfl gX_0 rfl rfl) rfl rfl hl.1 rfl (lv_room (Nat.le_of_ble_eq_true rfl)) dX3_set_1 ⟨Nat.le_of_ble_eq_true rfl, Nat.le_of_ble_eq_true rfl⟩) hH hA (fun H locs hH => ?_)
  refine lv_iload_n C.1 C.2.1 dX3_set_4 rfl (lv_at hl 1 rfl) ?_
  refine lv_aload_n C.1 C.2.1 dX3_set_5 rfl (lv_at hl 0 rfl) ?_
  refine x_get (C := RX3) (T := TX3) (N := 7) (v := .ref (a 6)) C inX3 hH 0 gX_0 rfl 1 (by decide) rfl rfl 3 rfl dX3_set_6 ?_
  refine x_get (C := RX2) (T := TX2) (N := 14) (v := .int (F 5)) C inX2 hH 6 gX_6 rfl 12 (by decide) rfl rfl 4 rfl dX3_set_9 ?_
  refine x_toi h5 ?_
  refine lv_aload_n C.1 C.2.1 dX3_set_12 rfl (lv_at hl 0 rfl) ?_
  refine x_get (C := RX3) (T := TX3) (N := 7) (v := .ref (a 6)) C inX3 hH 0 gX_0 rfl 1 (by decide) rfl rfl 3 rfl dX3_set_13 ?_
  refine x_get (C := RX2) (T := TX2) (N := 14) (v := .int (F 6)) C inX2 hH 6 gX_6 rfl 13 (by decide) rfl rfl 5 rfl dX3_set_16 ?_
  refine x_toi h6 ?_
  refine lv_iconst (v := nI 1) C.1 C.2.1 dX3_set_19 (by decide) ?_
  refine lv_isub C.1 C.2.1 dX3_set_20 ?_
  refine x_toi (pk_sub (a := nd) (b := 1) (by omega)) ?_
  refine x_ci (w' := wX G a S T L F bs) (va_runS (As := [.int (nI j), .int (nI lv), .int (nI (nd - 1))]) (rest := []) (x_fix C hml) (c_X3_isWithin l G a S T L F bs (nI j) (nI lv) (nI (nd - 1)) _) (cwS 3 C.2.2.2.1 gX3_set_X3_isWithin rfl rfl rfl (by decide +kernel) ⟨Nat.le_of_ble_eq_true rfl, Nat.le_of_ble_eq_true rfl⟩) (x_ps C hH) rfl rfl hl.1 rfl (lv_room (Nat.le_of_ble_eq_true rfl)) dX3_set_21 ⟨Nat.le_of_ble_eq_true rfl, Nat.le_of_ble_eq_true rfl⟩) hH hA (fun H locs hH => ?_)
  refine lv_if_ne (tgt := 37) C.1 C.2.1 dX3_set_24 (by decide) (fun _ => ?_) (fun z8 => absurd z8 (fun z9 => xb_0.mp z9 hj1))
  refine lv_aload_n C.1 C.2.1 dX3_set_37 rfl (lv_at hl 0 rfl) ?_
  refine x_get (C := RX3) (T := TX3) (N := 7) (v := .int (F 3)) C inX3 hH 0 gX_0 rfl 6 (by decide) rfl rfl 6 rfl dX3_set_38 ?_
  refine lv_istore_n (lv' := [(3, .int (F 3)), (0, .ref (a 0)), (1, .int (nI j)), (2, .int (xb (on = true)))]) C.1 C.2.1 dX3_set_41 rfl hl (by decide) rfl (fun ls hl => ?_)
  refine lv_aload_n C.1 C.2.1 dX3_set_42 rfl (lv_at hl 1 rfl) ?_
  refine x_get (C := RX3) (T := TX3) (N := 7) (v := .ref (a 6)) C inX3 hH 0 gX_0 rfl 1 (by decide) rfl rfl 3 rfl dX3_set_43 ?_
  refine lv_iload_n C.1 C.2.1 dX3_set_46 rfl (lv_at hl 2 rfl) ?_
  refine x_ci (w' := wX G a S T L F bs) (va_runV (As := [.int (nI j)]) (rest := []) (x_fix C hml) (c_X2_bitOf l G a S T L F bs (j) (lv) h5 (by omega) _) (cwV 1 C.2.2.2.1 gX3_set_X2_bitOf rfl rfl rfl (by decide +kernel) ⟨Nat.le_of_ble_eq_true rfl, Nat.le_of_ble_eq_true rfl⟩) (x_pv C hH rfl gX_6 rfl rfl) rfl rfl hl.1 rfl (lv_room (Nat.le_of_ble_eq_true rfl)) dX3_set_47 ⟨Nat.le_of_ble_eq_true rfl, Nat.le_of_ble_eq_true rfl⟩) hH hA (fun H locs hH => ?_)
  refine lv_istore (lv' := [(4, .int (bitI (j - lv))), (3, .int (F 3)), (0, .ref (a 0)), (1, .int (nI j)), (2, .int (xb (on = true)))]) C.1 C.2.1 dX3_set_50 hl (by decide) rfl (fun ls hl => ?_)
  refine lv_aload_n C.1 C.2.1 dX3_set_52 rfl (lv_at hl 2 rfl) ?_
  refine lv_iload_n C.1 C.2.1 dX3_set_53 rfl (lv_at hl 4 rfl) ?_
  refine lv_if_eq (tgt := 64) C.1 C.2.1 dX3_set_54 (by decide) (fun c_2 => ?_) (fun c_2 => ?_)
  · rw [xb_0] at c_2
    refine lv_iload_n C.1 C.2.1 dX3_set_64 rfl (lv_at hl 1 rfl) ?_
    refine lv_iload C.1 C.2.1 dX3_set_65 (lv_at hl 0 rfl) ?_
    refine lv_iconst (v := (-1)) C.1 C.2.1 dX3_set_67 (by decide) ?_
    refine lv_ixor C.1 C.2.1 dX3_set_68 ?_
    refine lv_iand C.1 C.2.1 dX3_set_69 ?_
    refine x_put (C := RX3) (T := TX3) (N := 7) (v := .int ((F 3) &&& ((bitI (j - lv)) ^^^ ((-1))))) (w' := wX G a S T L ((tS F 3 ((F 3) &&& ((bitI (j - lv)) ^^^ ((-1)))))) bs) C inX3 tyX3 tyX3_ok nmX3 hH 0 gX_0 rfl 6 (by decide) rfl rfl rfl rfl (Nat.le_of_ble_eq_true rfl) fX_0_6 6 rfl dX3_set_70 (fun H locs hH => ?_)
    refine lv_aload_n C.1 C.2.1 dX3_set_73 rfl (lv_at hl 2 rfl) ?_
    refine x_get (C := RX3) (T := TX3) (N := 7) (v := .int ((F 3) &&& ((bitI (j - lv)) ^^^ ((-1))))) C inX3 hH 0 gX_0 rfl 6 (by decide) rfl rfl 6 rfl dX3_set_74 ?_
    refine lv_iload_n C.1 C.2.1 dX3_set_77 rfl (lv_at hl 1 rfl) ?_
    refine lv_icmp_eq (tgt := 85) C.1 C.2.1 dX3_set_78 (by decide) (fun c_3 => ?_) (fun c_3 => ?_)
    · refine lv_iconst (v := nI 0) C.1 C.2.1 dX3_set_85 (by decide) ?_
      have hH := x_eqw (w' := wX G a S T L (tS F 3 (setV (F 3) (j - lv) on)) bs) (by first | (rw [setV, if_pos c_2]; done) | (rw [setV, if_neg c_2]; done)) hH
      exact hE _ _ _ _ _ hH (by first | (rw [setV, if_pos c_2]; first | exact xb_t c_3 | exact xb_f (fun z => z c_3)) | (rw [setV, if_neg c_2]; first | exact xb_t c_3 | exact xb_f (fun z => z c_3))) (by decide) dX3_set_86
    · refine lv_iconst (v := nI 1) C.1 C.2.1 dX3_set_81 (by decide) ?_
      refine lv_goto (tgt := 86) C.1 C.2.1 dX3_set_82 (by decide) ?_
      have hH := x_eqw (w' := wX G a S T L (tS F 3 (setV (F 3) (j - lv) on)) bs) (by first | (rw [setV, if_pos c_2]; done) | (rw [setV, if_neg c_2]; done)) hH
      exact hE _ _ _ _ _ hH (by first | (rw [setV, if_pos c_2]; first | exact xb_t c_3 | exact xb_f (fun z => z c_3)) | (rw [setV, if_neg c_2]; first | exact xb_t c_3 | exact xb_f (fun z => z c_3))) (by decide) dX3_set_86
  · rw [xb_0] at c_2
    have c_2 := Classical.not_not.mp c_2
    refine lv_iload_n C.1 C.2.1 dX3_set_57 rfl (lv_at hl 1 rfl) ?_
    refine lv_iload C.1 C.2.1 dX3_set_58 (lv_at hl 0 rfl) ?_
    refine lv_ior C.1 C.2.1 dX3_set_60 ?_
    refine lv_goto (tgt := 70) C.1 C.2.1 dX3_set_61 (by decide) ?_
    refine x_put (C := RX3) (T := TX3) (N := 7) (v := .int ((F 3) ||| (bitI (j - lv)))) (w' := wX G a S T L ((tS F 3 ((F 3) ||| (bitI (j - lv))))) bs) C inX3 tyX3 tyX3_ok nmX3 hH 0 gX_0 rfl 6 (by decide) rfl rfl rfl rfl (Nat.le_of_ble_eq_true rfl) fX_0_6 6 rfl dX3_set_70 (fun H locs hH => ?_)
    refine lv_aload_n C.1 C.2.1 dX3_set_73 rfl (lv_at hl 2 rfl) ?_
    refine x_get (C := RX3) (T := TX3) (N := 7) (v := .int ((F 3) ||| (bitI (j - lv)))) C inX3 hH 0 gX_0 rfl 6 (by decide) rfl rfl 6 rfl dX3_set_74 ?_
    refine lv_iload_n C.1 C.2.1 dX3_set_77 rfl (lv_at hl 1 rfl) ?_
    refine lv_icmp_eq (tgt := 85) C.1 C.2.1 dX3_set_78 (by decide) (fun c_4 => ?_) (fun c_4 => ?_)
    · refine lv_iconst (v := nI 0) C.1 C.2.1 dX3_set_85 (by decide) ?_
      have hH := x_eqw (w' := wX G a S T L (tS F 3 (setV (F 3) (j - lv) on)) bs) (by first | (rw [setV, if_pos c_2]; done) | (rw [setV, if_neg c_2]; done)) hH
      exact hE _ _ _ _ _ hH (by first | (rw [setV, if_pos c_2]; first | exact xb_t c_4 | exact xb_f (fun z => z c_4)) | (rw [setV, if_neg c_2]; first | exact xb_t c_4 | exact xb_f (fun z => z c_4))) (by decide) dX3_set_86
    · refine lv_iconst (v := nI 1) C.1 C.2.1 dX3_set_81 (by decide) ?_
      refine lv_goto (tgt := 86) C.1 C.2.1 dX3_set_82 (by decide) ?_
      have hH := x_eqw (w' := wX G a S T L (tS F 3 (setV (F 3) (j - lv) on)) bs) (by first | (rw [setV, if_pos c_2]; done) | (rw [setV, if_neg c_2]; done)) hH
      exact hE _ _ _ _ _ hH (by first | (rw [setV, if_pos c_2]; first | exact xb_t c_4 | exact xb_f (fun z => z c_4)) | (rw [setV, if_neg c_2]; first | exact xb_t c_4 | exact xb_f (fun z => z c_4))) (by decide) dX3_set_86
set_option maxHeartbeats 400000 in
set_option maxRecDepth 100000 in
theorem c_X3_setting (l : Launch) (G : xG) (a : Nat → Nat) (S T : Nat → Nat → Int32) (L : Nat → Nat → Int64) (F : Nat → Int32) (bs : Int64) (h2 : F 2 = nI 1) : xMi l yX3_setting wsX3_setting { frames := 1, cells := 0, slots := 0, locals := 20 } [.ref (a 0)] G (wX G a S T L F bs) (F 3) (wX G a S T L F bs) 0 0 := by
  refine x_ofi (cc := cX3_setting) (maxL := 1) (ty := .int) (by decide) rfl (Nat.le_of_ble_eq_true rfl) ?_
  intro p e s m args below meth c ls A Q C hml hA hH hl hE
  have hl : lv_has ls 1 [(0, .ref (a 0))] := hl
  have inX3 : ∀ w ∈ wsX30, w ∈ wsX3_setting := fun _ h => (List.mem_cons_of_mem _ (List.mem_append_left _ (List.mem_append_right _ h)))
  refine lv_aload_n C.1 C.2.1 dX3_setting_0 rfl (lv_at hl 0 rfl) ?_
  refine x_cv (w' := wX G a S T L F bs) (va_runV (As := []) (rest := []) (x_fix C hml) (c_X3_requireTree l G a S T L F bs h2 _) (cwV 0 C.2.2.2.1 gX3_setting_X3_requireTree rfl rfl rfl (by decide +kernel) ⟨Nat.le_of_ble_eq_true rfl, Nat.le_of_ble_eq_true rfl⟩) (x_pv C hH rfl gX_0 rfl rfl) rfl rfl hl.1 rfl (lv_room (Nat.le_of_ble_eq_true rfl)) dX3_setting_1 ⟨Nat.le_of_ble_eq_true rfl, Nat.le_of_ble_eq_true rfl⟩) hH hA (fun H locs hH => ?_)
  refine lv_aload_n C.1 C.2.1 dX3_setting_4 rfl (lv_at hl 0 rfl) ?_
  refine x_get (C := RX3) (T := TX3) (N := 7) (v := .int (F 3)) C inX3 hH 0 gX_0 rfl 6 (by decide) rfl rfl 1 rfl dX3_setting_5 ?_
  exact hE _ _ _ _ _ hH (rfl) (rfl) dX3_setting_8
set_option maxHeartbeats 400000 in
set_option maxRecDepth 100000 in
theorem c_X3_load (l : Launch) (G : xG) (a : Nat → Nat) (S T : Nat → Nat → Int32) (L : Nat → Nat → Int64) (F : Nat → Int32) (bs : Int64) (k : Nat) (sh : Bool) (h2 : F 2 = nI 1) (lc rc : Nat → Nat) (lv nd : Nat) (h5 : F 5 = nI lv) (h6 : F 6 = nI nd) (h1 : 1 ≤ lv) (hl9 : lv ≤ nd) (hl10 : lv ≤ 10) (hn : nd ≤ 19) (hPQ : ∀ i, lv ≤ i → i < nd → T 0 i = nI (lc i) ∧ T 1 i = nI (rc i) ∧ lc i < 19 ∧ rc i < 19) (hk : k < nd) : xMl l yX3_load wsX3_load { frames := 5, cells := 0, slots := 0, locals := 115 } [.ref (a 0), .int (nI k), .int (xb (sh = true))] G (wX G a S T L F bs) (if sh = true then (wgF F T lc rc lv (F 3) (nd - lv) lv (wsF S lv 0 L)) 1 k else (wgF F T lc rc lv (F 3) (nd - lv) lv (wsF S lv 0 L)) 0 k) (wX G a S T (wgF F T lc rc lv (F 3) (nd - lv) lv (wsF S lv 0 L)) F bs) 0 0 := by
  have hk1 : inW (nI k) (nI 0) (nI (nd - 1)) := inN (by omega) (by omega) (by omega)
  refine x_ofl (cc := cX3_load) (maxL := 3) (by decide) rfl (Nat.le_of_ble_eq_true rfl) ?_
  intro p e s m args below meth c ls A Q C hml hA hH hl hE
  have hl : lv_has ls 3 [(0, .ref (a 0)), (1, .int (nI k)), (2, .int (xb (sh = true)))] := hl
  have inX0 : ∀ w ∈ wsX00, w ∈ wsX3_load := fun _ h => (List.mem_cons_of_mem _ (List.mem_append_left _ (List.mem_append_left _ (List.mem_append_left _ (List.mem_append_right _ h)))))
  have inX2 : ∀ w ∈ wsX20, w ∈ wsX3_load := fun _ h => (List.mem_cons_of_mem _ (List.mem_append_left _ (List.mem_append_left _ (List.mem_append_left _ (List.mem_append_left _ (List.mem_append_right _ h))))))
  have inX3 : ∀ w ∈ wsX30, w ∈ wsX3_load := fun _ h => (List.mem_cons_of_mem _ (List.mem_append_left _ (List.mem_append_left _ (List.mem_append_left _ (List.mem_append_left _ (List.mem_append_left _ (List.mem_append_right _ h)))))))
  refine lv_aload_n C.1 C.2.1 dX3_load_0 rfl (lv_at hl 0 rfl) ?_
  refine x_cv (w' := wX G a S T L F bs) (va_runV (As := []) (rest := []) (x_fix C hml) (c_X3_requireTree l G a S T L F bs h2 _) (cwV 0 C.2.2.2.1 gX3_load_X3_requireTree rfl rfl rfl (by decide +kernel) ⟨Nat.le_of_ble_eq_true rfl, Nat.le_of_ble_eq_true rfl⟩) (x_pv C hH rfl gX_0 rfl rfl) rfl rfl hl.1 rfl (lv_room (Nat.le_of_ble_eq_true rfl)) dX3_load_1 ⟨Nat.le_of_ble_eq_true rfl, Nat.le_of_ble_eq_true rfl⟩) hH hA (fun H locs hH => ?_)
  refine lv_iload_n C.1 C.2.1 dX3_load_4 rfl (lv_at hl 1 rfl) ?_
  refine lv_iconst (v := nI 0) C.1 C.2.1 dX3_load_5 (by decide) ?_
  refine lv_aload_n C.1 C.2.1 dX3_load_6 rfl (lv_at hl 0 rfl) ?_
  refine x_get (C := RX3) (T := TX3) (N := 7) (v := .ref (a 6)) C inX3 hH 0 gX_0 rfl 1 (by decide) rfl rfl 3 rfl dX3_load_7 ?_
  refine x_get (C := RX2) (T := TX2) (N := 14) (v := .int (F 6)) C inX2 hH 6 gX_6 rfl 13 (by decide) rfl rfl 4 rfl dX3_load_10 ?_
  refine x_toi h6 ?_
  refine lv_iconst (v := nI 1) C.1 C.2.1 dX3_load_13 (by decide) ?_
  refine lv_isub C.1 C.2.1 dX3_load_14 ?_
  refine x_toi (pk_sub (a := nd) (b := 1) (by omega)) ?_
  refine x_ci (w' := wX G a S T L F bs) (va_runS (As := [.int (nI k), .int (nI 0), .int (nI (nd - 1))]) (rest := []) (x_fix C hml) (c_X3_isWithin l G a S T L F bs (nI k) (nI 0) (nI (nd - 1)) _) (cwS 3 C.2.2.2.1 gX3_load_X3_isWithin rfl rfl rfl (by decide +kernel) ⟨Nat.le_of_ble_eq_true rfl, Nat.le_of_ble_eq_true rfl⟩) (x_ps C hH) rfl rfl hl.1 rfl (lv_room (Nat.le_of_ble_eq_true rfl)) dX3_load_15 ⟨Nat.le_of_ble_eq_true rfl, Nat.le_of_ble_eq_true rfl⟩) hH hA (fun H locs hH => ?_)
  refine lv_if_ne (tgt := 31) C.1 C.2.1 dX3_load_18 (by decide) (fun _ => ?_) (fun z8 => absurd z8 (fun z9 => xb_0.mp z9 hk1))
  refine lv_aload_n C.1 C.2.1 dX3_load_31 rfl (lv_at hl 0 rfl) ?_
  refine x_get (C := RX3) (T := TX3) (N := 7) (v := .ref (a 19)) C inX3 hH 0 gX_0 rfl 2 (by decide) rfl rfl 5 rfl dX3_load_32 ?_
  refine lv_aload_n C.1 C.2.1 dX3_load_35 rfl (lv_at hl 0 rfl) ?_
  refine x_get (C := RX3) (T := TX3) (N := 7) (v := .ref (a 6)) C inX3 hH 0 gX_0 rfl 1 (by decide) rfl rfl 3 rfl dX3_load_36 ?_
  refine lv_aload_n C.1 C.2.1 dX3_load_39 rfl (lv_at hl 0 rfl) ?_
  refine x_get (C := RX3) (T := TX3) (N := 7) (v := .ref (a 1)) C inX3 hH 0 gX_0 rfl 0 (by decide) rfl rfl 6 rfl dX3_load_40 ?_
  refine lv_aload_n C.1 C.2.1 dX3_load_43 rfl (lv_at hl 0 rfl) ?_
  refine x_get (C := RX3) (T := TX3) (N := 7) (v := .int (F 3)) C inX3 hH 0 gX_0 rfl 6 (by decide) rfl rfl 7 rfl dX3_load_44 ?_
  refine x_cv (w' := wX G a S T (wgF F T lc rc lv (F 3) (nd - lv) lv (wsF S lv 0 L)) F bs) (va_runV (As := [.ref (a 6), .ref (a 1), .int (F 3)]) (rest := []) (x_fix C hml) (c_X0_weigh l G a S T L F bs (F 3) lc rc lv nd h5 h6 h1 hl9 hl10 hn hPQ _) (cwV 3 C.2.2.2.1 gX3_load_X0_weigh rfl rfl rfl (by decide +kernel) ⟨Nat.le_of_ble_eq_true rfl, Nat.le_of_ble_eq_true rfl⟩) (x_pv C hH rfl gX_19 rfl rfl) rfl rfl hl.1 rfl (lv_room (Nat.le_of_ble_eq_true rfl)) dX3_load_47 ⟨Nat.le_of_ble_eq_true rfl, Nat.le_of_ble_eq_true rfl⟩) hH hA (fun H locs hH => ?_)
  refine lv_iload_n C.1 C.2.1 dX3_load_50 rfl (lv_at hl 2 rfl) ?_
  refine lv_if_eq (tgt := 66) C.1 C.2.1 dX3_load_51 (by decide) (fun c_2 => ?_) (fun c_2 => ?_)
  · rw [xb_0] at c_2
    refine lv_aload_n C.1 C.2.1 dX3_load_66 rfl (lv_at hl 0 rfl) ?_
    refine x_get (C := RX3) (T := TX3) (N := 7) (v := .ref (a 19)) C inX3 hH 0 gX_0 rfl 2 (by decide) rfl rfl 5 rfl dX3_load_67 ?_
    refine x_get (C := RX0) (T := TX0) (N := 10) (v := .ref (a 20)) C inX0 hH 19 gX_19 rfl 0 (by decide) rfl rfl 9 rfl dX3_load_70 ?_
    refine lv_iload_n C.1 C.2.1 dX3_load_73 rfl (lv_at hl 1 rfl) ?_
    refine x_lald (f := (wgF F T lc rc lv (F 3) (nd - lv) lv (wsF S lv 0 L)) 0) (j := k) (v := (wgF F T lc rc lv (F 3) (nd - lv) lv (wsF S lv 0 L)) 0 k) C hH 20 gX_20 (by omega) (by decide) (rfl) dX3_load_74 ?_
    exact hE _ _ _ _ _ hH (by first | rw [if_pos c_2] | rw [if_neg c_2]) dX3_load_75
  · rw [xb_0] at c_2
    have c_2 := Classical.not_not.mp c_2
    refine lv_aload_n C.1 C.2.1 dX3_load_54 rfl (lv_at hl 0 rfl) ?_
    refine x_get (C := RX3) (T := TX3) (N := 7) (v := .ref (a 19)) C inX3 hH 0 gX_0 rfl 2 (by decide) rfl rfl 5 rfl dX3_load_55 ?_
    refine x_get (C := RX0) (T := TX0) (N := 10) (v := .ref (a 21)) C inX0 hH 19 gX_19 rfl 1 (by decide) rfl rfl 8 rfl dX3_load_58 ?_
    refine lv_iload_n C.1 C.2.1 dX3_load_61 rfl (lv_at hl 1 rfl) ?_
    refine x_lald (f := (wgF F T lc rc lv (F 3) (nd - lv) lv (wsF S lv 0 L)) 1) (j := k) (v := (wgF F T lc rc lv (F 3) (nd - lv) lv (wsF S lv 0 L)) 1 k) C hH 21 gX_21 (by omega) (by decide) (rfl) dX3_load_62 ?_
    refine lv_goto (tgt := 75) C.1 C.2.1 dX3_load_63 (by decide) ?_
    exact hE _ _ _ _ _ hH (by first | rw [if_pos c_2] | rw [if_neg c_2]) dX3_load_75
set_option maxHeartbeats 400000 in
set_option maxRecDepth 100000 in
theorem c_X3_delay (l : Launch) (G : xG) (a : Nat → Nat) (S T : Nat → Nat → Int32) (L : Nat → Nat → Int64) (F : Nat → Int32) (bs : Int64) (k : Nat) (h2 : F 2 = nI 1) (lc rc : Nat → Nat) (lv nd : Nat) (h5 : F 5 = nI lv) (h6 : F 6 = nI nd) (h1 : 1 ≤ lv) (hl9 : lv ≤ nd) (hl10 : lv ≤ 10) (hn : nd ≤ 19) (hPQ : ∀ i, lv ≤ i → i < nd → T 0 i = nI (lc i) ∧ T 1 i = nI (rc i) ∧ lc i < 19 ∧ rc i < 19) (hk : k < lv) : xMl l yX3_delay wsX3_delay { frames := 5, cells := 0, slots := 0, locals := 115 } [.ref (a 0), .int (nI k)] G (wX G a S T L F bs) (dlF F T (wgF F T lc rc lv (F 3) (nd - lv) lv (wsF S lv 0 L)) lv (F 3) (nd - lv) lv k (wdL F T (wgF F T lc rc lv (F 3) (nd - lv) lv (wsF S lv 0 L)) k)) (wX G a S T (wgF F T lc rc lv (F 3) (nd - lv) lv (wsF S lv 0 L)) F bs) 0 0 := by
  refine x_ofl (cc := cX3_delay) (maxL := 2) (by decide) rfl (Nat.le_of_ble_eq_true rfl) ?_
  intro p e s m args below meth c ls A Q C hml hA hH hl hE
  have hl : lv_has ls 2 [(0, .ref (a 0)), (1, .int (nI k))] := hl
  have inX3 : ∀ w ∈ wsX30, w ∈ wsX3_delay := fun _ h => (List.mem_cons_of_mem _ (List.mem_append_left _ (List.mem_append_left _ (List.mem_append_left _ (List.mem_append_left _ (List.mem_append_left _ (List.mem_append_right _ h)))))))
  refine lv_aload_n C.1 C.2.1 dX3_delay_0 rfl (lv_at hl 0 rfl) ?_
  refine x_cv (w' := wX G a S T L F bs) (va_runV (As := []) (rest := []) (x_fix C hml) (c_X3_requireTree l G a S T L F bs h2 _) (cwV 0 C.2.2.2.1 gX3_delay_X3_requireTree rfl rfl rfl (by decide +kernel) ⟨Nat.le_of_ble_eq_true rfl, Nat.le_of_ble_eq_true rfl⟩) (x_pv C hH rfl gX_0 rfl rfl) rfl rfl hl.1 rfl (lv_room (Nat.le_of_ble_eq_true rfl)) dX3_delay_1 ⟨Nat.le_of_ble_eq_true rfl, Nat.le_of_ble_eq_true rfl⟩) hH hA (fun H locs hH => ?_)
  refine lv_aload_n C.1 C.2.1 dX3_delay_4 rfl (lv_at hl 0 rfl) ?_
  refine lv_iload_n C.1 C.2.1 dX3_delay_5 rfl (lv_at hl 1 rfl) ?_
  refine x_cv (w' := wX G a S T L F bs) (va_runV (As := [.int (nI k)]) (rest := []) (x_fix C hml) (c_X3_requireSink l G a S T L F bs k lv h5 (by omega) (by omega) _) (cwV 1 C.2.2.2.1 gX3_delay_X3_requireSink rfl rfl rfl (by decide +kernel) ⟨Nat.le_of_ble_eq_true rfl, Nat.le_of_ble_eq_true rfl⟩) (x_pv C hH rfl gX_0 rfl rfl) rfl rfl hl.1 rfl (lv_room (Nat.le_of_ble_eq_true rfl)) dX3_delay_6 ⟨Nat.le_of_ble_eq_true rfl, Nat.le_of_ble_eq_true rfl⟩) hH hA (fun H locs hH => ?_)
  refine lv_aload_n C.1 C.2.1 dX3_delay_9 rfl (lv_at hl 0 rfl) ?_
  refine x_get (C := RX3) (T := TX3) (N := 7) (v := .ref (a 19)) C inX3 hH 0 gX_0 rfl 2 (by decide) rfl rfl 1 rfl dX3_delay_10 ?_
  refine lv_aload_n C.1 C.2.1 dX3_delay_13 rfl (lv_at hl 0 rfl) ?_
  refine x_get (C := RX3) (T := TX3) (N := 7) (v := .ref (a 6)) C inX3 hH 0 gX_0 rfl 1 (by decide) rfl rfl 2 rfl dX3_delay_14 ?_
  refine lv_aload_n C.1 C.2.1 dX3_delay_17 rfl (lv_at hl 0 rfl) ?_
  refine x_get (C := RX3) (T := TX3) (N := 7) (v := .ref (a 1)) C inX3 hH 0 gX_0 rfl 0 (by decide) rfl rfl 3 rfl dX3_delay_18 ?_
  refine lv_aload_n C.1 C.2.1 dX3_delay_21 rfl (lv_at hl 0 rfl) ?_
  refine x_get (C := RX3) (T := TX3) (N := 7) (v := .int (F 3)) C inX3 hH 0 gX_0 rfl 6 (by decide) rfl rfl 4 rfl dX3_delay_22 ?_
  refine x_cv (w' := wX G a S T (wgF F T lc rc lv (F 3) (nd - lv) lv (wsF S lv 0 L)) F bs) (va_runV (As := [.ref (a 6), .ref (a 1), .int (F 3)]) (rest := []) (x_fix C hml) (c_X0_weigh l G a S T L F bs (F 3) lc rc lv nd h5 h6 h1 hl9 hl10 hn hPQ _) (cwV 3 C.2.2.2.1 gX3_delay_X0_weigh rfl rfl rfl (by decide +kernel) ⟨Nat.le_of_ble_eq_true rfl, Nat.le_of_ble_eq_true rfl⟩) (x_pv C hH rfl gX_19 rfl rfl) rfl rfl hl.1 rfl (lv_room (Nat.le_of_ble_eq_true rfl)) dX3_delay_25 ⟨Nat.le_of_ble_eq_true rfl, Nat.le_of_ble_eq_true rfl⟩) hH hA (fun H locs hH => ?_)
  refine lv_aload_n C.1 C.2.1 dX3_delay_28 rfl (lv_at hl 0 rfl) ?_
  refine x_get (C := RX3) (T := TX3) (N := 7) (v := .ref (a 19)) C inX3 hH 0 gX_0 rfl 2 (by decide) rfl rfl 1 rfl dX3_delay_29 ?_
  refine lv_aload_n C.1 C.2.1 dX3_delay_32 rfl (lv_at hl 0 rfl) ?_
  refine x_get (C := RX3) (T := TX3) (N := 7) (v := .ref (a 6)) C inX3 hH 0 gX_0 rfl 1 (by decide) rfl rfl 2 rfl dX3_delay_33 ?_
  refine lv_iload_n C.1 C.2.1 dX3_delay_36 rfl (lv_at hl 1 rfl) ?_
  refine lv_aload_n C.1 C.2.1 dX3_delay_37 rfl (lv_at hl 0 rfl) ?_
  refine x_get (C := RX3) (T := TX3) (N := 7) (v := .int (F 3)) C inX3 hH 0 gX_0 rfl 6 (by decide) rfl rfl 4 rfl dX3_delay_38 ?_
  refine x_cl (w' := wX G a S T (wgF F T lc rc lv (F 3) (nd - lv) lv (wsF S lv 0 L)) F bs) (va_runV (As := [.ref (a 6), .int (nI k), .int (F 3)]) (rest := []) (x_fix C hml) (c_X0_delayTo l G a S T (wgF F T lc rc lv (F 3) (nd - lv) lv (wsF S lv 0 L)) F bs k (F 3) lv nd h5 h6 hl9 hn (by omega) _) (cwV 3 C.2.2.2.1 gX3_delay_X0_delayTo rfl rfl rfl (by decide +kernel) ⟨Nat.le_of_ble_eq_true rfl, Nat.le_of_ble_eq_true rfl⟩) (x_pv C hH rfl gX_19 rfl rfl) rfl rfl hl.1 rfl (lv_room (Nat.le_of_ble_eq_true rfl)) dX3_delay_41 ⟨Nat.le_of_ble_eq_true rfl, Nat.le_of_ble_eq_true rfl⟩) hH hA (fun H locs hH => ?_)
  exact hE _ _ _ _ _ hH (rfl) dX3_delay_44
set_option maxHeartbeats 400000 in
set_option maxRecDepth 100000 in
theorem c_X3_slack (l : Launch) (G : xG) (a : Nat → Nat) (S T : Nat → Nat → Int32) (L : Nat → Nat → Int64) (F : Nat → Int32) (bs : Int64) (h2 : F 2 = nI 1) (lc rc : Nat → Nat) (lv nd : Nat) (h5 : F 5 = nI lv) (h6 : F 6 = nI nd) (h1 : 1 ≤ lv) (hl9 : lv ≤ nd) (hl10 : lv ≤ 10) (hn : nd ≤ 19) (hPQ : ∀ i, lv ≤ i → i < nd → T 0 i = nI (lc i) ∧ T 1 i = nI (rc i) ∧ lc i < 19 ∧ rc i < 19) : xMl l yX3_slack wsX3_slack { frames := 5, cells := 0, slots := 0, locals := 115 } [.ref (a 0)] G (wX G a S T L F bs) (slL F T (wgF F T lc rc lv (F 3) (nd - lv) lv (wsF S lv 0 L)) (nd - 1)) (wX G a S T (wgF F T lc rc lv (F 3) (nd - lv) lv (wsF S lv 0 L)) F bs) 0 0 := by
  refine x_ofl (cc := cX3_slack) (maxL := 1) (by decide) rfl (Nat.le_of_ble_eq_true rfl) ?_
  intro p e s m args below meth c ls A Q C hml hA hH hl hE
  have hl : lv_has ls 1 [(0, .ref (a 0))] := hl
  have inX3 : ∀ w ∈ wsX30, w ∈ wsX3_slack := fun _ h => (List.mem_cons_of_mem _ (List.mem_append_left _ (List.mem_append_left _ (List.mem_append_left _ (List.mem_append_left _ (List.mem_append_right _ h))))))
  refine lv_aload_n C.1 C.2.1 dX3_slack_0 rfl (lv_at hl 0 rfl) ?_
  refine x_cv (w' := wX G a S T L F bs) (va_runV (As := []) (rest := []) (x_fix C hml) (c_X3_requireTree l G a S T L F bs h2 _) (cwV 0 C.2.2.2.1 gX3_slack_X3_requireTree rfl rfl rfl (by decide +kernel) ⟨Nat.le_of_ble_eq_true rfl, Nat.le_of_ble_eq_true rfl⟩) (x_pv C hH rfl gX_0 rfl rfl) rfl rfl hl.1 rfl (lv_room (Nat.le_of_ble_eq_true rfl)) dX3_slack_1 ⟨Nat.le_of_ble_eq_true rfl, Nat.le_of_ble_eq_true rfl⟩) hH hA (fun H locs hH => ?_)
  refine lv_aload_n C.1 C.2.1 dX3_slack_4 rfl (lv_at hl 0 rfl) ?_
  refine x_get (C := RX3) (T := TX3) (N := 7) (v := .ref (a 19)) C inX3 hH 0 gX_0 rfl 2 (by decide) rfl rfl 1 rfl dX3_slack_5 ?_
  refine lv_aload_n C.1 C.2.1 dX3_slack_8 rfl (lv_at hl 0 rfl) ?_
  refine x_get (C := RX3) (T := TX3) (N := 7) (v := .ref (a 6)) C inX3 hH 0 gX_0 rfl 1 (by decide) rfl rfl 2 rfl dX3_slack_9 ?_
  refine lv_aload_n C.1 C.2.1 dX3_slack_12 rfl (lv_at hl 0 rfl) ?_
  refine x_get (C := RX3) (T := TX3) (N := 7) (v := .ref (a 1)) C inX3 hH 0 gX_0 rfl 0 (by decide) rfl rfl 3 rfl dX3_slack_13 ?_
  refine lv_aload_n C.1 C.2.1 dX3_slack_16 rfl (lv_at hl 0 rfl) ?_
  refine x_get (C := RX3) (T := TX3) (N := 7) (v := .int (F 3)) C inX3 hH 0 gX_0 rfl 6 (by decide) rfl rfl 4 rfl dX3_slack_17 ?_
  refine x_cv (w' := wX G a S T (wgF F T lc rc lv (F 3) (nd - lv) lv (wsF S lv 0 L)) F bs) (va_runV (As := [.ref (a 6), .ref (a 1), .int (F 3)]) (rest := []) (x_fix C hml) (c_X0_weigh l G a S T L F bs (F 3) lc rc lv nd h5 h6 h1 hl9 hl10 hn hPQ _) (cwV 3 C.2.2.2.1 gX3_slack_X0_weigh rfl rfl rfl (by decide +kernel) ⟨Nat.le_of_ble_eq_true rfl, Nat.le_of_ble_eq_true rfl⟩) (x_pv C hH rfl gX_19 rfl rfl) rfl rfl hl.1 rfl (lv_room (Nat.le_of_ble_eq_true rfl)) dX3_slack_20 ⟨Nat.le_of_ble_eq_true rfl, Nat.le_of_ble_eq_true rfl⟩) hH hA (fun H locs hH => ?_)
  refine lv_aload_n C.1 C.2.1 dX3_slack_23 rfl (lv_at hl 0 rfl) ?_
  refine x_get (C := RX3) (T := TX3) (N := 7) (v := .ref (a 19)) C inX3 hH 0 gX_0 rfl 2 (by decide) rfl rfl 1 rfl dX3_slack_24 ?_
  refine lv_aload_n C.1 C.2.1 dX3_slack_27 rfl (lv_at hl 0 rfl) ?_
  refine x_get (C := RX3) (T := TX3) (N := 7) (v := .ref (a 6)) C inX3 hH 0 gX_0 rfl 1 (by decide) rfl rfl 2 rfl dX3_slack_28 ?_
  refine x_cl (w' := wX G a S T (wgF F T lc rc lv (F 3) (nd - lv) lv (wsF S lv 0 L)) F bs) (va_runV (As := [.ref (a 6)]) (rest := []) (x_fix C hml) (c_X0_slackAtSource l G a S T (wgF F T lc rc lv (F 3) (nd - lv) lv (wsF S lv 0 L)) F bs nd h6 (by omega) (by omega) _) (cwV 1 C.2.2.2.1 gX3_slack_X0_slackAtSource rfl rfl rfl (by decide +kernel) ⟨Nat.le_of_ble_eq_true rfl, Nat.le_of_ble_eq_true rfl⟩) (x_pv C hH rfl gX_19 rfl rfl) rfl rfl hl.1 rfl (lv_room (Nat.le_of_ble_eq_true rfl)) dX3_slack_31 ⟨Nat.le_of_ble_eq_true rfl, Nat.le_of_ble_eq_true rfl⟩) hH hA (fun H locs hH => ?_)
  exact hE _ _ _ _ _ hH (rfl) dX3_slack_34
set_option maxHeartbeats 400000 in
set_option maxRecDepth 100000 in
theorem c_X3_best (l : Launch) (G : xG) (a : Nat → Nat) (S T : Nat → Nat → Int32) (L : Nat → Nat → Int64) (F : Nat → Int32) (bs : Int64) (h2 : F 2 = nI 1) (lc rc : Nat → Nat) (lv nd : Nat) (h5 : F 5 = nI lv) (h6 : F 6 = nI nd) (h1 : 1 ≤ lv) (hl9 : lv ≤ nd) (hl10 : lv ≤ 10) (hn : nd ≤ 19) (hPQ : ∀ i, lv ≤ i → i < nd → T 0 i = nI (lc i) ∧ T 1 i = nI (rc i) ∧ lc i < 19 ∧ rc i < 19) (Z : (Nat → Nat → Int64) × Int64 × Int32) (hm : nd - lv < 10) (hZ : tfF F T lc rc lv nd (nd - lv) (nI 0) (wsF S lv 0 L, bs, -1) = Z) : xMl l yX3_best wsX3_best { frames := 15, cells := 0, slots := 0, locals := 339 } [.ref (a 0)] G (wX G a S T L F bs) Z.2.1 (wX G a S T Z.1 (tS F 12 Z.2.2) Z.2.1) 0 0 := by
  refine x_ofl (cc := cX3_best) (maxL := 1) (by decide) rfl (Nat.le_of_ble_eq_true rfl) ?_
  intro p e s m args below meth c ls A Q C hml hA hH hl hE
  have hl : lv_has ls 1 [(0, .ref (a 0))] := hl
  have inX0 : ∀ w ∈ wsX00, w ∈ wsX3_best := fun _ h => (List.mem_cons_of_mem _ (List.mem_append_left _ (List.mem_append_left _ (List.mem_append_left _ (List.mem_append_right _ h)))))
  have inX3 : ∀ w ∈ wsX30, w ∈ wsX3_best := fun _ h => (List.mem_cons_of_mem _ (List.mem_append_left _ (List.mem_append_left _ (List.mem_append_left _ (List.mem_append_left _ (List.mem_append_right _ h))))))
  refine lv_aload_n C.1 C.2.1 dX3_best_0 rfl (lv_at hl 0 rfl) ?_
  refine x_cv (w' := wX G a S T L F bs) (va_runV (As := []) (rest := []) (x_fix C hml) (c_X3_requireTree l G a S T L F bs h2 _) (cwV 0 C.2.2.2.1 gX3_best_X3_requireTree rfl rfl rfl (by decide +kernel) ⟨Nat.le_of_ble_eq_true rfl, Nat.le_of_ble_eq_true rfl⟩) (x_pv C hH rfl gX_0 rfl rfl) rfl rfl hl.1 rfl (lv_room (Nat.le_of_ble_eq_true rfl)) dX3_best_1 ⟨Nat.le_of_ble_eq_true rfl, Nat.le_of_ble_eq_true rfl⟩) hH hA (fun H locs hH => ?_)
  refine lv_aload_n C.1 C.2.1 dX3_best_4 rfl (lv_at hl 0 rfl) ?_
  refine x_get (C := RX3) (T := TX3) (N := 7) (v := .ref (a 19)) C inX3 hH 0 gX_0 rfl 2 (by decide) rfl rfl 1 rfl dX3_best_5 ?_
  refine lv_aload_n C.1 C.2.1 dX3_best_8 rfl (lv_at hl 0 rfl) ?_
  refine x_get (C := RX3) (T := TX3) (N := 7) (v := .ref (a 6)) C inX3 hH 0 gX_0 rfl 1 (by decide) rfl rfl 2 rfl dX3_best_9 ?_
  refine lv_aload_n C.1 C.2.1 dX3_best_12 rfl (lv_at hl 0 rfl) ?_
  refine x_get (C := RX3) (T := TX3) (N := 7) (v := .ref (a 1)) C inX3 hH 0 gX_0 rfl 0 (by decide) rfl rfl 3 rfl dX3_best_13 ?_
  refine x_cv (w' := wX G a S T Z.1 ((tS F 12 Z.2.2)) Z.2.1) (va_runV (As := [.ref (a 6), .ref (a 1)]) (rest := []) (x_fix C hml) (c_X0_findBest l G a S T L F bs lc rc lv nd h5 h6 h1 hl9 hl10 hn hPQ Z (by omega) hZ _) (cwV 2 C.2.2.2.1 gX3_best_X0_findBest rfl rfl rfl (by decide +kernel) ⟨Nat.le_of_ble_eq_true rfl, Nat.le_of_ble_eq_true rfl⟩) (x_pv C hH rfl gX_19 rfl rfl) rfl rfl hl.1 rfl (lv_room (Nat.le_of_ble_eq_true rfl)) dX3_best_16 ⟨Nat.le_of_ble_eq_true rfl, Nat.le_of_ble_eq_true rfl⟩) hH hA (fun H locs hH => ?_)
  refine lv_aload_n C.1 C.2.1 dX3_best_19 rfl (lv_at hl 0 rfl) ?_
  refine x_get (C := RX3) (T := TX3) (N := 7) (v := .ref (a 19)) C inX3 hH 0 gX_0 rfl 2 (by decide) rfl rfl 1 rfl dX3_best_20 ?_
  refine x_get (C := RX0) (T := TX0) (N := 10) (v := .long Z.2.1) C inX0 hH 19 gX_19 rfl 8 (by decide) rfl rfl 4 rfl dX3_best_23 ?_
  have hH := x_eqw (w' := wX G a S T Z.1 (tS F 12 Z.2.2) Z.2.1) (rfl) hH
  exact hE _ _ _ _ _ hH (rfl) dX3_best_26
set_option maxHeartbeats 400000 in
set_option maxRecDepth 100000 in
theorem c_X3_improve (l : Launch) (G : xG) (a : Nat → Nat) (S T : Nat → Nat → Int32) (L : Nat → Nat → Int64) (F : Nat → Int32) (bs : Int64) (h2 : F 2 = nI 1) (lc rc : Nat → Nat) (lv nd : Nat) (h5 : F 5 = nI lv) (h6 : F 6 = nI nd) (h1 : 1 ≤ lv) (hl9 : lv ≤ nd) (hl10 : lv ≤ 10) (hn : nd ≤ 19) (hPQ : ∀ i, lv ≤ i → i < nd → T 0 i = nI (lc i) ∧ T 1 i = nI (rc i) ∧ lc i < 19 ∧ rc i < 19) (Z : (Nat → Nat → Int64) × Int64 × Int32) (hm : nd - lv < 10) (hZ : tfF F T lc rc lv nd (nd - lv) (nI 0) (wsF S lv 0 L, bs, -1) = Z) : xMi l yX3_improve wsX3_improve { frames := 15, cells := 0, slots := 0, locals := 339 } [.ref (a 0)] G (wX G a S T L F bs) Z.2.2 (wX G a S T Z.1 (tS (tS F 12 Z.2.2) 3 Z.2.2) Z.2.1) 0 0 := by
  refine x_ofi (cc := cX3_improve) (maxL := 1) (ty := .int) (by decide) rfl (Nat.le_of_ble_eq_true rfl) ?_
  intro p e s m args below meth c ls A Q C hml hA hH hl hE
  have hl : lv_has ls 1 [(0, .ref (a 0))] := hl
  have inX0 : ∀ w ∈ wsX00, w ∈ wsX3_improve := fun _ h => (List.mem_cons_of_mem _ (List.mem_append_left _ (List.mem_append_left _ (List.mem_append_left _ (List.mem_append_right _ h)))))
  have inX3 : ∀ w ∈ wsX30, w ∈ wsX3_improve := fun _ h => (List.mem_cons_of_mem _ (List.mem_append_left _ (List.mem_append_left _ (List.mem_append_left _ (List.mem_append_left _ (List.mem_append_right _ h))))))
  refine lv_aload_n C.1 C.2.1 dX3_improve_0 rfl (lv_at hl 0 rfl) ?_
  refine x_cv (w' := wX G a S T L F bs) (va_runV (As := []) (rest := []) (x_fix C hml) (c_X3_requireTree l G a S T L F bs h2 _) (cwV 0 C.2.2.2.1 gX3_improve_X3_requireTree rfl rfl rfl (by decide +kernel) ⟨Nat.le_of_ble_eq_true rfl, Nat.le_of_ble_eq_true rfl⟩) (x_pv C hH rfl gX_0 rfl rfl) rfl rfl hl.1 rfl (lv_room (Nat.le_of_ble_eq_true rfl)) dX3_improve_1 ⟨Nat.le_of_ble_eq_true rfl, Nat.le_of_ble_eq_true rfl⟩) hH hA (fun H locs hH => ?_)
  refine lv_aload_n C.1 C.2.1 dX3_improve_4 rfl (lv_at hl 0 rfl) ?_
  refine x_get (C := RX3) (T := TX3) (N := 7) (v := .ref (a 19)) C inX3 hH 0 gX_0 rfl 2 (by decide) rfl rfl 1 rfl dX3_improve_5 ?_
  refine lv_aload_n C.1 C.2.1 dX3_improve_8 rfl (lv_at hl 0 rfl) ?_
  refine x_get (C := RX3) (T := TX3) (N := 7) (v := .ref (a 6)) C inX3 hH 0 gX_0 rfl 1 (by decide) rfl rfl 2 rfl dX3_improve_9 ?_
  refine lv_aload_n C.1 C.2.1 dX3_improve_12 rfl (lv_at hl 0 rfl) ?_
  refine x_get (C := RX3) (T := TX3) (N := 7) (v := .ref (a 1)) C inX3 hH 0 gX_0 rfl 0 (by decide) rfl rfl 3 rfl dX3_improve_13 ?_
  refine x_cv (w' := wX G a S T Z.1 ((tS F 12 Z.2.2)) Z.2.1) (va_runV (As := [.ref (a 6), .ref (a 1)]) (rest := []) (x_fix C hml) (c_X0_findBest l G a S T L F bs lc rc lv nd h5 h6 h1 hl9 hl10 hn hPQ Z (by omega) hZ _) (cwV 2 C.2.2.2.1 gX3_improve_X0_findBest rfl rfl rfl (by decide +kernel) ⟨Nat.le_of_ble_eq_true rfl, Nat.le_of_ble_eq_true rfl⟩) (x_pv C hH rfl gX_19 rfl rfl) rfl rfl hl.1 rfl (lv_room (Nat.le_of_ble_eq_true rfl)) dX3_improve_16 ⟨Nat.le_of_ble_eq_true rfl, Nat.le_of_ble_eq_true rfl⟩) hH hA (fun H locs hH => ?_)
  refine lv_aload_n C.1 C.2.1 dX3_improve_19 rfl (lv_at hl 0 rfl) ?_
  refine lv_aload_n C.1 C.2.1 dX3_improve_20 rfl (lv_at hl 0 rfl) ?_
  refine x_get (C := RX3) (T := TX3) (N := 7) (v := .ref (a 19)) C inX3 hH 0 gX_0 rfl 2 (by decide) rfl rfl 1 rfl dX3_improve_21 ?_
  refine x_get (C := RX0) (T := TX0) (N := 10) (v := .int Z.2.2) C inX0 hH 19 gX_19 rfl 9 (by decide) rfl rfl 4 rfl dX3_improve_24 ?_
  refine x_put (C := RX3) (T := TX3) (N := 7) (v := .int Z.2.2) (w' := wX G a S T Z.1 ((tS ((tS F 12 Z.2.2)) 3 Z.2.2)) Z.2.1) C inX3 tyX3 tyX3_ok nmX3 hH 0 gX_0 rfl 6 (by decide) rfl rfl rfl rfl (Nat.le_of_ble_eq_true rfl) fX_0_6 5 rfl dX3_improve_27 (fun H locs hH => ?_)
  refine lv_aload_n C.1 C.2.1 dX3_improve_30 rfl (lv_at hl 0 rfl) ?_
  refine x_get (C := RX3) (T := TX3) (N := 7) (v := .int Z.2.2) C inX3 hH 0 gX_0 rfl 6 (by decide) rfl rfl 5 rfl dX3_improve_31 ?_
  have hH := x_eqw (w' := wX G a S T Z.1 (tS (tS F 12 Z.2.2) 3 Z.2.2) Z.2.1) (rfl) hH
  exact hE _ _ _ _ _ hH (rfl) (rfl) dX3_improve_34
