theorem tfF_s {F : Nat → Int32} {T : Nat → Nat → Int32} {lc rc : Nat → Nat} {lv nd M m j : Nat} {v bt : Int32} {bs : Int64} {L : Nat → Nat → Int64} {A Z : (Nat → Nat → Int64) × Int64 × Int32} (hM : M = m + 1) (hj : nd - (m + 1) = j) (hA : tfF F T lc rc lv nd m v (wjL F T L j (lc j) (rc j) false, bs, bt) = A) (hZ : tfF F T lc rc lv nd M v (L, bs, bt) = Z) : tfF F T lc rc lv nd m (v ||| bitI (j - lv)) (wjL F T A.1 j (lc j) (rc j) true, A.2.1, A.2.2) = Z := by
  subst hM
  subst hj
  subst hA
  subst hZ
  rfl
set_option maxHeartbeats 400000 in
set_option maxRecDepth 100000 in
theorem c_X0_tryFrom_0 (l : Launch) (G : xG) (a : Nat → Nat) (S T : Nat → Nat → Int32) (L : Nat → Nat → Int64) (F : Nat → Int32) (bs : Int64) (bt : Int32) (j : Nat) (v : Int32) (lc rc : Nat → Nat) (lv nd : Nat) (h5 : F 5 = nI lv) (h6 : F 6 = nI nd) (h1 : 1 ≤ lv) (hl9 : lv ≤ nd) (hl10 : lv ≤ 10) (hn : nd ≤ 19) (hPQ : ∀ i, lv ≤ i → i < nd → T 0 i = nI (lc i) ∧ T 1 i = nI (rc i) ∧ lc i < 19 ∧ rc i < 19) (Z : (Nat → Nat → Int64) × Int64 × Int32) (hj : j + 0 = nd) (hlj : lv ≤ j) (hZ : tfF F T lc rc lv nd 0 v (L, bs, bt) = Z) : xMv l yX0_tryFrom wsX0_tryFrom { frames := 4, cells := 0, slots := 0, locals := 87 } [.ref (a 19), .ref (a 6), .int (nI j), .int v] G (wX G a S T L ((tS F 12 bt)) bs) (wX G a S T Z.1 ((tS F 12 Z.2.2)) Z.2.1) 0 0 := by
  refine x_ofv (cc := cX0_tryFrom) (maxL := 4) (by decide) rfl (Nat.le_of_ble_eq_true rfl) ?_
  intro p e s m args below meth c ls A Q C hml hA hH hl hE
  have hl : lv_has ls 4 [(0, .ref (a 19)), (1, .ref (a 6)), (2, .int (nI j)), (3, .int v)] := hl
  have inX2 : ∀ w ∈ wsX20, w ∈ wsX0_tryFrom := fun _ h => (List.mem_cons_of_mem _ (List.mem_append_left _ (List.mem_append_right _ h)))
  refine lv_iload_n C.1 C.2.1 dX0_tryFrom_0 rfl (lv_at hl 2 rfl) ?_
  refine lv_aload_n C.1 C.2.1 dX0_tryFrom_1 rfl (lv_at hl 1 rfl) ?_
  refine x_get (C := RX2) (T := TX2) (N := 14) (v := .int (F 6)) C inX2 hH 6 gX_6 rfl 13 (by decide) rfl rfl 1 rfl dX0_tryFrom_2 ?_
  refine x_toi h6 ?_
  refine lv_icmp_lt (tgt := 19) C.1 C.2.1 dX0_tryFrom_5 (by decide) (fun c_1 => absurd c_1 (fun z => absurd ((nI_ltI (by omega) (by omega)).mp z) (by omega))) (fun _ => ?_)
  refine lv_aload_n C.1 C.2.1 dX0_tryFrom_8 rfl (lv_at hl 0 rfl) ?_
  refine lv_aload_n C.1 C.2.1 dX0_tryFrom_9 rfl (lv_at hl 0 rfl) ?_
  refine lv_aload_n C.1 C.2.1 dX0_tryFrom_10 rfl (lv_at hl 1 rfl) ?_
  refine x_cl (w' := wX G a S T L ((tS F 12 bt)) bs) (va_runV (As := [.ref (a 6)]) (rest := [.ref (a 19)]) (x_fix C hml) (c_X0_slackAtSource l G a S T L ((tS F 12 bt)) bs nd h6 (by omega) (by omega) _) (cwV 1 C.2.2.2.1 gX0_tryFrom_X0_slackAtSource rfl rfl rfl (by decide +kernel) ⟨Nat.le_of_ble_eq_true rfl, Nat.le_of_ble_eq_true rfl⟩) (x_pv C hH rfl gX_19 rfl rfl) rfl rfl hl.1 rfl (lv_room (Nat.le_of_ble_eq_true rfl)) dX0_tryFrom_11 ⟨Nat.le_of_ble_eq_true rfl, Nat.le_of_ble_eq_true rfl⟩) hH hA (fun H locs hH => ?_)
  refine lv_iload_n C.1 C.2.1 dX0_tryFrom_14 rfl (lv_at hl 3 rfl) ?_
  refine x_cv (w' := wX G a S T L ((tS F 12 ((kbF (slL ((tS F 12 bt)) T L (nd - 1)) v (bs, bt)).2))) ((kbF (slL ((tS F 12 bt)) T L (nd - 1)) v (bs, bt)).1)) (va_runV (As := [.long (slL ((tS F 12 bt)) T L (nd - 1)), .int v]) (rest := []) (x_fix C hml) (c_X0_keepIfBetter l G a S T L F bs bt (slL ((tS F 12 bt)) T L (nd - 1)) v _) (cwV 2 C.2.2.2.1 gX0_tryFrom_X0_keepIfBetter rfl rfl rfl (by decide +kernel) ⟨Nat.le_of_ble_eq_true rfl, Nat.le_of_ble_eq_true rfl⟩) (x_pv C hH rfl gX_19 rfl rfl) rfl rfl hl.1 rfl (lv_room (Nat.le_of_ble_eq_true rfl)) dX0_tryFrom_15 ⟨Nat.le_of_ble_eq_true rfl, Nat.le_of_ble_eq_true rfl⟩) hH hA (fun H locs hH => ?_)
  have hH := x_eqw (w' := wX G a S T Z.1 ((tS F 12 Z.2.2)) Z.2.1) (by rw [← hZ]; rfl) hH
  exact hE _ _ _ _ hH dX0_tryFrom_18
set_option maxHeartbeats 400000 in
set_option maxRecDepth 100000 in
theorem c_X0_tryFrom_1 (l : Launch) (G : xG) (a : Nat → Nat) (S T : Nat → Nat → Int32) (L : Nat → Nat → Int64) (F : Nat → Int32) (bs : Int64) (bt : Int32) (j : Nat) (v : Int32) (lc rc : Nat → Nat) (lv nd : Nat) (h5 : F 5 = nI lv) (h6 : F 6 = nI nd) (h1 : 1 ≤ lv) (hl9 : lv ≤ nd) (hl10 : lv ≤ 10) (hn : nd ≤ 19) (hPQ : ∀ i, lv ≤ i → i < nd → T 0 i = nI (lc i) ∧ T 1 i = nI (rc i) ∧ lc i < 19 ∧ rc i < 19) (Z : (Nat → Nat → Int64) × Int64 × Int32) (hj : j + 1 = nd) (hlj : lv ≤ j) (hZ : tfF F T lc rc lv nd 1 v (L, bs, bt) = Z) : xMv l yX0_tryFrom wsX0_tryFrom { frames := 5, cells := 0, slots := 0, locals := 110 } [.ref (a 19), .ref (a 6), .int (nI j), .int v] G (wX G a S T L ((tS F 12 bt)) bs) (wX G a S T Z.1 ((tS F 12 Z.2.2)) Z.2.1) 0 0 := by
  obtain ⟨A9, hA9⟩ : ∃ z, tfF F T lc rc lv nd 0 v (wjL F T L j (lc j) (rc j) false, bs, bt) = z := ⟨_, rfl⟩
  have hZ : tfF F T lc rc lv nd 0 (v ||| bitI (j - lv)) (wjL F T A9.1 j (lc j) (rc j) true, A9.2.1, A9.2.2) = Z := tfF_s (M := 1) (m := 0) (L := L) (bs := bs) (bt := bt) rfl (by omega) hA9 hZ
  refine x_ofv (cc := cX0_tryFrom) (maxL := 4) (by decide) rfl (Nat.le_of_ble_eq_true rfl) ?_
  intro p e s m args below meth c ls A Q C hml hA hH hl hE
  have hl : lv_has ls 4 [(0, .ref (a 19)), (1, .ref (a 6)), (2, .int (nI j)), (3, .int v)] := hl
  have inX2 : ∀ w ∈ wsX20, w ∈ wsX0_tryFrom := fun _ h => (List.mem_cons_of_mem _ (List.mem_append_left _ (List.mem_append_right _ h)))
  refine lv_iload_n C.1 C.2.1 dX0_tryFrom_0 rfl (lv_at hl 2 rfl) ?_
  refine lv_aload_n C.1 C.2.1 dX0_tryFrom_1 rfl (lv_at hl 1 rfl) ?_
  refine x_get (C := RX2) (T := TX2) (N := 14) (v := .int (F 6)) C inX2 hH 6 gX_6 rfl 13 (by decide) rfl rfl 1 rfl dX0_tryFrom_2 ?_
  refine x_toi h6 ?_
  refine lv_icmp_lt (tgt := 19) C.1 C.2.1 dX0_tryFrom_5 (by decide) (fun _ => ?_) (fun c_1 => absurd ((nI_ltI (by omega) (by omega)).mpr (by omega)) c_1)
  refine lv_aload_n C.1 C.2.1 dX0_tryFrom_19 rfl (lv_at hl 0 rfl) ?_
  refine lv_aload_n C.1 C.2.1 dX0_tryFrom_20 rfl (lv_at hl 1 rfl) ?_
  refine lv_iload_n C.1 C.2.1 dX0_tryFrom_21 rfl (lv_at hl 2 rfl) ?_
  refine lv_iconst (v := nI 0) C.1 C.2.1 dX0_tryFrom_22 (by decide) ?_
  refine x_toi (show nI 0 = xb (false = true) by decide) ?_
  refine x_cv (w' := wX G a S T (wjL F T L j (lc j) (rc j) false) ((tS F 12 bt)) bs) (va_runV (As := [.ref (a 6), .int (nI j), .int (xb (false = true))]) (rest := []) (x_fix C hml) (c_X0_weighJoin l G a S T L ((tS F 12 bt)) bs j (lc j) (rc j) false (hPQ j (by omega) (by omega)).1 (hPQ j (by omega) (by omega)).2.1 (by omega) (hPQ j (by omega) (by omega)).2.2.1 (hPQ j (by omega) (by omega)).2.2.2 _) (cwV 3 C.2.2.2.1 gX0_tryFrom_X0_weighJoin rfl rfl rfl (by decide +kernel) ⟨Nat.le_of_ble_eq_true rfl, Nat.le_of_ble_eq_true rfl⟩) (x_pv C hH rfl gX_19 rfl rfl) rfl rfl hl.1 rfl (lv_room (Nat.le_of_ble_eq_true rfl)) dX0_tryFrom_23 ⟨Nat.le_of_ble_eq_true rfl, Nat.le_of_ble_eq_true rfl⟩) hH hA (fun H locs hH => ?_)
  refine lv_aload_n C.1 C.2.1 dX0_tryFrom_26 rfl (lv_at hl 0 rfl) ?_
  refine lv_aload_n C.1 C.2.1 dX0_tryFrom_27 rfl (lv_at hl 1 rfl) ?_
  refine lv_iload_n C.1 C.2.1 dX0_tryFrom_28 rfl (lv_at hl 2 rfl) ?_
  refine lv_iconst (v := nI 1) C.1 C.2.1 dX0_tryFrom_29 (by decide) ?_
  refine lv_iadd C.1 C.2.1 dX0_tryFrom_30 ?_
  refine x_toi (nI_add j 1) ?_
  refine lv_iload_n C.1 C.2.1 dX0_tryFrom_31 rfl (lv_at hl 3 rfl) ?_
  refine x_cv (w' := wX G a S T A9.1 ((tS F 12 A9.2.2)) A9.2.1) (va_runS (As := [.ref (a 19), .ref (a 6), .int (nI (j + 1)), .int v]) (rest := []) (x_fix C hml) (c_X0_tryFrom_0 l G a S T (wjL F T L j (lc j) (rc j) false) F bs bt (j + 1) v lc rc lv nd h5 h6 h1 hl9 hl10 hn hPQ A9 (by omega) (by omega) hA9 _) (cwS 4 C.2.2.2.1 gX0_tryFrom_X0_tryFrom rfl rfl rfl (by decide +kernel) ⟨Nat.le_of_ble_eq_true rfl, Nat.le_of_ble_eq_true rfl⟩) (x_ps C hH) rfl rfl hl.1 rfl (lv_room (Nat.le_of_ble_eq_true rfl)) dX0_tryFrom_32 ⟨Nat.le_of_ble_eq_true rfl, Nat.le_of_ble_eq_true rfl⟩) hH hA (fun H locs hH => ?_)
  refine lv_aload_n C.1 C.2.1 dX0_tryFrom_35 rfl (lv_at hl 0 rfl) ?_
  refine lv_aload_n C.1 C.2.1 dX0_tryFrom_36 rfl (lv_at hl 1 rfl) ?_
  refine lv_iload_n C.1 C.2.1 dX0_tryFrom_37 rfl (lv_at hl 2 rfl) ?_
  refine lv_iconst (v := nI 1) C.1 C.2.1 dX0_tryFrom_38 (by decide) ?_
  refine x_toi (show nI 1 = xb (true = true) by decide) ?_
  refine x_cv (w' := wX G a S T (wjL F T A9.1 j (lc j) (rc j) true) ((tS F 12 A9.2.2)) A9.2.1) (va_runV (As := [.ref (a 6), .int (nI j), .int (xb (true = true))]) (rest := []) (x_fix C hml) (c_X0_weighJoin l G a S T A9.1 ((tS F 12 A9.2.2)) A9.2.1 j (lc j) (rc j) true (hPQ j (by omega) (by omega)).1 (hPQ j (by omega) (by omega)).2.1 (by omega) (hPQ j (by omega) (by omega)).2.2.1 (hPQ j (by omega) (by omega)).2.2.2 _) (cwV 3 C.2.2.2.1 gX0_tryFrom_X0_weighJoin rfl rfl rfl (by decide +kernel) ⟨Nat.le_of_ble_eq_true rfl, Nat.le_of_ble_eq_true rfl⟩) (x_pv C hH rfl gX_19 rfl rfl) rfl rfl hl.1 rfl (lv_room (Nat.le_of_ble_eq_true rfl)) dX0_tryFrom_39 ⟨Nat.le_of_ble_eq_true rfl, Nat.le_of_ble_eq_true rfl⟩) hH hA (fun H locs hH => ?_)
  refine lv_aload_n C.1 C.2.1 dX0_tryFrom_42 rfl (lv_at hl 0 rfl) ?_
  refine lv_aload_n C.1 C.2.1 dX0_tryFrom_43 rfl (lv_at hl 1 rfl) ?_
  refine lv_iload_n C.1 C.2.1 dX0_tryFrom_44 rfl (lv_at hl 2 rfl) ?_
  refine lv_iconst (v := nI 1) C.1 C.2.1 dX0_tryFrom_45 (by decide) ?_
  refine lv_iadd C.1 C.2.1 dX0_tryFrom_46 ?_
  refine x_toi (nI_add j 1) ?_
  refine lv_iload_n C.1 C.2.1 dX0_tryFrom_47 rfl (lv_at hl 3 rfl) ?_
  refine lv_aload_n C.1 C.2.1 dX0_tryFrom_48 rfl (lv_at hl 1 rfl) ?_
  refine lv_iload_n C.1 C.2.1 dX0_tryFrom_49 rfl (lv_at hl 2 rfl) ?_
  refine x_ci (w' := wX G a S T (wjL F T A9.1 j (lc j) (rc j) true) ((tS F 12 A9.2.2)) A9.2.1) (va_runV (As := [.int (nI j)]) (rest := [.int v, .int (nI (j + 1)), .ref (a 6), .ref (a 19)]) (x_fix C hml) (c_X2_bitOf l G a S T (wjL F T A9.1 j (lc j) (rc j) true) ((tS F 12 A9.2.2)) A9.2.1 (j) (lv) h5 (by omega) _) (cwV 1 C.2.2.2.1 gX0_tryFrom_X2_bitOf rfl rfl rfl (by decide +kernel) ⟨Nat.le_of_ble_eq_true rfl, Nat.le_of_ble_eq_true rfl⟩) (x_pv C hH rfl gX_6 rfl rfl) rfl rfl hl.1 rfl (lv_room (Nat.le_of_ble_eq_true rfl)) dX0_tryFrom_50 ⟨Nat.le_of_ble_eq_true rfl, Nat.le_of_ble_eq_true rfl⟩) hH hA (fun H locs hH => ?_)
  refine lv_ior C.1 C.2.1 dX0_tryFrom_53 ?_
  refine x_cv (w' := wX G a S T Z.1 ((tS F 12 Z.2.2)) Z.2.1) (va_runS (As := [.ref (a 19), .ref (a 6), .int (nI (j + 1)), .int (v ||| (bitI (j - lv)))]) (rest := []) (x_fix C hml) (c_X0_tryFrom_0 l G a S T (wjL F T A9.1 j (lc j) (rc j) true) F A9.2.1 A9.2.2 (j + 1) (v ||| (bitI (j - lv))) lc rc lv nd h5 h6 h1 hl9 hl10 hn hPQ Z (by omega) (by omega) hZ _) (cwS 4 C.2.2.2.1 gX0_tryFrom_X0_tryFrom rfl rfl rfl (by decide +kernel) ⟨Nat.le_of_ble_eq_true rfl, Nat.le_of_ble_eq_true rfl⟩) (x_ps C hH) rfl rfl hl.1 rfl (lv_room (Nat.le_of_ble_eq_true rfl)) dX0_tryFrom_54 ⟨Nat.le_of_ble_eq_true rfl, Nat.le_of_ble_eq_true rfl⟩) hH hA (fun H locs hH => ?_)
  exact hE _ _ _ _ hH dX0_tryFrom_57
set_option maxHeartbeats 400000 in
set_option maxRecDepth 100000 in
theorem c_X0_tryFrom_2 (l : Launch) (G : xG) (a : Nat → Nat) (S T : Nat → Nat → Int32) (L : Nat → Nat → Int64) (F : Nat → Int32) (bs : Int64) (bt : Int32) (j : Nat) (v : Int32) (lc rc : Nat → Nat) (lv nd : Nat) (h5 : F 5 = nI lv) (h6 : F 6 = nI nd) (h1 : 1 ≤ lv) (hl9 : lv ≤ nd) (hl10 : lv ≤ 10) (hn : nd ≤ 19) (hPQ : ∀ i, lv ≤ i → i < nd → T 0 i = nI (lc i) ∧ T 1 i = nI (rc i) ∧ lc i < 19 ∧ rc i < 19) (Z : (Nat → Nat → Int64) × Int64 × Int32) (hj : j + 2 = nd) (hlj : lv ≤ j) (hZ : tfF F T lc rc lv nd 2 v (L, bs, bt) = Z) : xMv l yX0_tryFrom wsX0_tryFrom { frames := 6, cells := 0, slots := 0, locals := 133 } [.ref (a 19), .ref (a 6), .int (nI j), .int v] G (wX G a S T L ((tS F 12 bt)) bs) (wX G a S T Z.1 ((tS F 12 Z.2.2)) Z.2.1) 0 0 := by
  obtain ⟨A9, hA9⟩ : ∃ z, tfF F T lc rc lv nd 1 v (wjL F T L j (lc j) (rc j) false, bs, bt) = z := ⟨_, rfl⟩
  have hZ : tfF F T lc rc lv nd 1 (v ||| bitI (j - lv)) (wjL F T A9.1 j (lc j) (rc j) true, A9.2.1, A9.2.2) = Z := tfF_s (M := 2) (m := 1) (L := L) (bs := bs) (bt := bt) rfl (by omega) hA9 hZ
  refine x_ofv (cc := cX0_tryFrom) (maxL := 4) (by decide) rfl (Nat.le_of_ble_eq_true rfl) ?_
  intro p e s m args below meth c ls A Q C hml hA hH hl hE
  have hl : lv_has ls 4 [(0, .ref (a 19)), (1, .ref (a 6)), (2, .int (nI j)), (3, .int v)] := hl
  have inX2 : ∀ w ∈ wsX20, w ∈ wsX0_tryFrom := fun _ h => (List.mem_cons_of_mem _ (List.mem_append_left _ (List.mem_append_right _ h)))
  refine lv_iload_n C.1 C.2.1 dX0_tryFrom_0 rfl (lv_at hl 2 rfl) ?_
  refine lv_aload_n C.1 C.2.1 dX0_tryFrom_1 rfl (lv_at hl 1 rfl) ?_
  refine x_get (C := RX2) (T := TX2) (N := 14) (v := .int (F 6)) C inX2 hH 6 gX_6 rfl 13 (by decide) rfl rfl 1 rfl dX0_tryFrom_2 ?_
  refine x_toi h6 ?_
  refine lv_icmp_lt (tgt := 19) C.1 C.2.1 dX0_tryFrom_5 (by decide) (fun _ => ?_) (fun c_1 => absurd ((nI_ltI (by omega) (by omega)).mpr (by omega)) c_1)
  refine lv_aload_n C.1 C.2.1 dX0_tryFrom_19 rfl (lv_at hl 0 rfl) ?_
  refine lv_aload_n C.1 C.2.1 dX0_tryFrom_20 rfl (lv_at hl 1 rfl) ?_
  refine lv_iload_n C.1 C.2.1 dX0_tryFrom_21 rfl (lv_at hl 2 rfl) ?_
  refine lv_iconst (v := nI 0) C.1 C.2.1 dX0_tryFrom_22 (by decide) ?_
  refine x_toi (show nI 0 = xb (false = true) by decide) ?_
  refine x_cv (w' := wX G a S T (wjL F T L j (lc j) (rc j) false) ((tS F 12 bt)) bs) (va_runV (As := [.ref (a 6), .int (nI j), .int (xb (false = true))]) (rest := []) (x_fix C hml) (c_X0_weighJoin l G a S T L ((tS F 12 bt)) bs j (lc j) (rc j) false (hPQ j (by omega) (by omega)).1 (hPQ j (by omega) (by omega)).2.1 (by omega) (hPQ j (by omega) (by omega)).2.2.1 (hPQ j (by omega) (by omega)).2.2.2 _) (cwV 3 C.2.2.2.1 gX0_tryFrom_X0_weighJoin rfl rfl rfl (by decide +kernel) ⟨Nat.le_of_ble_eq_true rfl, Nat.le_of_ble_eq_true rfl⟩) (x_pv C hH rfl gX_19 rfl rfl) rfl rfl hl.1 rfl (lv_room (Nat.le_of_ble_eq_true rfl)) dX0_tryFrom_23 ⟨Nat.le_of_ble_eq_true rfl, Nat.le_of_ble_eq_true rfl⟩) hH hA (fun H locs hH => ?_)
  refine lv_aload_n C.1 C.2.1 dX0_tryFrom_26 rfl (lv_at hl 0 rfl) ?_
  refine lv_aload_n C.1 C.2.1 dX0_tryFrom_27 rfl (lv_at hl 1 rfl) ?_
  refine lv_iload_n C.1 C.2.1 dX0_tryFrom_28 rfl (lv_at hl 2 rfl) ?_
  refine lv_iconst (v := nI 1) C.1 C.2.1 dX0_tryFrom_29 (by decide) ?_
  refine lv_iadd C.1 C.2.1 dX0_tryFrom_30 ?_
  refine x_toi (nI_add j 1) ?_
  refine lv_iload_n C.1 C.2.1 dX0_tryFrom_31 rfl (lv_at hl 3 rfl) ?_
  refine x_cv (w' := wX G a S T A9.1 ((tS F 12 A9.2.2)) A9.2.1) (va_runS (As := [.ref (a 19), .ref (a 6), .int (nI (j + 1)), .int v]) (rest := []) (x_fix C hml) (c_X0_tryFrom_1 l G a S T (wjL F T L j (lc j) (rc j) false) F bs bt (j + 1) v lc rc lv nd h5 h6 h1 hl9 hl10 hn hPQ A9 (by omega) (by omega) hA9 _) (cwS 4 C.2.2.2.1 gX0_tryFrom_X0_tryFrom rfl rfl rfl (by decide +kernel) ⟨Nat.le_of_ble_eq_true rfl, Nat.le_of_ble_eq_true rfl⟩) (x_ps C hH) rfl rfl hl.1 rfl (lv_room (Nat.le_of_ble_eq_true rfl)) dX0_tryFrom_32 ⟨Nat.le_of_ble_eq_true rfl, Nat.le_of_ble_eq_true rfl⟩) hH hA (fun H locs hH => ?_)
  refine lv_aload_n C.1 C.2.1 dX0_tryFrom_35 rfl (lv_at hl 0 rfl) ?_
  refine lv_aload_n C.1 C.2.1 dX0_tryFrom_36 rfl (lv_at hl 1 rfl) ?_
  refine lv_iload_n C.1 C.2.1 dX0_tryFrom_37 rfl (lv_at hl 2 rfl) ?_
  refine lv_iconst (v := nI 1) C.1 C.2.1 dX0_tryFrom_38 (by decide) ?_
  refine x_toi (show nI 1 = xb (true = true) by decide) ?_
  refine x_cv (w' := wX G a S T (wjL F T A9.1 j (lc j) (rc j) true) ((tS F 12 A9.2.2)) A9.2.1) (va_runV (As := [.ref (a 6), .int (nI j), .int (xb (true = true))]) (rest := []) (x_fix C hml) (c_X0_weighJoin l G a S T A9.1 ((tS F 12 A9.2.2)) A9.2.1 j (lc j) (rc j) true (hPQ j (by omega) (by omega)).1 (hPQ j (by omega) (by omega)).2.1 (by omega) (hPQ j (by omega) (by omega)).2.2.1 (hPQ j (by omega) (by omega)).2.2.2 _) (cwV 3 C.2.2.2.1 gX0_tryFrom_X0_weighJoin rfl rfl rfl (by decide +kernel) ⟨Nat.le_of_ble_eq_true rfl, Nat.le_of_ble_eq_true rfl⟩) (x_pv C hH rfl gX_19 rfl rfl) rfl rfl hl.1 rfl (lv_room (Nat.le_of_ble_eq_true rfl)) dX0_tryFrom_39 ⟨Nat.le_of_ble_eq_true rfl, Nat.le_of_ble_eq_true rfl⟩) hH hA (fun H locs hH => ?_)
  refine lv_aload_n C.1 C.2.1 dX0_tryFrom_42 rfl (lv_at hl 0 rfl) ?_
  refine lv_aload_n C.1 C.2.1 dX0_tryFrom_43 rfl (lv_at hl 1 rfl) ?_
  refine lv_iload_n C.1 C.2.1 dX0_tryFrom_44 rfl (lv_at hl 2 rfl) ?_
  refine lv_iconst (v := nI 1) C.1 C.2.1 dX0_tryFrom_45 (by decide) ?_
  refine lv_iadd C.1 C.2.1 dX0_tryFrom_46 ?_
  refine x_toi (nI_add j 1) ?_
  refine lv_iload_n C.1 C.2.1 dX0_tryFrom_47 rfl (lv_at hl 3 rfl) ?_
  refine lv_aload_n C.1 C.2.1 dX0_tryFrom_48 rfl (lv_at hl 1 rfl) ?_
  refine lv_iload_n C.1 C.2.1 dX0_tryFrom_49 rfl (lv_at hl 2 rfl) ?_
  refine x_ci (w' := wX G a S T (wjL F T A9.1 j (lc j) (rc j) true) ((tS F 12 A9.2.2)) A9.2.1) (va_runV (As := [.int (nI j)]) (rest := [.int v, .int (nI (j + 1)), .ref (a 6), .ref (a 19)]) (x_fix C hml) (c_X2_bitOf l G a S T (wjL F T A9.1 j (lc j) (rc j) true) ((tS F 12 A9.2.2)) A9.2.1 (j) (lv) h5 (by omega) _) (cwV 1 C.2.2.2.1 gX0_tryFrom_X2_bitOf rfl rfl rfl (by decide +kernel) ⟨Nat.le_of_ble_eq_true rfl, Nat.le_of_ble_eq_true rfl⟩) (x_pv C hH rfl gX_6 rfl rfl) rfl rfl hl.1 rfl (lv_room (Nat.le_of_ble_eq_true rfl)) dX0_tryFrom_50 ⟨Nat.le_of_ble_eq_true rfl, Nat.le_of_ble_eq_true rfl⟩) hH hA (fun H locs hH => ?_)
  refine lv_ior C.1 C.2.1 dX0_tryFrom_53 ?_
  refine x_cv (w' := wX G a S T Z.1 ((tS F 12 Z.2.2)) Z.2.1) (va_runS (As := [.ref (a 19), .ref (a 6), .int (nI (j + 1)), .int (v ||| (bitI (j - lv)))]) (rest := []) (x_fix C hml) (c_X0_tryFrom_1 l G a S T (wjL F T A9.1 j (lc j) (rc j) true) F A9.2.1 A9.2.2 (j + 1) (v ||| (bitI (j - lv))) lc rc lv nd h5 h6 h1 hl9 hl10 hn hPQ Z (by omega) (by omega) hZ _) (cwS 4 C.2.2.2.1 gX0_tryFrom_X0_tryFrom rfl rfl rfl (by decide +kernel) ⟨Nat.le_of_ble_eq_true rfl, Nat.le_of_ble_eq_true rfl⟩) (x_ps C hH) rfl rfl hl.1 rfl (lv_room (Nat.le_of_ble_eq_true rfl)) dX0_tryFrom_54 ⟨Nat.le_of_ble_eq_true rfl, Nat.le_of_ble_eq_true rfl⟩) hH hA (fun H locs hH => ?_)
  exact hE _ _ _ _ hH dX0_tryFrom_57
set_option maxHeartbeats 400000 in
set_option maxRecDepth 100000 in
theorem c_X0_tryFrom_3 (l : Launch) (G : xG) (a : Nat → Nat) (S T : Nat → Nat → Int32) (L : Nat → Nat → Int64) (F : Nat → Int32) (bs : Int64) (bt : Int32) (j : Nat) (v : Int32) (lc rc : Nat → Nat) (lv nd : Nat) (h5 : F 5 = nI lv) (h6 : F 6 = nI nd) (h1 : 1 ≤ lv) (hl9 : lv ≤ nd) (hl10 : lv ≤ 10) (hn : nd ≤ 19) (hPQ : ∀ i, lv ≤ i → i < nd → T 0 i = nI (lc i) ∧ T 1 i = nI (rc i) ∧ lc i < 19 ∧ rc i < 19) (Z : (Nat → Nat → Int64) × Int64 × Int32) (hj : j + 3 = nd) (hlj : lv ≤ j) (hZ : tfF F T lc rc lv nd 3 v (L, bs, bt) = Z) : xMv l yX0_tryFrom wsX0_tryFrom { frames := 7, cells := 0, slots := 0, locals := 156 } [.ref (a 19), .ref (a 6), .int (nI j), .int v] G (wX G a S T L ((tS F 12 bt)) bs) (wX G a S T Z.1 ((tS F 12 Z.2.2)) Z.2.1) 0 0 := by
  obtain ⟨A9, hA9⟩ : ∃ z, tfF F T lc rc lv nd 2 v (wjL F T L j (lc j) (rc j) false, bs, bt) = z := ⟨_, rfl⟩
  have hZ : tfF F T lc rc lv nd 2 (v ||| bitI (j - lv)) (wjL F T A9.1 j (lc j) (rc j) true, A9.2.1, A9.2.2) = Z := tfF_s (M := 3) (m := 2) (L := L) (bs := bs) (bt := bt) rfl (by omega) hA9 hZ
  refine x_ofv (cc := cX0_tryFrom) (maxL := 4) (by decide) rfl (Nat.le_of_ble_eq_true rfl) ?_
  intro p e s m args below meth c ls A Q C hml hA hH hl hE
  have hl : lv_has ls 4 [(0, .ref (a 19)), (1, .ref (a 6)), (2, .int (nI j)), (3, .int v)] := hl
  have inX2 : ∀ w ∈ wsX20, w ∈ wsX0_tryFrom := fun _ h => (List.mem_cons_of_mem _ (List.mem_append_left _ (List.mem_append_right _ h)))
  refine lv_iload_n C.1 C.2.1 dX0_tryFrom_0 rfl (lv_at hl 2 rfl) ?_
  refine lv_aload_n C.1 C.2.1 dX0_tryFrom_1 rfl (lv_at hl 1 rfl) ?_
  refine x_get (C := RX2) (T := TX2) (N := 14) (v := .int (F 6)) C inX2 hH 6 gX_6 rfl 13 (by decide) rfl rfl 1 rfl dX0_tryFrom_2 ?_
  refine x_toi h6 ?_
  refine lv_icmp_lt (tgt := 19) C.1 C.2.1 dX0_tryFrom_5 (by decide) (fun _ => ?_) (fun c_1 => absurd ((nI_ltI (by omega) (by omega)).mpr (by omega)) c_1)
  refine lv_aload_n C.1 C.2.1 dX0_tryFrom_19 rfl (lv_at hl 0 rfl) ?_
  refine lv_aload_n C.1 C.2.1 dX0_tryFrom_20 rfl (lv_at hl 1 rfl) ?_
  refine lv_iload_n C.1 C.2.1 dX0_tryFrom_21 rfl (lv_at hl 2 rfl) ?_
  refine lv_iconst (v := nI 0) C.1 C.2.1 dX0_tryFrom_22 (by decide) ?_
  refine x_toi (show nI 0 = xb (false = true) by decide) ?_
  refine x_cv (w' := wX G a S T (wjL F T L j (lc j) (rc j) false) ((tS F 12 bt)) bs) (va_runV (As := [.ref (a 6), .int (nI j), .int (xb (false = true))]) (rest := []) (x_fix C hml) (c_X0_weighJoin l G a S T L ((tS F 12 bt)) bs j (lc j) (rc j) false (hPQ j (by omega) (by omega)).1 (hPQ j (by omega) (by omega)).2.1 (by omega) (hPQ j (by omega) (by omega)).2.2.1 (hPQ j (by omega) (by omega)).2.2.2 _) (cwV 3 C.2.2.2.1 gX0_tryFrom_X0_weighJoin rfl rfl rfl (by decide +kernel) ⟨Nat.le_of_ble_eq_true rfl, Nat.le_of_ble_eq_true rfl⟩) (x_pv C hH rfl gX_19 rfl rfl) rfl rfl hl.1 rfl (lv_room (Nat.le_of_ble_eq_true rfl)) dX0_tryFrom_23 ⟨Nat.le_of_ble_eq_true rfl, Nat.le_of_ble_eq_true rfl⟩) hH hA (fun H locs hH => ?_)
  refine lv_aload_n C.1 C.2.1 dX0_tryFrom_26 rfl (lv_at hl 0 rfl) ?_
  refine lv_aload_n C.1 C.2.1 dX0_tryFrom_27 rfl (lv_at hl 1 rfl) ?_
  refine lv_iload_n C.1 C.2.1 dX0_tryFrom_28 rfl (lv_at hl 2 rfl) ?_
  refine lv_iconst (v := nI 1) C.1 C.2.1 dX0_tryFrom_29 (by decide) ?_
  refine lv_iadd C.1 C.2.1 dX0_tryFrom_30 ?_
  refine x_toi (nI_add j 1) ?_
  refine lv_iload_n C.1 C.2.1 dX0_tryFrom_31 rfl (lv_at hl 3 rfl) ?_
  refine x_cv (w' := wX G a S T A9.1 ((tS F 12 A9.2.2)) A9.2.1) (va_runS (As := [.ref (a 19), .ref (a 6), .int (nI (j + 1)), .int v]) (rest := []) (x_fix C hml) (c_X0_tryFrom_2 l G a S T (wjL F T L j (lc j) (rc j) false) F bs bt (j + 1) v lc rc lv nd h5 h6 h1 hl9 hl10 hn hPQ A9 (by omega) (by omega) hA9 _) (cwS 4 C.2.2.2.1 gX0_tryFrom_X0_tryFrom rfl rfl rfl (by decide +kernel) ⟨Nat.le_of_ble_eq_true rfl, Nat.le_of_ble_eq_true rfl⟩) (x_ps C hH) rfl rfl hl.1 rfl (lv_room (Nat.le_of_ble_eq_true rfl)) dX0_tryFrom_32 ⟨Nat.le_of_ble_eq_true rfl, Nat.le_of_ble_eq_true rfl⟩) hH hA (fun H locs hH => ?_)
  refine lv_aload_n C.1 C.2.1 dX0_tryFrom_35 rfl (lv_at hl 0 rfl) ?_
  refine lv_aload_n C.1 C.2.1 dX0_tryFrom_36 rfl (lv_at hl 1 rfl) ?_
  refine lv_iload_n C.1 C.2.1 dX0_tryFrom_37 rfl (lv_at hl 2 rfl) ?_
  refine lv_iconst (v := nI 1) C.1 C.2.1 dX0_tryFrom_38 (by decide) ?_
  refine x_toi (show nI 1 = xb (true = true) by decide) ?_
  refine x_cv (w' := wX G a S T (wjL F T A9.1 j (lc j) (rc j) true) ((tS F 12 A9.2.2)) A9.2.1) (va_runV (As := [.ref (a 6), .int (nI j), .int (xb (true = true))]) (rest := []) (x_fix C hml) (c_X0_weighJoin l G a S T A9.1 ((tS F 12 A9.2.2)) A9.2.1 j (lc j) (rc j) true (hPQ j (by omega) (by omega)).1 (hPQ j (by omega) (by omega)).2.1 (by omega) (hPQ j (by omega) (by omega)).2.2.1 (hPQ j (by omega) (by omega)).2.2.2 _) (cwV 3 C.2.2.2.1 gX0_tryFrom_X0_weighJoin rfl rfl rfl (by decide +kernel) ⟨Nat.le_of_ble_eq_true rfl, Nat.le_of_ble_eq_true rfl⟩) (x_pv C hH rfl gX_19 rfl rfl) rfl rfl hl.1 rfl (lv_room (Nat.le_of_ble_eq_true rfl)) dX0_tryFrom_39 ⟨Nat.le_of_ble_eq_true rfl, Nat.le_of_ble_eq_true rfl⟩) hH hA (fun H locs hH => ?_)
  refine lv_aload_n C.1 C.2.1 dX0_tryFrom_42 rfl (lv_at hl 0 rfl) ?_
  refine lv_aload_n C.1 C.2.1 dX0_tryFrom_43 rfl (lv_at hl 1 rfl) ?_
  refine lv_iload_n C.1 C.2.1 dX0_tryFrom_44 rfl (lv_at hl 2 rfl) ?_
  refine lv_iconst (v := nI 1) C.1 C.2.1 dX0_tryFrom_45 (by decide) ?_
  refine lv_iadd C.1 C.2.1 dX0_tryFrom_46 ?_
  refine x_toi (nI_add j 1) ?_
  refine lv_iload_n C.1 C.2.1 dX0_tryFrom_47 rfl (lv_at hl 3 rfl) ?_
  refine lv_aload_n C.1 C.2.1 dX0_tryFrom_48 rfl (lv_at hl 1 rfl) ?_
  refine lv_iload_n C.1 C.2.1 dX0_tryFrom_49 rfl (lv_at hl 2 rfl) ?_
  refine x_ci (w' := wX G a S T (wjL F T A9.1 j (lc j) (rc j) true) ((tS F 12 A9.2.2)) A9.2.1) (va_runV (As := [.int (nI j)]) (rest := [.int v, .int (nI (j + 1)), .ref (a 6), .ref (a 19)]) (x_fix C hml) (c_X2_bitOf l G a S T (wjL F T A9.1 j (lc j) (rc j) true) ((tS F 12 A9.2.2)) A9.2.1 (j) (lv) h5 (by omega) _) (cwV 1 C.2.2.2.1 gX0_tryFrom_X2_bitOf rfl rfl rfl (by decide +kernel) ⟨Nat.le_of_ble_eq_true rfl, Nat.le_of_ble_eq_true rfl⟩) (x_pv C hH rfl gX_6 rfl rfl) rfl rfl hl.1 rfl (lv_room (Nat.le_of_ble_eq_true rfl)) dX0_tryFrom_50 ⟨Nat.le_of_ble_eq_true rfl, Nat.le_of_ble_eq_true rfl⟩) hH hA (fun H locs hH => ?_)
  refine lv_ior C.1 C.2.1 dX0_tryFrom_53 ?_
  refine x_cv (w' := wX G a S T Z.1 ((tS F 12 Z.2.2)) Z.2.1) (va_runS (As := [.ref (a 19), .ref (a 6), .int (nI (j + 1)), .int (v ||| (bitI (j - lv)))]) (rest := []) (x_fix C hml) (c_X0_tryFrom_2 l G a S T (wjL F T A9.1 j (lc j) (rc j) true) F A9.2.1 A9.2.2 (j + 1) (v ||| (bitI (j - lv))) lc rc lv nd h5 h6 h1 hl9 hl10 hn hPQ Z (by omega) (by omega) hZ _) (cwS 4 C.2.2.2.1 gX0_tryFrom_X0_tryFrom rfl rfl rfl (by decide +kernel) ⟨Nat.le_of_ble_eq_true rfl, Nat.le_of_ble_eq_true rfl⟩) (x_ps C hH) rfl rfl hl.1 rfl (lv_room (Nat.le_of_ble_eq_true rfl)) dX0_tryFrom_54 ⟨Nat.le_of_ble_eq_true rfl, Nat.le_of_ble_eq_true rfl⟩) hH hA (fun H locs hH => ?_)
  exact hE _ _ _ _ hH dX0_tryFrom_57
set_option maxHeartbeats 400000 in
set_option maxRecDepth 100000 in
theorem c_X0_tryFrom_4 (l : Launch) (G : xG) (a : Nat → Nat) (S T : Nat → Nat → Int32) (L : Nat → Nat → Int64) (F : Nat → Int32) (bs : Int64) (bt : Int32) (j : Nat) (v : Int32) (lc rc : Nat → Nat) (lv nd : Nat) (h5 : F 5 = nI lv) (h6 : F 6 = nI nd) (h1 : 1 ≤ lv) (hl9 : lv ≤ nd) (hl10 : lv ≤ 10) (hn : nd ≤ 19) (hPQ : ∀ i, lv ≤ i → i < nd → T 0 i = nI (lc i) ∧ T 1 i = nI (rc i) ∧ lc i < 19 ∧ rc i < 19) (Z : (Nat → Nat → Int64) × Int64 × Int32) (hj : j + 4 = nd) (hlj : lv ≤ j) (hZ : tfF F T lc rc lv nd 4 v (L, bs, bt) = Z) : xMv l yX0_tryFrom wsX0_tryFrom { frames := 8, cells := 0, slots := 0, locals := 179 } [.ref (a 19), .ref (a 6), .int (nI j), .int v] G (wX G a S T L ((tS F 12 bt)) bs) (wX G a S T Z.1 ((tS F 12 Z.2.2)) Z.2.1) 0 0 := by
  obtain ⟨A9, hA9⟩ : ∃ z, tfF F T lc rc lv nd 3 v (wjL F T L j (lc j) (rc j) false, bs, bt) = z := ⟨_, rfl⟩
  have hZ : tfF F T lc rc lv nd 3 (v ||| bitI (j - lv)) (wjL F T A9.1 j (lc j) (rc j) true, A9.2.1, A9.2.2) = Z := tfF_s (M := 4) (m := 3) (L := L) (bs := bs) (bt := bt) rfl (by omega) hA9 hZ
  refine x_ofv (cc := cX0_tryFrom) (maxL := 4) (by decide) rfl (Nat.le_of_ble_eq_true rfl) ?_
  intro p e s m args below meth c ls A Q C hml hA hH hl hE
  have hl : lv_has ls 4 [(0, .ref (a 19)), (1, .ref (a 6)), (2, .int (nI j)), (3, .int v)] := hl
  have inX2 : ∀ w ∈ wsX20, w ∈ wsX0_tryFrom := fun _ h => (List.mem_cons_of_mem _ (List.mem_append_left _ (List.mem_append_right _ h)))
  refine lv_iload_n C.1 C.2.1 dX0_tryFrom_0 rfl (lv_at hl 2 rfl) ?_
  refine lv_aload_n C.1 C.2.1 dX0_tryFrom_1 rfl (lv_at hl 1 rfl) ?_
  refine x_get (C := RX2) (T := TX2) (N := 14) (v := .int (F 6)) C inX2 hH 6 gX_6 rfl 13 (by decide) rfl rfl 1 rfl dX0_tryFrom_2 ?_
  refine x_toi h6 ?_
  refine lv_icmp_lt (tgt := 19) C.1 C.2.1 dX0_tryFrom_5 (by decide) (fun _ => ?_) (fun c_1 => absurd ((nI_ltI (by omega) (by omega)).mpr (by omega)) c_1)
  refine lv_aload_n C.1 C.2.1 dX0_tryFrom_19 rfl (lv_at hl 0 rfl) ?_
  refine lv_aload_n C.1 C.2.1 dX0_tryFrom_20 rfl (lv_at hl 1 rfl) ?_
  refine lv_iload_n C.1 C.2.1 dX0_tryFrom_21 rfl (lv_at hl 2 rfl) ?_
  refine lv_iconst (v := nI 0) C.1 C.2.1 dX0_tryFrom_22 (by decide) ?_
  refine x_toi (show nI 0 = xb (false = true) by decide) ?_
  refine x_cv (w' := wX G a S T (wjL F T L j (lc j) (rc j) false) ((tS F 12 bt)) bs) (va_runV (As := [.ref (a 6), .int (nI j), .int (xb (false = true))]) (rest := []) (x_fix C hml) (c_X0_weighJoin l G a S T L ((tS F 12 bt)) bs j (lc j) (rc j) false (hPQ j (by omega) (by omega)).1 (hPQ j (by omega) (by omega)).2.1 (by omega) (hPQ j (by omega) (by omega)).2.2.1 (hPQ j (by omega) (by omega)).2.2.2 _) (cwV 3 C.2.2.2.1 gX0_tryFrom_X0_weighJoin rfl rfl rfl (by decide +kernel) ⟨Nat.le_of_ble_eq_true rfl, Nat.le_of_ble_eq_true rfl⟩) (x_pv C hH rfl gX_19 rfl rfl) rfl rfl hl.1 rfl (lv_room (Nat.le_of_ble_eq_true rfl)) dX0_tryFrom_23 ⟨Nat.le_of_ble_eq_true rfl, Nat.le_of_ble_eq_true rfl⟩) hH hA (fun H locs hH => ?_)
  refine lv_aload_n C.1 C.2.1 dX0_tryFrom_26 rfl (lv_at hl 0 rfl) ?_
  refine lv_aload_n C.1 C.2.1 dX0_tryFrom_27 rfl (lv_at hl 1 rfl) ?_
  refine lv_iload_n C.1 C.2.1 dX0_tryFrom_28 rfl (lv_at hl 2 rfl) ?_
  refine lv_iconst (v := nI 1) C.1 C.2.1 dX0_tryFrom_29 (by decide) ?_
  refine lv_iadd C.1 C.2.1 dX0_tryFrom_30 ?_
  refine x_toi (nI_add j 1) ?_
  refine lv_iload_n C.1 C.2.1 dX0_tryFrom_31 rfl (lv_at hl 3 rfl) ?_
  refine x_cv (w' := wX G a S T A9.1 ((tS F 12 A9.2.2)) A9.2.1) (va_runS (As := [.ref (a 19), .ref (a 6), .int (nI (j + 1)), .int v]) (rest := []) (x_fix C hml) (c_X0_tryFrom_3 l G a S T (wjL F T L j (lc j) (rc j) false) F bs bt (j + 1) v lc rc lv nd h5 h6 h1 hl9 hl10 hn hPQ A9 (by omega) (by omega) hA9 _) (cwS 4 C.2.2.2.1 gX0_tryFrom_X0_tryFrom rfl rfl rfl (by decide +kernel) ⟨Nat.le_of_ble_eq_true rfl, Nat.le_of_ble_eq_true rfl⟩) (x_ps C hH) rfl rfl hl.1 rfl (lv_room (Nat.le_of_ble_eq_true rfl)) dX0_tryFrom_32 ⟨Nat.le_of_ble_eq_true rfl, Nat.le_of_ble_eq_true rfl⟩) hH hA (fun H locs hH => ?_)
  refine lv_aload_n C.1 C.2.1 dX0_tryFrom_35 rfl (lv_at hl 0 rfl) ?_
  refine lv_aload_n C.1 C.2.1 dX0_tryFrom_36 rfl (lv_at hl 1 rfl) ?_
  refine lv_iload_n C.1 C.2.1 dX0_tryFrom_37 rfl (lv_at hl 2 rfl) ?_
  refine lv_iconst (v := nI 1) C.1 C.2.1 dX0_tryFrom_38 (by decide) ?_
  refine x_toi (show nI 1 = xb (true = true) by decide) ?_
  refine x_cv (w' := wX G a S T (wjL F T A9.1 j (lc j) (rc j) true) ((tS F 12 A9.2.2)) A9.2.1) (va_runV (As := [.ref (a 6), .int (nI j), .int (xb (true = true))]) (rest := []) (x_fix C hml) (c_X0_weighJoin l G a S T A9.1 ((tS F 12 A9.2.2)) A9.2.1 j (lc j) (rc j) true (hPQ j (by omega) (by omega)).1 (hPQ j (by omega) (by omega)).2.1 (by omega) (hPQ j (by omega) (by omega)).2.2.1 (hPQ j (by omega) (by omega)).2.2.2 _) (cwV 3 C.2.2.2.1 gX0_tryFrom_X0_weighJoin rfl rfl rfl (by decide +kernel) ⟨Nat.le_of_ble_eq_true rfl, Nat.le_of_ble_eq_true rfl⟩) (x_pv C hH rfl gX_19 rfl rfl) rfl rfl hl.1 rfl (lv_room (Nat.le_of_ble_eq_true rfl)) dX0_tryFrom_39 ⟨Nat.le_of_ble_eq_true rfl, Nat.le_of_ble_eq_true rfl⟩) hH hA (fun H locs hH => ?_)
  refine lv_aload_n C.1 C.2.1 dX0_tryFrom_42 rfl (lv_at hl 0 rfl) ?_
  refine lv_aload_n C.1 C.2.1 dX0_tryFrom_43 rfl (lv_at hl 1 rfl) ?_
  refine lv_iload_n C.1 C.2.1 dX0_tryFrom_44 rfl (lv_at hl 2 rfl) ?_
  refine lv_iconst (v := nI 1) C.1 C.2.1 dX0_tryFrom_45 (by decide) ?_
  refine lv_iadd C.1 C.2.1 dX0_tryFrom_46 ?_
  refine x_toi (nI_add j 1) ?_
  refine lv_iload_n C.1 C.2.1 dX0_tryFrom_47 rfl (lv_at hl 3 rfl) ?_
  refine lv_aload_n C.1 C.2.1 dX0_tryFrom_48 rfl (lv_at hl 1 rfl) ?_
  refine lv_iload_n C.1 C.2.1 dX0_tryFrom_49 rfl (lv_at hl 2 rfl) ?_
  refine x_ci (w' := wX G a S T (wjL F T A9.1 j (lc j) (rc j) true) ((tS F 12 A9.2.2)) A9.2.1) (va_runV (As := [.int (nI j)]) (rest := [.int v, .int (nI (j + 1)), .ref (a 6), .ref (a 19)]) (x_fix C hml) (c_X2_bitOf l G a S T (wjL F T A9.1 j (lc j) (rc j) true) ((tS F 12 A9.2.2)) A9.2.1 (j) (lv) h5 (by omega) _) (cwV 1 C.2.2.2.1 gX0_tryFrom_X2_bitOf rfl rfl rfl (by decide +kernel) ⟨Nat.le_of_ble_eq_true rfl, Nat.le_of_ble_eq_true rfl⟩) (x_pv C hH rfl gX_6 rfl rfl) rfl rfl hl.1 rfl (lv_room (Nat.le_of_ble_eq_true rfl)) dX0_tryFrom_50 ⟨Nat.le_of_ble_eq_true rfl, Nat.le_of_ble_eq_true rfl⟩) hH hA (fun H locs hH => ?_)
  refine lv_ior C.1 C.2.1 dX0_tryFrom_53 ?_
  refine x_cv (w' := wX G a S T Z.1 ((tS F 12 Z.2.2)) Z.2.1) (va_runS (As := [.ref (a 19), .ref (a 6), .int (nI (j + 1)), .int (v ||| (bitI (j - lv)))]) (rest := []) (x_fix C hml) (c_X0_tryFrom_3 l G a S T (wjL F T A9.1 j (lc j) (rc j) true) F A9.2.1 A9.2.2 (j + 1) (v ||| (bitI (j - lv))) lc rc lv nd h5 h6 h1 hl9 hl10 hn hPQ Z (by omega) (by omega) hZ _) (cwS 4 C.2.2.2.1 gX0_tryFrom_X0_tryFrom rfl rfl rfl (by decide +kernel) ⟨Nat.le_of_ble_eq_true rfl, Nat.le_of_ble_eq_true rfl⟩) (x_ps C hH) rfl rfl hl.1 rfl (lv_room (Nat.le_of_ble_eq_true rfl)) dX0_tryFrom_54 ⟨Nat.le_of_ble_eq_true rfl, Nat.le_of_ble_eq_true rfl⟩) hH hA (fun H locs hH => ?_)
  exact hE _ _ _ _ hH dX0_tryFrom_57
set_option maxHeartbeats 400000 in
set_option maxRecDepth 100000 in
theorem c_X0_tryFrom_5 (l : Launch) (G : xG) (a : Nat → Nat) (S T : Nat → Nat → Int32) (L : Nat → Nat → Int64) (F : Nat → Int32) (bs : Int64) (bt : Int32) (j : Nat) (v : Int32) (lc rc : Nat → Nat) (lv nd : Nat) (h5 : F 5 = nI lv) (h6 : F 6 = nI nd) (h1 : 1 ≤ lv) (hl9 : lv ≤ nd) (hl10 : lv ≤ 10) (hn : nd ≤ 19) (hPQ : ∀ i, lv ≤ i → i < nd → T 0 i = nI (lc i) ∧ T 1 i = nI (rc i) ∧ lc i < 19 ∧ rc i < 19) (Z : (Nat → Nat → Int64) × Int64 × Int32) (hj : j + 5 = nd) (hlj : lv ≤ j) (hZ : tfF F T lc rc lv nd 5 v (L, bs, bt) = Z) : xMv l yX0_tryFrom wsX0_tryFrom { frames := 9, cells := 0, slots := 0, locals := 202 } [.ref (a 19), .ref (a 6), .int (nI j), .int v] G (wX G a S T L ((tS F 12 bt)) bs) (wX G a S T Z.1 ((tS F 12 Z.2.2)) Z.2.1) 0 0 := by
  obtain ⟨A9, hA9⟩ : ∃ z, tfF F T lc rc lv nd 4 v (wjL F T L j (lc j) (rc j) false, bs, bt) = z := ⟨_, rfl⟩
  have hZ : tfF F T lc rc lv nd 4 (v ||| bitI (j - lv)) (wjL F T A9.1 j (lc j) (rc j) true, A9.2.1, A9.2.2) = Z := tfF_s (M := 5) (m := 4) (L := L) (bs := bs) (bt := bt) rfl (by omega) hA9 hZ
  refine x_ofv (cc := cX0_tryFrom) (maxL := 4) (by decide) rfl (Nat.le_of_ble_eq_true rfl) ?_
  intro p e s m args below meth c ls A Q C hml hA hH hl hE
  have hl : lv_has ls 4 [(0, .ref (a 19)), (1, .ref (a 6)), (2, .int (nI j)), (3, .int v)] := hl
  have inX2 : ∀ w ∈ wsX20, w ∈ wsX0_tryFrom := fun _ h => (List.mem_cons_of_mem _ (List.mem_append_left _ (List.mem_append_right _ h)))
  refine lv_iload_n C.1 C.2.1 dX0_tryFrom_0 rfl (lv_at hl 2 rfl) ?_
  refine lv_aload_n C.1 C.2.1 dX0_tryFrom_1 rfl (lv_at hl 1 rfl) ?_
  refine x_get (C := RX2) (T := TX2) (N := 14) (v := .int (F 6)) C inX2 hH 6 gX_6 rfl 13 (by decide) rfl rfl 1 rfl dX0_tryFrom_2 ?_
  refine x_toi h6 ?_
  refine lv_icmp_lt (tgt := 19) C.1 C.2.1 dX0_tryFrom_5 (by decide) (fun _ => ?_) (fun c_1 => absurd ((nI_ltI (by omega) (by omega)).mpr (by omega)) c_1)
  refine lv_aload_n C.1 C.2.1 dX0_tryFrom_19 rfl (lv_at hl 0 rfl) ?_
  refine lv_aload_n C.1 C.2.1 dX0_tryFrom_20 rfl (lv_at hl 1 rfl) ?_
  refine lv_iload_n C.1 C.2.1 dX0_tryFrom_21 rfl (lv_at hl 2 rfl) ?_
  refine lv_iconst (v := nI 0) C.1 C.2.1 dX0_tryFrom_22 (by decide) ?_
  refine x_toi (show nI 0 = xb (false = true) by decide) ?_
  refine x_cv (w' := wX G a S T (wjL F T L j (lc j) (rc j) false) ((tS F 12 bt)) bs) (va_runV (As := [.ref (a 6), .int (nI j), .int (xb (false = true))]) (rest := []) (x_fix C hml) (c_X0_weighJoin l G a S T L ((tS F 12 bt)) bs j (lc j) (rc j) false (hPQ j (by omega) (by omega)).1 (hPQ j (by omega) (by omega)).2.1 (by omega) (hPQ j (by omega) (by omega)).2.2.1 (hPQ j (by omega) (by omega)).2.2.2 _) (cwV 3 C.2.2.2.1 gX0_tryFrom_X0_weighJoin rfl rfl rfl (by decide +kernel) ⟨Nat.le_of_ble_eq_true rfl, Nat.le_of_ble_eq_true rfl⟩) (x_pv C hH rfl gX_19 rfl rfl) rfl rfl hl.1 rfl (lv_room (Nat.le_of_ble_eq_true rfl)) dX0_tryFrom_23 ⟨Nat.le_of_ble_eq_true rfl, Nat.le_of_ble_eq_true rfl⟩) hH hA (fun H locs hH => ?_)
  refine lv_aload_n C.1 C.2.1 dX0_tryFrom_26 rfl (lv_at hl 0 rfl) ?_
  refine lv_aload_n C.1 C.2.1 dX0_tryFrom_27 rfl (lv_at hl 1 rfl) ?_
  refine lv_iload_n C.1 C.2.1 dX0_tryFrom_28 rfl (lv_at hl 2 rfl) ?_
  refine lv_iconst (v := nI 1) C.1 C.2.1 dX0_tryFrom_29 (by decide) ?_
  refine lv_iadd C.1 C.2.1 dX0_tryFrom_30 ?_
  refine x_toi (nI_add j 1) ?_
  refine lv_iload_n C.1 C.2.1 dX0_tryFrom_31 rfl (lv_at hl 3 rfl) ?_
  refine x_cv (w' := wX G a S T A9.1 ((tS F 12 A9.2.2)) A9.2.1) (va_runS (As := [.ref (a 19), .ref (a 6), .int (nI (j + 1)), .int v]) (rest := []) (x_fix C hml) (c_X0_tryFrom_4 l G a S T (wjL F T L j (lc j) (rc j) false) F bs bt (j + 1) v lc rc lv nd h5 h6 h1 hl9 hl10 hn hPQ A9 (by omega) (by omega) hA9 _) (cwS 4 C.2.2.2.1 gX0_tryFrom_X0_tryFrom rfl rfl rfl (by decide +kernel) ⟨Nat.le_of_ble_eq_true rfl, Nat.le_of_ble_eq_true rfl⟩) (x_ps C hH) rfl rfl hl.1 rfl (lv_room (Nat.le_of_ble_eq_true rfl)) dX0_tryFrom_32 ⟨Nat.le_of_ble_eq_true rfl, Nat.le_of_ble_eq_true rfl⟩) hH hA (fun H locs hH => ?_)
  refine lv_aload_n C.1 C.2.1 dX0_tryFrom_35 rfl (lv_at hl 0 rfl) ?_
  refine lv_aload_n C.1 C.2.1 dX0_tryFrom_36 rfl (lv_at hl 1 rfl) ?_
  refine lv_iload_n C.1 C.2.1 dX0_tryFrom_37 rfl (lv_at hl 2 rfl) ?_
  refine lv_iconst (v := nI 1) C.1 C.2.1 dX0_tryFrom_38 (by decide) ?_
  refine x_toi (show nI 1 = xb (true = true) by decide) ?_
  refine x_cv (w' := wX G a S T (wjL F T A9.1 j (lc j) (rc j) true) ((tS F 12 A9.2.2)) A9.2.1) (va_runV (As := [.ref (a 6), .int (nI j), .int (xb (true = true))]) (rest := []) (x_fix C hml) (c_X0_weighJoin l G a S T A9.1 ((tS F 12 A9.2.2)) A9.2.1 j (lc j) (rc j) true (hPQ j (by omega) (by omega)).1 (hPQ j (by omega) (by omega)).2.1 (by omega) (hPQ j (by omega) (by omega)).2.2.1 (hPQ j (by omega) (by omega)).2.2.2 _) (cwV 3 C.2.2.2.1 gX0_tryFrom_X0_weighJoin rfl rfl rfl (by decide +kernel) ⟨Nat.le_of_ble_eq_true rfl, Nat.le_of_ble_eq_true rfl⟩) (x_pv C hH rfl gX_19 rfl rfl) rfl rfl hl.1 rfl (lv_room (Nat.le_of_ble_eq_true rfl)) dX0_tryFrom_39 ⟨Nat.le_of_ble_eq_true rfl, Nat.le_of_ble_eq_true rfl⟩) hH hA (fun H locs hH => ?_)
  refine lv_aload_n C.1 C.2.1 dX0_tryFrom_42 rfl (lv_at hl 0 rfl) ?_
  refine lv_aload_n C.1 C.2.1 dX0_tryFrom_43 rfl (lv_at hl 1 rfl) ?_
  refine lv_iload_n C.1 C.2.1 dX0_tryFrom_44 rfl (lv_at hl 2 rfl) ?_
  refine lv_iconst (v := nI 1) C.1 C.2.1 dX0_tryFrom_45 (by decide) ?_
  refine lv_iadd C.1 C.2.1 dX0_tryFrom_46 ?_
  refine x_toi (nI_add j 1) ?_
  refine lv_iload_n C.1 C.2.1 dX0_tryFrom_47 rfl (lv_at hl 3 rfl) ?_
  refine lv_aload_n C.1 C.2.1 dX0_tryFrom_48 rfl (lv_at hl 1 rfl) ?_
  refine lv_iload_n C.1 C.2.1 dX0_tryFrom_49 rfl (lv_at hl 2 rfl) ?_
  refine x_ci (w' := wX G a S T (wjL F T A9.1 j (lc j) (rc j) true) ((tS F 12 A9.2.2)) A9.2.1) (va_runV (As := [.int (nI j)]) (rest := [.int v, .int (nI (j + 1)), .ref (a 6), .ref (a 19)]) (x_fix C hml) (c_X2_bitOf l G a S T (wjL F T A9.1 j (lc j) (rc j) true) ((tS F 12 A9.2.2)) A9.2.1 (j) (lv) h5 (by omega) _) (cwV 1 C.2.2.2.1 gX0_tryFrom_X2_bitOf rfl rfl rfl (by decide +kernel) ⟨Nat.le_of_ble_eq_true rfl, Nat.le_of_ble_eq_true rfl⟩) (x_pv C hH rfl gX_6 rfl rfl) rfl rfl hl.1 rfl (lv_room (Nat.le_of_ble_eq_true rfl)) dX0_tryFrom_50 ⟨Nat.le_of_ble_eq_true rfl, Nat.le_of_ble_eq_true rfl⟩) hH hA (fun H locs hH => ?_)
  refine lv_ior C.1 C.2.1 dX0_tryFrom_53 ?_
  refine x_cv (w' := wX G a S T Z.1 ((tS F 12 Z.2.2)) Z.2.1) (va_runS (As := [.ref (a 19), .ref (a 6), .int (nI (j + 1)), .int (v ||| (bitI (j - lv)))]) (rest := []) (x_fix C hml) (c_X0_tryFrom_4 l G a S T (wjL F T A9.1 j (lc j) (rc j) true) F A9.2.1 A9.2.2 (j + 1) (v ||| (bitI (j - lv))) lc rc lv nd h5 h6 h1 hl9 hl10 hn hPQ Z (by omega) (by omega) hZ _) (cwS 4 C.2.2.2.1 gX0_tryFrom_X0_tryFrom rfl rfl rfl (by decide +kernel) ⟨Nat.le_of_ble_eq_true rfl, Nat.le_of_ble_eq_true rfl⟩) (x_ps C hH) rfl rfl hl.1 rfl (lv_room (Nat.le_of_ble_eq_true rfl)) dX0_tryFrom_54 ⟨Nat.le_of_ble_eq_true rfl, Nat.le_of_ble_eq_true rfl⟩) hH hA (fun H locs hH => ?_)
  exact hE _ _ _ _ hH dX0_tryFrom_57
set_option maxHeartbeats 400000 in
set_option maxRecDepth 100000 in
theorem c_X0_tryFrom_6 (l : Launch) (G : xG) (a : Nat → Nat) (S T : Nat → Nat → Int32) (L : Nat → Nat → Int64) (F : Nat → Int32) (bs : Int64) (bt : Int32) (j : Nat) (v : Int32) (lc rc : Nat → Nat) (lv nd : Nat) (h5 : F 5 = nI lv) (h6 : F 6 = nI nd) (h1 : 1 ≤ lv) (hl9 : lv ≤ nd) (hl10 : lv ≤ 10) (hn : nd ≤ 19) (hPQ : ∀ i, lv ≤ i → i < nd → T 0 i = nI (lc i) ∧ T 1 i = nI (rc i) ∧ lc i < 19 ∧ rc i < 19) (Z : (Nat → Nat → Int64) × Int64 × Int32) (hj : j + 6 = nd) (hlj : lv ≤ j) (hZ : tfF F T lc rc lv nd 6 v (L, bs, bt) = Z) : xMv l yX0_tryFrom wsX0_tryFrom { frames := 10, cells := 0, slots := 0, locals := 225 } [.ref (a 19), .ref (a 6), .int (nI j), .int v] G (wX G a S T L ((tS F 12 bt)) bs) (wX G a S T Z.1 ((tS F 12 Z.2.2)) Z.2.1) 0 0 := by
  obtain ⟨A9, hA9⟩ : ∃ z, tfF F T lc rc lv nd 5 v (wjL F T L j (lc j) (rc j) false, bs, bt) = z := ⟨_, rfl⟩
  have hZ : tfF F T lc rc lv nd 5 (v ||| bitI (j - lv)) (wjL F T A9.1 j (lc j) (rc j) true, A9.2.1, A9.2.2) = Z := tfF_s (M := 6) (m := 5) (L := L) (bs := bs) (bt := bt) rfl (by omega) hA9 hZ
  refine x_ofv (cc := cX0_tryFrom) (maxL := 4) (by decide) rfl (Nat.le_of_ble_eq_true rfl) ?_
  intro p e s m args below meth c ls A Q C hml hA hH hl hE
  have hl : lv_has ls 4 [(0, .ref (a 19)), (1, .ref (a 6)), (2, .int (nI j)), (3, .int v)] := hl
  have inX2 : ∀ w ∈ wsX20, w ∈ wsX0_tryFrom := fun _ h => (List.mem_cons_of_mem _ (List.mem_append_left _ (List.mem_append_right _ h)))
  refine lv_iload_n C.1 C.2.1 dX0_tryFrom_0 rfl (lv_at hl 2 rfl) ?_
  refine lv_aload_n C.1 C.2.1 dX0_tryFrom_1 rfl (lv_at hl 1 rfl) ?_
  refine x_get (C := RX2) (T := TX2) (N := 14) (v := .int (F 6)) C inX2 hH 6 gX_6 rfl 13 (by decide) rfl rfl 1 rfl dX0_tryFrom_2 ?_
  refine x_toi h6 ?_
  refine lv_icmp_lt (tgt := 19) C.1 C.2.1 dX0_tryFrom_5 (by decide) (fun _ => ?_) (fun c_1 => absurd ((nI_ltI (by omega) (by omega)).mpr (by omega)) c_1)
  refine lv_aload_n C.1 C.2.1 dX0_tryFrom_19 rfl (lv_at hl 0 rfl) ?_
  refine lv_aload_n C.1 C.2.1 dX0_tryFrom_20 rfl (lv_at hl 1 rfl) ?_
  refine lv_iload_n C.1 C.2.1 dX0_tryFrom_21 rfl (lv_at hl 2 rfl) ?_
  refine lv_iconst (v := nI 0) C.1 C.2.1 dX0_tryFrom_22 (by decide) ?_
  refine x_toi (show nI 0 = xb (false = true) by decide) ?_
  refine x_cv (w' := wX G a S T (wjL F T L j (lc j) (rc j) false) ((tS F 12 bt)) bs) (va_runV (As := [.ref (a 6), .int (nI j), .int (xb (false = true))]) (rest := []) (x_fix C hml) (c_X0_weighJoin l G a S T L ((tS F 12 bt)) bs j (lc j) (rc j) false (hPQ j (by omega) (by omega)).1 (hPQ j (by omega) (by omega)).2.1 (by omega) (hPQ j (by omega) (by omega)).2.2.1 (hPQ j (by omega) (by omega)).2.2.2 _) (cwV 3 C.2.2.2.1 gX0_tryFrom_X0_weighJoin rfl rfl rfl (by decide +kernel) ⟨Nat.le_of_ble_eq_true rfl, Nat.le_of_ble_eq_true rfl⟩) (x_pv C hH rfl gX_19 rfl rfl) rfl rfl hl.1 rfl (lv_room (Nat.le_of_ble_eq_true rfl)) dX0_tryFrom_23 ⟨Nat.le_of_ble_eq_true rfl, Nat.le_of_ble_eq_true rfl⟩) hH hA (fun H locs hH => ?_)
  refine lv_aload_n C.1 C.2.1 dX0_tryFrom_26 rfl (lv_at hl 0 rfl) ?_
  refine lv_aload_n C.1 C.2.1 dX0_tryFrom_27 rfl (lv_at hl 1 rfl) ?_
  refine lv_iload_n C.1 C.2.1 dX0_tryFrom_28 rfl (lv_at hl 2 rfl) ?_
  refine lv_iconst (v := nI 1) C.1 C.2.1 dX0_tryFrom_29 (by decide) ?_
  refine lv_iadd C.1 C.2.1 dX0_tryFrom_30 ?_
  refine x_toi (nI_add j 1) ?_
  refine lv_iload_n C.1 C.2.1 dX0_tryFrom_31 rfl (lv_at hl 3 rfl) ?_
  refine x_cv (w' := wX G a S T A9.1 ((tS F 12 A9.2.2)) A9.2.1) (va_runS (As := [.ref (a 19), .ref (a 6), .int (nI (j + 1)), .int v]) (rest := []) (x_fix C hml) (c_X0_tryFrom_5 l G a S T (wjL F T L j (lc j) (rc j) false) F bs bt (j + 1) v lc rc lv nd h5 h6 h1 hl9 hl10 hn hPQ A9 (by omega) (by omega) hA9 _) (cwS 4 C.2.2.2.1 gX0_tryFrom_X0_tryFrom rfl rfl rfl (by decide +kernel) ⟨Nat.le_of_ble_eq_true rfl, Nat.le_of_ble_eq_true rfl⟩) (x_ps C hH) rfl rfl hl.1 rfl (lv_room (Nat.le_of_ble_eq_true rfl)) dX0_tryFrom_32 ⟨Nat.le_of_ble_eq_true rfl, Nat.le_of_ble_eq_true rfl⟩) hH hA (fun H locs hH => ?_)
  refine lv_aload_n C.1 C.2.1 dX0_tryFrom_35 rfl (lv_at hl 0 rfl) ?_
  refine lv_aload_n C.1 C.2.1 dX0_tryFrom_36 rfl (lv_at hl 1 rfl) ?_
  refine lv_iload_n C.1 C.2.1 dX0_tryFrom_37 rfl (lv_at hl 2 rfl) ?_
  refine lv_iconst (v := nI 1) C.1 C.2.1 dX0_tryFrom_38 (by decide) ?_
  refine x_toi (show nI 1 = xb (true = true) by decide) ?_
  refine x_cv (w' := wX G a S T (wjL F T A9.1 j (lc j) (rc j) true) ((tS F 12 A9.2.2)) A9.2.1) (va_runV (As := [.ref (a 6), .int (nI j), .int (xb (true = true))]) (rest := []) (x_fix C hml) (c_X0_weighJoin l G a S T A9.1 ((tS F 12 A9.2.2)) A9.2.1 j (lc j) (rc j) true (hPQ j (by omega) (by omega)).1 (hPQ j (by omega) (by omega)).2.1 (by omega) (hPQ j (by omega) (by omega)).2.2.1 (hPQ j (by omega) (by omega)).2.2.2 _) (cwV 3 C.2.2.2.1 gX0_tryFrom_X0_weighJoin rfl rfl rfl (by decide +kernel) ⟨Nat.le_of_ble_eq_true rfl, Nat.le_of_ble_eq_true rfl⟩) (x_pv C hH rfl gX_19 rfl rfl) rfl rfl hl.1 rfl (lv_room (Nat.le_of_ble_eq_true rfl)) dX0_tryFrom_39 ⟨Nat.le_of_ble_eq_true rfl, Nat.le_of_ble_eq_true rfl⟩) hH hA (fun H locs hH => ?_)
  refine lv_aload_n C.1 C.2.1 dX0_tryFrom_42 rfl (lv_at hl 0 rfl) ?_
  refine lv_aload_n C.1 C.2.1 dX0_tryFrom_43 rfl (lv_at hl 1 rfl) ?_
  refine lv_iload_n C.1 C.2.1 dX0_tryFrom_44 rfl (lv_at hl 2 rfl) ?_
  refine lv_iconst (v := nI 1) C.1 C.2.1 dX0_tryFrom_45 (by decide) ?_
  refine lv_iadd C.1 C.2.1 dX0_tryFrom_46 ?_
  refine x_toi (nI_add j 1) ?_
  refine lv_iload_n C.1 C.2.1 dX0_tryFrom_47 rfl (lv_at hl 3 rfl) ?_
  refine lv_aload_n C.1 C.2.1 dX0_tryFrom_48 rfl (lv_at hl 1 rfl) ?_
  refine lv_iload_n C.1 C.2.1 dX0_tryFrom_49 rfl (lv_at hl 2 rfl) ?_
  refine x_ci (w' := wX G a S T (wjL F T A9.1 j (lc j) (rc j) true) ((tS F 12 A9.2.2)) A9.2.1) (va_runV (As := [.int (nI j)]) (rest := [.int v, .int (nI (j + 1)), .ref (a 6), .ref (a 19)]) (x_fix C hml) (c_X2_bitOf l G a S T (wjL F T A9.1 j (lc j) (rc j) true) ((tS F 12 A9.2.2)) A9.2.1 (j) (lv) h5 (by omega) _) (cwV 1 C.2.2.2.1 gX0_tryFrom_X2_bitOf rfl rfl rfl (by decide +kernel) ⟨Nat.le_of_ble_eq_true rfl, Nat.le_of_ble_eq_true rfl⟩) (x_pv C hH rfl gX_6 rfl rfl) rfl rfl hl.1 rfl (lv_room (Nat.le_of_ble_eq_true rfl)) dX0_tryFrom_50 ⟨Nat.le_of_ble_eq_true rfl, Nat.le_of_ble_eq_true rfl⟩) hH hA (fun H locs hH => ?_)
  refine lv_ior C.1 C.2.1 dX0_tryFrom_53 ?_
  refine x_cv (w' := wX G a S T Z.1 ((tS F 12 Z.2.2)) Z.2.1) (va_runS (As := [.ref (a 19), .ref (a 6), .int (nI (j + 1)), .int (v ||| (bitI (j - lv)))]) (rest := []) (x_fix C hml) (c_X0_tryFrom_5 l G a S T (wjL F T A9.1 j (lc j) (rc j) true) F A9.2.1 A9.2.2 (j + 1) (v ||| (bitI (j - lv))) lc rc lv nd h5 h6 h1 hl9 hl10 hn hPQ Z (by omega) (by omega) hZ _) (cwS 4 C.2.2.2.1 gX0_tryFrom_X0_tryFrom rfl rfl rfl (by decide +kernel) ⟨Nat.le_of_ble_eq_true rfl, Nat.le_of_ble_eq_true rfl⟩) (x_ps C hH) rfl rfl hl.1 rfl (lv_room (Nat.le_of_ble_eq_true rfl)) dX0_tryFrom_54 ⟨Nat.le_of_ble_eq_true rfl, Nat.le_of_ble_eq_true rfl⟩) hH hA (fun H locs hH => ?_)
  exact hE _ _ _ _ hH dX0_tryFrom_57
set_option maxHeartbeats 400000 in
set_option maxRecDepth 100000 in
theorem c_X0_tryFrom_7 (l : Launch) (G : xG) (a : Nat → Nat) (S T : Nat → Nat → Int32) (L : Nat → Nat → Int64) (F : Nat → Int32) (bs : Int64) (bt : Int32) (j : Nat) (v : Int32) (lc rc : Nat → Nat) (lv nd : Nat) (h5 : F 5 = nI lv) (h6 : F 6 = nI nd) (h1 : 1 ≤ lv) (hl9 : lv ≤ nd) (hl10 : lv ≤ 10) (hn : nd ≤ 19) (hPQ : ∀ i, lv ≤ i → i < nd → T 0 i = nI (lc i) ∧ T 1 i = nI (rc i) ∧ lc i < 19 ∧ rc i < 19) (Z : (Nat → Nat → Int64) × Int64 × Int32) (hj : j + 7 = nd) (hlj : lv ≤ j) (hZ : tfF F T lc rc lv nd 7 v (L, bs, bt) = Z) : xMv l yX0_tryFrom wsX0_tryFrom { frames := 11, cells := 0, slots := 0, locals := 248 } [.ref (a 19), .ref (a 6), .int (nI j), .int v] G (wX G a S T L ((tS F 12 bt)) bs) (wX G a S T Z.1 ((tS F 12 Z.2.2)) Z.2.1) 0 0 := by
  obtain ⟨A9, hA9⟩ : ∃ z, tfF F T lc rc lv nd 6 v (wjL F T L j (lc j) (rc j) false, bs, bt) = z := ⟨_, rfl⟩
  have hZ : tfF F T lc rc lv nd 6 (v ||| bitI (j - lv)) (wjL F T A9.1 j (lc j) (rc j) true, A9.2.1, A9.2.2) = Z := tfF_s (M := 7) (m := 6) (L := L) (bs := bs) (bt := bt) rfl (by omega) hA9 hZ
  refine x_ofv (cc := cX0_tryFrom) (maxL := 4) (by decide) rfl (Nat.le_of_ble_eq_true rfl) ?_
  intro p e s m args below meth c ls A Q C hml hA hH hl hE
  have hl : lv_has ls 4 [(0, .ref (a 19)), (1, .ref (a 6)), (2, .int (nI j)), (3, .int v)] := hl
  have inX2 : ∀ w ∈ wsX20, w ∈ wsX0_tryFrom := fun _ h => (List.mem_cons_of_mem _ (List.mem_append_left _ (List.mem_append_right _ h)))
  refine lv_iload_n C.1 C.2.1 dX0_tryFrom_0 rfl (lv_at hl 2 rfl) ?_
  refine lv_aload_n C.1 C.2.1 dX0_tryFrom_1 rfl (lv_at hl 1 rfl) ?_
  refine x_get (C := RX2) (T := TX2) (N := 14) (v := .int (F 6)) C inX2 hH 6 gX_6 rfl 13 (by decide) rfl rfl 1 rfl dX0_tryFrom_2 ?_
  refine x_toi h6 ?_
  refine lv_icmp_lt (tgt := 19) C.1 C.2.1 dX0_tryFrom_5 (by decide) (fun _ => ?_) (fun c_1 => absurd ((nI_ltI (by omega) (by omega)).mpr (by omega)) c_1)
  refine lv_aload_n C.1 C.2.1 dX0_tryFrom_19 rfl (lv_at hl 0 rfl) ?_
  refine lv_aload_n C.1 C.2.1 dX0_tryFrom_20 rfl (lv_at hl 1 rfl) ?_
  refine lv_iload_n C.1 C.2.1 dX0_tryFrom_21 rfl (lv_at hl 2 rfl) ?_
  refine lv_iconst (v := nI 0) C.1 C.2.1 dX0_tryFrom_22 (by decide) ?_
  refine x_toi (show nI 0 = xb (false = true) by decide) ?_
  refine x_cv (w' := wX G a S T (wjL F T L j (lc j) (rc j) false) ((tS F 12 bt)) bs) (va_runV (As := [.ref (a 6), .int (nI j), .int (xb (false = true))]) (rest := []) (x_fix C hml) (c_X0_weighJoin l G a S T L ((tS F 12 bt)) bs j (lc j) (rc j) false (hPQ j (by omega) (by omega)).1 (hPQ j (by omega) (by omega)).2.1 (by omega) (hPQ j (by omega) (by omega)).2.2.1 (hPQ j (by omega) (by omega)).2.2.2 _) (cwV 3 C.2.2.2.1 gX0_tryFrom_X0_weighJoin rfl rfl rfl (by decide +kernel) ⟨Nat.le_of_ble_eq_true rfl, Nat.le_of_ble_eq_true rfl⟩) (x_pv C hH rfl gX_19 rfl rfl) rfl rfl hl.1 rfl (lv_room (Nat.le_of_ble_eq_true rfl)) dX0_tryFrom_23 ⟨Nat.le_of_ble_eq_true rfl, Nat.le_of_ble_eq_true rfl⟩) hH hA (fun H locs hH => ?_)
  refine lv_aload_n C.1 C.2.1 dX0_tryFrom_26 rfl (lv_at hl 0 rfl) ?_
  refine lv_aload_n C.1 C.2.1 dX0_tryFrom_27 rfl (lv_at hl 1 rfl) ?_
  refine lv_iload_n C.1 C.2.1 dX0_tryFrom_28 rfl (lv_at hl 2 rfl) ?_
  refine lv_iconst (v := nI 1) C.1 C.2.1 dX0_tryFrom_29 (by decide) ?_
  refine lv_iadd C.1 C.2.1 dX0_tryFrom_30 ?_
  refine x_toi (nI_add j 1) ?_
  refine lv_iload_n C.1 C.2.1 dX0_tryFrom_31 rfl (lv_at hl 3 rfl) ?_
  refine x_cv (w' := wX G a S T A9.1 ((tS F 12 A9.2.2)) A9.2.1) (va_runS (As := [.ref (a 19), .ref (a 6), .int (nI (j + 1)), .int v]) (rest := []) (x_fix C hml) (c_X0_tryFrom_6 l G a S T (wjL F T L j (lc j) (rc j) false) F bs bt (j + 1) v lc rc lv nd h5 h6 h1 hl9 hl10 hn hPQ A9 (by omega) (by omega) hA9 _) (cwS 4 C.2.2.2.1 gX0_tryFrom_X0_tryFrom rfl rfl rfl (by decide +kernel) ⟨Nat.le_of_ble_eq_true rfl, Nat.le_of_ble_eq_true rfl⟩) (x_ps C hH) rfl rfl hl.1 rfl (lv_room (Nat.le_of_ble_eq_true rfl)) dX0_tryFrom_32 ⟨Nat.le_of_ble_eq_true rfl, Nat.le_of_ble_eq_true rfl⟩) hH hA (fun H locs hH => ?_)
  refine lv_aload_n C.1 C.2.1 dX0_tryFrom_35 rfl (lv_at hl 0 rfl) ?_
  refine lv_aload_n C.1 C.2.1 dX0_tryFrom_36 rfl (lv_at hl 1 rfl) ?_
  refine lv_iload_n C.1 C.2.1 dX0_tryFrom_37 rfl (lv_at hl 2 rfl) ?_
  refine lv_iconst (v := nI 1) C.1 C.2.1 dX0_tryFrom_38 (by decide) ?_
  refine x_toi (show nI 1 = xb (true = true) by decide) ?_
  refine x_cv (w' := wX G a S T (wjL F T A9.1 j (lc j) (rc j) true) ((tS F 12 A9.2.2)) A9.2.1) (va_runV (As := [.ref (a 6), .int (nI j), .int (xb (true = true))]) (rest := []) (x_fix C hml) (c_X0_weighJoin l G a S T A9.1 ((tS F 12 A9.2.2)) A9.2.1 j (lc j) (rc j) true (hPQ j (by omega) (by omega)).1 (hPQ j (by omega) (by omega)).2.1 (by omega) (hPQ j (by omega) (by omega)).2.2.1 (hPQ j (by omega) (by omega)).2.2.2 _) (cwV 3 C.2.2.2.1 gX0_tryFrom_X0_weighJoin rfl rfl rfl (by decide +kernel) ⟨Nat.le_of_ble_eq_true rfl, Nat.le_of_ble_eq_true rfl⟩) (x_pv C hH rfl gX_19 rfl rfl) rfl rfl hl.1 rfl (lv_room (Nat.le_of_ble_eq_true rfl)) dX0_tryFrom_39 ⟨Nat.le_of_ble_eq_true rfl, Nat.le_of_ble_eq_true rfl⟩) hH hA (fun H locs hH => ?_)
  refine lv_aload_n C.1 C.2.1 dX0_tryFrom_42 rfl (lv_at hl 0 rfl) ?_
  refine lv_aload_n C.1 C.2.1 dX0_tryFrom_43 rfl (lv_at hl 1 rfl) ?_
  refine lv_iload_n C.1 C.2.1 dX0_tryFrom_44 rfl (lv_at hl 2 rfl) ?_
  refine lv_iconst (v := nI 1) C.1 C.2.1 dX0_tryFrom_45 (by decide) ?_
  refine lv_iadd C.1 C.2.1 dX0_tryFrom_46 ?_
  refine x_toi (nI_add j 1) ?_
  refine lv_iload_n C.1 C.2.1 dX0_tryFrom_47 rfl (lv_at hl 3 rfl) ?_
  refine lv_aload_n C.1 C.2.1 dX0_tryFrom_48 rfl (lv_at hl 1 rfl) ?_
  refine lv_iload_n C.1 C.2.1 dX0_tryFrom_49 rfl (lv_at hl 2 rfl) ?_
  refine x_ci (w' := wX G a S T (wjL F T A9.1 j (lc j) (rc j) true) ((tS F 12 A9.2.2)) A9.2.1) (va_runV (As := [.int (nI j)]) (rest := [.int v, .int (nI (j + 1)), .ref (a 6), .ref (a 19)]) (x_fix C hml) (c_X2_bitOf l G a S T (wjL F T A9.1 j (lc j) (rc j) true) ((tS F 12 A9.2.2)) A9.2.1 (j) (lv) h5 (by omega) _) (cwV 1 C.2.2.2.1 gX0_tryFrom_X2_bitOf rfl rfl rfl (by decide +kernel) ⟨Nat.le_of_ble_eq_true rfl, Nat.le_of_ble_eq_true rfl⟩) (x_pv C hH rfl gX_6 rfl rfl) rfl rfl hl.1 rfl (lv_room (Nat.le_of_ble_eq_true rfl)) dX0_tryFrom_50 ⟨Nat.le_of_ble_eq_true rfl, Nat.le_of_ble_eq_true rfl⟩) hH hA (fun H locs hH => ?_)
  refine lv_ior C.1 C.2.1 dX0_tryFrom_53 ?_
  refine x_cv (w' := wX G a S T Z.1 ((tS F 12 Z.2.2)) Z.2.1) (va_runS (As := [.ref (a 19), .ref (a 6), .int (nI (j + 1)), .int (v ||| (bitI (j - lv)))]) (rest := []) (x_fix C hml) (c_X0_tryFrom_6 l G a S T (wjL F T A9.1 j (lc j) (rc j) true) F A9.2.1 A9.2.2 (j + 1) (v ||| (bitI (j - lv))) lc rc lv nd h5 h6 h1 hl9 hl10 hn hPQ Z (by omega) (by omega) hZ _) (cwS 4 C.2.2.2.1 gX0_tryFrom_X0_tryFrom rfl rfl rfl (by decide +kernel) ⟨Nat.le_of_ble_eq_true rfl, Nat.le_of_ble_eq_true rfl⟩) (x_ps C hH) rfl rfl hl.1 rfl (lv_room (Nat.le_of_ble_eq_true rfl)) dX0_tryFrom_54 ⟨Nat.le_of_ble_eq_true rfl, Nat.le_of_ble_eq_true rfl⟩) hH hA (fun H locs hH => ?_)
  exact hE _ _ _ _ hH dX0_tryFrom_57
set_option maxHeartbeats 400000 in
set_option maxRecDepth 100000 in
theorem c_X0_tryFrom_8 (l : Launch) (G : xG) (a : Nat → Nat) (S T : Nat → Nat → Int32) (L : Nat → Nat → Int64) (F : Nat → Int32) (bs : Int64) (bt : Int32) (j : Nat) (v : Int32) (lc rc : Nat → Nat) (lv nd : Nat) (h5 : F 5 = nI lv) (h6 : F 6 = nI nd) (h1 : 1 ≤ lv) (hl9 : lv ≤ nd) (hl10 : lv ≤ 10) (hn : nd ≤ 19) (hPQ : ∀ i, lv ≤ i → i < nd → T 0 i = nI (lc i) ∧ T 1 i = nI (rc i) ∧ lc i < 19 ∧ rc i < 19) (Z : (Nat → Nat → Int64) × Int64 × Int32) (hj : j + 8 = nd) (hlj : lv ≤ j) (hZ : tfF F T lc rc lv nd 8 v (L, bs, bt) = Z) : xMv l yX0_tryFrom wsX0_tryFrom { frames := 12, cells := 0, slots := 0, locals := 271 } [.ref (a 19), .ref (a 6), .int (nI j), .int v] G (wX G a S T L ((tS F 12 bt)) bs) (wX G a S T Z.1 ((tS F 12 Z.2.2)) Z.2.1) 0 0 := by
  obtain ⟨A9, hA9⟩ : ∃ z, tfF F T lc rc lv nd 7 v (wjL F T L j (lc j) (rc j) false, bs, bt) = z := ⟨_, rfl⟩
  have hZ : tfF F T lc rc lv nd 7 (v ||| bitI (j - lv)) (wjL F T A9.1 j (lc j) (rc j) true, A9.2.1, A9.2.2) = Z := tfF_s (M := 8) (m := 7) (L := L) (bs := bs) (bt := bt) rfl (by omega) hA9 hZ
  refine x_ofv (cc := cX0_tryFrom) (maxL := 4) (by decide) rfl (Nat.le_of_ble_eq_true rfl) ?_
  intro p e s m args below meth c ls A Q C hml hA hH hl hE
  have hl : lv_has ls 4 [(0, .ref (a 19)), (1, .ref (a 6)), (2, .int (nI j)), (3, .int v)] := hl
  have inX2 : ∀ w ∈ wsX20, w ∈ wsX0_tryFrom := fun _ h => (List.mem_cons_of_mem _ (List.mem_append_left _ (List.mem_append_right _ h)))
  refine lv_iload_n C.1 C.2.1 dX0_tryFrom_0 rfl (lv_at hl 2 rfl) ?_
  refine lv_aload_n C.1 C.2.1 dX0_tryFrom_1 rfl (lv_at hl 1 rfl) ?_
  refine x_get (C := RX2) (T := TX2) (N := 14) (v := .int (F 6)) C inX2 hH 6 gX_6 rfl 13 (by decide) rfl rfl 1 rfl dX0_tryFrom_2 ?_
  refine x_toi h6 ?_
  refine lv_icmp_lt (tgt := 19) C.1 C.2.1 dX0_tryFrom_5 (by decide) (fun _ => ?_) (fun c_1 => absurd ((nI_ltI (by omega) (by omega)).mpr (by omega)) c_1)
  refine lv_aload_n C.1 C.2.1 dX0_tryFrom_19 rfl (lv_at hl 0 rfl) ?_
  refine lv_aload_n C.1 C.2.1 dX0_tryFrom_20 rfl (lv_at hl 1 rfl) ?_
  refine lv_iload_n C.1 C.2.1 dX0_tryFrom_21 rfl (lv_at hl 2 rfl) ?_
  refine lv_iconst (v := nI 0) C.1 C.2.1 dX0_tryFrom_22 (by decide) ?_
  refine x_toi (show nI 0 = xb (false = true) by decide) ?_
  refine x_cv (w' := wX G a S T (wjL F T L j (lc j) (rc j) false) ((tS F 12 bt)) bs) (va_runV (As := [.ref (a 6), .int (nI j), .int (xb (false = true))]) (rest := []) (x_fix C hml) (c_X0_weighJoin l G a S T L ((tS F 12 bt)) bs j (lc j) (rc j) false (hPQ j (by omega) (by omega)).1 (hPQ j (by omega) (by omega)).2.1 (by omega) (hPQ j (by omega) (by omega)).2.2.1 (hPQ j (by omega) (by omega)).2.2.2 _) (cwV 3 C.2.2.2.1 gX0_tryFrom_X0_weighJoin rfl rfl rfl (by decide +kernel) ⟨Nat.le_of_ble_eq_true rfl, Nat.le_of_ble_eq_true rfl⟩) (x_pv C hH rfl gX_19 rfl rfl) rfl rfl hl.1 rfl (lv_room (Nat.le_of_ble_eq_true rfl)) dX0_tryFrom_23 ⟨Nat.le_of_ble_eq_true rfl, Nat.le_of_ble_eq_true rfl⟩) hH hA (fun H locs hH => ?_)
  refine lv_aload_n C.1 C.2.1 dX0_tryFrom_26 rfl (lv_at hl 0 rfl) ?_
  refine lv_aload_n C.1 C.2.1 dX0_tryFrom_27 rfl (lv_at hl 1 rfl) ?_
  refine lv_iload_n C.1 C.2.1 dX0_tryFrom_28 rfl (lv_at hl 2 rfl) ?_
  refine lv_iconst (v := nI 1) C.1 C.2.1 dX0_tryFrom_29 (by decide) ?_
  refine lv_iadd C.1 C.2.1 dX0_tryFrom_30 ?_
  refine x_toi (nI_add j 1) ?_
  refine lv_iload_n C.1 C.2.1 dX0_tryFrom_31 rfl (lv_at hl 3 rfl) ?_
  refine x_cv (w' := wX G a S T A9.1 ((tS F 12 A9.2.2)) A9.2.1) (va_runS (As := [.ref (a 19), .ref (a 6), .int (nI (j + 1)), .int v]) (rest := []) (x_fix C hml) (c_X0_tryFrom_7 l G a S T (wjL F T L j (lc j) (rc j) false) F bs bt (j + 1) v lc rc lv nd h5 h6 h1 hl9 hl10 hn hPQ A9 (by omega) (by omega) hA9 _) (cwS 4 C.2.2.2.1 gX0_tryFrom_X0_tryFrom rfl rfl rfl (by decide +kernel) ⟨Nat.le_of_ble_eq_true rfl, Nat.le_of_ble_eq_true rfl⟩) (x_ps C hH) rfl rfl hl.1 rfl (lv_room (Nat.le_of_ble_eq_true rfl)) dX0_tryFrom_32 ⟨Nat.le_of_ble_eq_true rfl, Nat.le_of_ble_eq_true rfl⟩) hH hA (fun H locs hH => ?_)
  refine lv_aload_n C.1 C.2.1 dX0_tryFrom_35 rfl (lv_at hl 0 rfl) ?_
  refine lv_aload_n C.1 C.2.1 dX0_tryFrom_36 rfl (lv_at hl 1 rfl) ?_
  refine lv_iload_n C.1 C.2.1 dX0_tryFrom_37 rfl (lv_at hl 2 rfl) ?_
  refine lv_iconst (v := nI 1) C.1 C.2.1 dX0_tryFrom_38 (by decide) ?_
  refine x_toi (show nI 1 = xb (true = true) by decide) ?_
  refine x_cv (w' := wX G a S T (wjL F T A9.1 j (lc j) (rc j) true) ((tS F 12 A9.2.2)) A9.2.1) (va_runV (As := [.ref (a 6), .int (nI j), .int (xb (true = true))]) (rest := []) (x_fix C hml) (c_X0_weighJoin l G a S T A9.1 ((tS F 12 A9.2.2)) A9.2.1 j (lc j) (rc j) true (hPQ j (by omega) (by omega)).1 (hPQ j (by omega) (by omega)).2.1 (by omega) (hPQ j (by omega) (by omega)).2.2.1 (hPQ j (by omega) (by omega)).2.2.2 _) (cwV 3 C.2.2.2.1 gX0_tryFrom_X0_weighJoin rfl rfl rfl (by decide +kernel) ⟨Nat.le_of_ble_eq_true rfl, Nat.le_of_ble_eq_true rfl⟩) (x_pv C hH rfl gX_19 rfl rfl) rfl rfl hl.1 rfl (lv_room (Nat.le_of_ble_eq_true rfl)) dX0_tryFrom_39 ⟨Nat.le_of_ble_eq_true rfl, Nat.le_of_ble_eq_true rfl⟩) hH hA (fun H locs hH => ?_)
  refine lv_aload_n C.1 C.2.1 dX0_tryFrom_42 rfl (lv_at hl 0 rfl) ?_
  refine lv_aload_n C.1 C.2.1 dX0_tryFrom_43 rfl (lv_at hl 1 rfl) ?_
  refine lv_iload_n C.1 C.2.1 dX0_tryFrom_44 rfl (lv_at hl 2 rfl) ?_
  refine lv_iconst (v := nI 1) C.1 C.2.1 dX0_tryFrom_45 (by decide) ?_
  refine lv_iadd C.1 C.2.1 dX0_tryFrom_46 ?_
  refine x_toi (nI_add j 1) ?_
  refine lv_iload_n C.1 C.2.1 dX0_tryFrom_47 rfl (lv_at hl 3 rfl) ?_
  refine lv_aload_n C.1 C.2.1 dX0_tryFrom_48 rfl (lv_at hl 1 rfl) ?_
  refine lv_iload_n C.1 C.2.1 dX0_tryFrom_49 rfl (lv_at hl 2 rfl) ?_
  refine x_ci (w' := wX G a S T (wjL F T A9.1 j (lc j) (rc j) true) ((tS F 12 A9.2.2)) A9.2.1) (va_runV (As := [.int (nI j)]) (rest := [.int v, .int (nI (j + 1)), .ref (a 6), .ref (a 19)]) (x_fix C hml) (c_X2_bitOf l G a S T (wjL F T A9.1 j (lc j) (rc j) true) ((tS F 12 A9.2.2)) A9.2.1 (j) (lv) h5 (by omega) _) (cwV 1 C.2.2.2.1 gX0_tryFrom_X2_bitOf rfl rfl rfl (by decide +kernel) ⟨Nat.le_of_ble_eq_true rfl, Nat.le_of_ble_eq_true rfl⟩) (x_pv C hH rfl gX_6 rfl rfl) rfl rfl hl.1 rfl (lv_room (Nat.le_of_ble_eq_true rfl)) dX0_tryFrom_50 ⟨Nat.le_of_ble_eq_true rfl, Nat.le_of_ble_eq_true rfl⟩) hH hA (fun H locs hH => ?_)
  refine lv_ior C.1 C.2.1 dX0_tryFrom_53 ?_
  refine x_cv (w' := wX G a S T Z.1 ((tS F 12 Z.2.2)) Z.2.1) (va_runS (As := [.ref (a 19), .ref (a 6), .int (nI (j + 1)), .int (v ||| (bitI (j - lv)))]) (rest := []) (x_fix C hml) (c_X0_tryFrom_7 l G a S T (wjL F T A9.1 j (lc j) (rc j) true) F A9.2.1 A9.2.2 (j + 1) (v ||| (bitI (j - lv))) lc rc lv nd h5 h6 h1 hl9 hl10 hn hPQ Z (by omega) (by omega) hZ _) (cwS 4 C.2.2.2.1 gX0_tryFrom_X0_tryFrom rfl rfl rfl (by decide +kernel) ⟨Nat.le_of_ble_eq_true rfl, Nat.le_of_ble_eq_true rfl⟩) (x_ps C hH) rfl rfl hl.1 rfl (lv_room (Nat.le_of_ble_eq_true rfl)) dX0_tryFrom_54 ⟨Nat.le_of_ble_eq_true rfl, Nat.le_of_ble_eq_true rfl⟩) hH hA (fun H locs hH => ?_)
  exact hE _ _ _ _ hH dX0_tryFrom_57
set_option maxHeartbeats 400000 in
set_option maxRecDepth 100000 in
theorem c_X0_tryFrom_9 (l : Launch) (G : xG) (a : Nat → Nat) (S T : Nat → Nat → Int32) (L : Nat → Nat → Int64) (F : Nat → Int32) (bs : Int64) (bt : Int32) (j : Nat) (v : Int32) (lc rc : Nat → Nat) (lv nd : Nat) (h5 : F 5 = nI lv) (h6 : F 6 = nI nd) (h1 : 1 ≤ lv) (hl9 : lv ≤ nd) (hl10 : lv ≤ 10) (hn : nd ≤ 19) (hPQ : ∀ i, lv ≤ i → i < nd → T 0 i = nI (lc i) ∧ T 1 i = nI (rc i) ∧ lc i < 19 ∧ rc i < 19) (Z : (Nat → Nat → Int64) × Int64 × Int32) (hj : j + 9 = nd) (hlj : lv ≤ j) (hZ : tfF F T lc rc lv nd 9 v (L, bs, bt) = Z) : xMv l yX0_tryFrom wsX0_tryFrom { frames := 13, cells := 0, slots := 0, locals := 294 } [.ref (a 19), .ref (a 6), .int (nI j), .int v] G (wX G a S T L ((tS F 12 bt)) bs) (wX G a S T Z.1 ((tS F 12 Z.2.2)) Z.2.1) 0 0 := by
  obtain ⟨A9, hA9⟩ : ∃ z, tfF F T lc rc lv nd 8 v (wjL F T L j (lc j) (rc j) false, bs, bt) = z := ⟨_, rfl⟩
  have hZ : tfF F T lc rc lv nd 8 (v ||| bitI (j - lv)) (wjL F T A9.1 j (lc j) (rc j) true, A9.2.1, A9.2.2) = Z := tfF_s (M := 9) (m := 8) (L := L) (bs := bs) (bt := bt) rfl (by omega) hA9 hZ
  refine x_ofv (cc := cX0_tryFrom) (maxL := 4) (by decide) rfl (Nat.le_of_ble_eq_true rfl) ?_
  intro p e s m args below meth c ls A Q C hml hA hH hl hE
  have hl : lv_has ls 4 [(0, .ref (a 19)), (1, .ref (a 6)), (2, .int (nI j)), (3, .int v)] := hl
  have inX2 : ∀ w ∈ wsX20, w ∈ wsX0_tryFrom := fun _ h => (List.mem_cons_of_mem _ (List.mem_append_left _ (List.mem_append_right _ h)))
  refine lv_iload_n C.1 C.2.1 dX0_tryFrom_0 rfl (lv_at hl 2 rfl) ?_
  refine lv_aload_n C.1 C.2.1 dX0_tryFrom_1 rfl (lv_at hl 1 rfl) ?_
  refine x_get (C := RX2) (T := TX2) (N := 14) (v := .int (F 6)) C inX2 hH 6 gX_6 rfl 13 (by decide) rfl rfl 1 rfl dX0_tryFrom_2 ?_
  refine x_toi h6 ?_
  refine lv_icmp_lt (tgt := 19) C.1 C.2.1 dX0_tryFrom_5 (by decide) (fun _ => ?_) (fun c_1 => absurd ((nI_ltI (by omega) (by omega)).mpr (by omega)) c_1)
  refine lv_aload_n C.1 C.2.1 dX0_tryFrom_19 rfl (lv_at hl 0 rfl) ?_
  refine lv_aload_n C.1 C.2.1 dX0_tryFrom_20 rfl (lv_at hl 1 rfl) ?_
  refine lv_iload_n C.1 C.2.1 dX0_tryFrom_21 rfl (lv_at hl 2 rfl) ?_
  refine lv_iconst (v := nI 0) C.1 C.2.1 dX0_tryFrom_22 (by decide) ?_
  refine x_toi (show nI 0 = xb (false = true) by decide) ?_
  refine x_cv (w' := wX G a S T (wjL F T L j (lc j) (rc j) false) ((tS F 12 bt)) bs) (va_runV (As := [.ref (a 6), .int (nI j), .int (xb (false = true))]) (rest := []) (x_fix C hml) (c_X0_weighJoin l G a S T L ((tS F 12 bt)) bs j (lc j) (rc j) false (hPQ j (by omega) (by omega)).1 (hPQ j (by omega) (by omega)).2.1 (by omega) (hPQ j (by omega) (by omega)).2.2.1 (hPQ j (by omega) (by omega)).2.2.2 _) (cwV 3 C.2.2.2.1 gX0_tryFrom_X0_weighJoin rfl rfl rfl (by decide +kernel) ⟨Nat.le_of_ble_eq_true rfl, Nat.le_of_ble_eq_true rfl⟩) (x_pv C hH rfl gX_19 rfl rfl) rfl rfl hl.1 rfl (lv_room (Nat.le_of_ble_eq_true rfl)) dX0_tryFrom_23 ⟨Nat.le_of_ble_eq_true rfl, Nat.le_of_ble_eq_true rfl⟩) hH hA (fun H locs hH => ?_)
  refine lv_aload_n C.1 C.2.1 dX0_tryFrom_26 rfl (lv_at hl 0 rfl) ?_
  refine lv_aload_n C.1 C.2.1 dX0_tryFrom_27 rfl (lv_at hl 1 rfl) ?_
  refine lv_iload_n C.1 C.2.1 dX0_tryFrom_28 rfl (lv_at hl 2 rfl) ?_
  refine lv_iconst (v := nI 1) C.1 C.2.1 dX0_tryFrom_29 (by decide) ?_
  refine lv_iadd C.1 C.2.1 dX0_tryFrom_30 ?_
  refine x_toi (nI_add j 1) ?_
  refine lv_iload_n C.1 C.2.1 dX0_tryFrom_31 rfl (lv_at hl 3 rfl) ?_
  refine x_cv (w' := wX G a S T A9.1 ((tS F 12 A9.2.2)) A9.2.1) (va_runS (As := [.ref (a 19), .ref (a 6), .int (nI (j + 1)), .int v]) (rest := []) (x_fix C hml) (c_X0_tryFrom_8 l G a S T (wjL F T L j (lc j) (rc j) false) F bs bt (j + 1) v lc rc lv nd h5 h6 h1 hl9 hl10 hn hPQ A9 (by omega) (by omega) hA9 _) (cwS 4 C.2.2.2.1 gX0_tryFrom_X0_tryFrom rfl rfl rfl (by decide +kernel) ⟨Nat.le_of_ble_eq_true rfl, Nat.le_of_ble_eq_true rfl⟩) (x_ps C hH) rfl rfl hl.1 rfl (lv_room (Nat.le_of_ble_eq_true rfl)) dX0_tryFrom_32 ⟨Nat.le_of_ble_eq_true rfl, Nat.le_of_ble_eq_true rfl⟩) hH hA (fun H locs hH => ?_)
  refine lv_aload_n C.1 C.2.1 dX0_tryFrom_35 rfl (lv_at hl 0 rfl) ?_
  refine lv_aload_n C.1 C.2.1 dX0_tryFrom_36 rfl (lv_at hl 1 rfl) ?_
  refine lv_iload_n C.1 C.2.1 dX0_tryFrom_37 rfl (lv_at hl 2 rfl) ?_
  refine lv_iconst (v := nI 1) C.1 C.2.1 dX0_tryFrom_38 (by decide) ?_
  refine x_toi (show nI 1 = xb (true = true) by decide) ?_
  refine x_cv (w' := wX G a S T (wjL F T A9.1 j (lc j) (rc j) true) ((tS F 12 A9.2.2)) A9.2.1) (va_runV (As := [.ref (a 6), .int (nI j), .int (xb (true = true))]) (rest := []) (x_fix C hml) (c_X0_weighJoin l G a S T A9.1 ((tS F 12 A9.2.2)) A9.2.1 j (lc j) (rc j) true (hPQ j (by omega) (by omega)).1 (hPQ j (by omega) (by omega)).2.1 (by omega) (hPQ j (by omega) (by omega)).2.2.1 (hPQ j (by omega) (by omega)).2.2.2 _) (cwV 3 C.2.2.2.1 gX0_tryFrom_X0_weighJoin rfl rfl rfl (by decide +kernel) ⟨Nat.le_of_ble_eq_true rfl, Nat.le_of_ble_eq_true rfl⟩) (x_pv C hH rfl gX_19 rfl rfl) rfl rfl hl.1 rfl (lv_room (Nat.le_of_ble_eq_true rfl)) dX0_tryFrom_39 ⟨Nat.le_of_ble_eq_true rfl, Nat.le_of_ble_eq_true rfl⟩) hH hA (fun H locs hH => ?_)
  refine lv_aload_n C.1 C.2.1 dX0_tryFrom_42 rfl (lv_at hl 0 rfl) ?_
  refine lv_aload_n C.1 C.2.1 dX0_tryFrom_43 rfl (lv_at hl 1 rfl) ?_
  refine lv_iload_n C.1 C.2.1 dX0_tryFrom_44 rfl (lv_at hl 2 rfl) ?_
  refine lv_iconst (v := nI 1) C.1 C.2.1 dX0_tryFrom_45 (by decide) ?_
  refine lv_iadd C.1 C.2.1 dX0_tryFrom_46 ?_
  refine x_toi (nI_add j 1) ?_
  refine lv_iload_n C.1 C.2.1 dX0_tryFrom_47 rfl (lv_at hl 3 rfl) ?_
  refine lv_aload_n C.1 C.2.1 dX0_tryFrom_48 rfl (lv_at hl 1 rfl) ?_
  refine lv_iload_n C.1 C.2.1 dX0_tryFrom_49 rfl (lv_at hl 2 rfl) ?_
  refine x_ci (w' := wX G a S T (wjL F T A9.1 j (lc j) (rc j) true) ((tS F 12 A9.2.2)) A9.2.1) (va_runV (As := [.int (nI j)]) (rest := [.int v, .int (nI (j + 1)), .ref (a 6), .ref (a 19)]) (x_fix C hml) (c_X2_bitOf l G a S T (wjL F T A9.1 j (lc j) (rc j) true) ((tS F 12 A9.2.2)) A9.2.1 (j) (lv) h5 (by omega) _) (cwV 1 C.2.2.2.1 gX0_tryFrom_X2_bitOf rfl rfl rfl (by decide +kernel) ⟨Nat.le_of_ble_eq_true rfl, Nat.le_of_ble_eq_true rfl⟩) (x_pv C hH rfl gX_6 rfl rfl) rfl rfl hl.1 rfl (lv_room (Nat.le_of_ble_eq_true rfl)) dX0_tryFrom_50 ⟨Nat.le_of_ble_eq_true rfl, Nat.le_of_ble_eq_true rfl⟩) hH hA (fun H locs hH => ?_)
  refine lv_ior C.1 C.2.1 dX0_tryFrom_53 ?_
  refine x_cv (w' := wX G a S T Z.1 ((tS F 12 Z.2.2)) Z.2.1) (va_runS (As := [.ref (a 19), .ref (a 6), .int (nI (j + 1)), .int (v ||| (bitI (j - lv)))]) (rest := []) (x_fix C hml) (c_X0_tryFrom_8 l G a S T (wjL F T A9.1 j (lc j) (rc j) true) F A9.2.1 A9.2.2 (j + 1) (v ||| (bitI (j - lv))) lc rc lv nd h5 h6 h1 hl9 hl10 hn hPQ Z (by omega) (by omega) hZ _) (cwS 4 C.2.2.2.1 gX0_tryFrom_X0_tryFrom rfl rfl rfl (by decide +kernel) ⟨Nat.le_of_ble_eq_true rfl, Nat.le_of_ble_eq_true rfl⟩) (x_ps C hH) rfl rfl hl.1 rfl (lv_room (Nat.le_of_ble_eq_true rfl)) dX0_tryFrom_54 ⟨Nat.le_of_ble_eq_true rfl, Nat.le_of_ble_eq_true rfl⟩) hH hA (fun H locs hH => ?_)
  exact hE _ _ _ _ hH dX0_tryFrom_57
