theorem tS_id {α : Type} {T : Nat → α} {j : Nat} {f : α} (h : T j = f) : T = tS T j f := by
  funext k
  unfold tS
  by_cases hk : k = j
  · rw [if_pos hk, hk, h]
  · rw [if_neg hk]
theorem plantF_11 {S : Nat → Nat → Int32} : ∀ {n k : Nat} {T : Nat → Nat → Int32}, plantF S n k T 11 = T 11
  | 0, _, _ => rfl
  | n + 1, k, T => plantF_11 (n := n) (k := k + 1) (T := plantK S T k)
set_option maxHeartbeats 400000 in
set_option maxRecDepth 100000 in
theorem c_X3_build_0 (l : Launch) (G : xG) (a : Nat → Nat) (S T : Nat → Nat → Int32) (L : Nat → Nat → Int64) (F : Nat → Int32) (bs : Int64) (ct rt : Nat) (pr : Nat → Nat) (T2 : Nat → Nat → Int32) (h4 : F 4 = nI ct) (h1 : 1 ≤ ct) (hc : ct ≤ 10) (hrt : rt + 2 = 2 * ct) (hok : cJoinsOk (ct - 1) ct (plantF S ct 0 T)) (hT2 : cJoins (ct - 1) ct (plantF S ct 0 T) = T2) (hP : ∀ k, k < rt → T2 2 k = nI (pr k)) (hP1 : ∀ k, k < rt → pr k < 19) : xMi l yX3_build wsX3_build { frames := 6, cells := 0, slots := 0, locals := 132 } [.ref (a 0), .int (nI 0)] G (wX G a S T L F bs) (nI (rt + 1)) (wX G a S (chooseF pr rt (rootT T2 rt (nI 1024 * (F 0 + F 1)) (nI 1024 * (F 0 - F 1)))) L (tS (tS (tS (tS F 5 (nI ct)) 6 (nI (rt + 1))) 2 (nI 1)) 3 (nI 0)) bs) 0 0 := by
  have hw : inW (nI 0) (nI 0) (nI 1) := inN (by omega) (by omega) (by omega)
  refine x_ofi (cc := cX3_build) (maxL := 2) (ty := .int) (by decide) rfl (Nat.le_of_ble_eq_true rfl) ?_
  intro p e s m args below meth c ls A Q C hml hA hH hl hE
  have hl : lv_has ls 2 [(0, .ref (a 0)), (1, .int (nI 0))] := hl
  have inX1 : ∀ w ∈ wsX10, w ∈ wsX3_build := fun _ h => (List.mem_cons_of_mem _ (List.mem_append_left _ (List.mem_append_left _ (List.mem_append_left _ (List.mem_append_right _ h)))))
  have inX2 : ∀ w ∈ wsX20, w ∈ wsX3_build := fun _ h => (List.mem_cons_of_mem _ (List.mem_append_left _ (List.mem_append_left _ (List.mem_append_right _ h))))
  have inX3 : ∀ w ∈ wsX30, w ∈ wsX3_build := fun _ h => (List.mem_cons_of_mem _ (List.mem_append_left _ (List.mem_append_left _ (List.mem_append_left _ (List.mem_append_left _ (List.mem_append_right _ h))))))
  refine lv_iload_n C.1 C.2.1 dX3_build_0 rfl (lv_at hl 1 rfl) ?_
  refine lv_iconst (v := nI 0) C.1 C.2.1 dX3_build_1 (by decide) ?_
  refine lv_iconst (v := nI 1) C.1 C.2.1 dX3_build_2 (by decide) ?_
  refine x_ci (w' := wX G a S T L F bs) (va_runS (As := [.int (nI 0), .int (nI 0), .int (nI 1)]) (rest := []) (x_fix C hml) (c_X3_isWithin l G a S T L F bs (nI 0) (nI 0) (nI 1) _) (cwS 3 C.2.2.2.1 gX3_build_X3_isWithin rfl rfl rfl (by decide +kernel) ⟨Nat.le_of_ble_eq_true rfl, Nat.le_of_ble_eq_true rfl⟩) (x_ps C hH) rfl rfl hl.1 rfl (lv_room (Nat.le_of_ble_eq_true rfl)) dX3_build_3 ⟨Nat.le_of_ble_eq_true rfl, Nat.le_of_ble_eq_true rfl⟩) hH hA (fun H locs hH => ?_)
  refine lv_if_ne (tgt := 19) C.1 C.2.1 dX3_build_6 (by decide) (fun _ => ?_) (fun z8 => absurd z8 (fun z9 => xb_0.mp z9 hw))
  refine lv_aload_n C.1 C.2.1 dX3_build_19 rfl (lv_at hl 0 rfl) ?_
  refine x_get (C := RX3) (T := TX3) (N := 7) (v := .ref (a 1)) C inX3 hH 0 gX_0 rfl 0 (by decide) rfl rfl 5 rfl dX3_build_20 ?_
  refine x_get (C := RX1) (T := TX1) (N := 5) (v := .int (F 4)) C inX1 hH 1 gX_1 rfl 4 (by decide) rfl rfl 6 rfl dX3_build_23 ?_
  refine x_toi h4 ?_
  refine lv_if_ne (tgt := 39) C.1 C.2.1 dX3_build_26 (by decide) (fun _ => ?_) (fun c_2 => absurd c_2 (nI_ne0 (by omega) (by omega)))
  refine lv_aload_n C.1 C.2.1 dX3_build_39 rfl (lv_at hl 0 rfl) ?_
  refine x_get (C := RX3) (T := TX3) (N := 7) (v := .ref (a 6)) C inX3 hH 0 gX_0 rfl 1 (by decide) rfl rfl 7 rfl dX3_build_40 ?_
  refine lv_aload_n C.1 C.2.1 dX3_build_43 rfl (lv_at hl 0 rfl) ?_
  refine x_get (C := RX3) (T := TX3) (N := 7) (v := .ref (a 1)) C inX3 hH 0 gX_0 rfl 0 (by decide) rfl rfl 5 rfl dX3_build_44 ?_
  refine x_cv (w' := wX G a S (plantF S ct 0 T) L ((tS ((tS F 5 (nI ct))) 6 (nI ct))) bs) (va_runV (As := [.ref (a 1)]) (rest := []) (x_fix C hml) (c_X2_plantSinks l G a S T L F bs ct h4 (by omega) _) (cwV 1 C.2.2.2.1 gX3_build_X2_plantSinks rfl rfl rfl (by decide +kernel) ⟨Nat.le_of_ble_eq_true rfl, Nat.le_of_ble_eq_true rfl⟩) (x_pv C hH rfl gX_6 rfl rfl) rfl rfl hl.1 rfl (lv_room (Nat.le_of_ble_eq_true rfl)) dX3_build_47 ⟨Nat.le_of_ble_eq_true rfl, Nat.le_of_ble_eq_true rfl⟩) hH hA (fun H locs hH => ?_)
  refine lv_iload_n C.1 C.2.1 dX3_build_50 rfl (lv_at hl 1 rfl) ?_
  refine lv_if_ne (tgt := 64) C.1 C.2.1 dX3_build_51 (by decide) (fun c_3 => absurd (by decide) c_3) (fun _ => ?_)
  refine lv_aload_n C.1 C.2.1 dX3_build_54 rfl (lv_at hl 0 rfl) ?_
  refine x_get (C := RX3) (T := TX3) (N := 7) (v := .ref (a 6)) C inX3 hH 0 gX_0 rfl 1 (by decide) rfl rfl 7 rfl dX3_build_55 ?_
  refine x_cv (w' := wX G a S (cJoins (ct - 1) ct (plantF S ct 0 T)) L ((tS ((tS F 5 (nI ct))) 6 (nI (ct + (ct - 1))))) bs) (va_runV (As := []) (rest := []) (x_fix C hml) (c_X2_joinByDistance l G a S (plantF S ct 0 T) L F bs ct (by omega) (by omega) hok _) (cwV 0 C.2.2.2.1 gX3_build_X2_joinByDistance rfl rfl rfl (by decide +kernel) ⟨Nat.le_of_ble_eq_true rfl, Nat.le_of_ble_eq_true rfl⟩) (x_pv C hH rfl gX_6 rfl rfl) rfl rfl hl.1 rfl (lv_room (Nat.le_of_ble_eq_true rfl)) dX3_build_58 ⟨Nat.le_of_ble_eq_true rfl, Nat.le_of_ble_eq_true rfl⟩) hH hA (fun H locs hH => ?_)
  have hH := x_eqw (w' := wX G a S T2 L ((tS ((tS F 5 (nI ct))) 6 (nI (ct + (ct - 1))))) bs) (by rw [hT2]) hH
  refine lv_goto (tgt := 75) C.1 C.2.1 dX3_build_61 (by decide) ?_
  refine lv_aload_n C.1 C.2.1 dX3_build_75 rfl (lv_at hl 0 rfl) ?_
  refine x_get (C := RX3) (T := TX3) (N := 7) (v := .ref (a 6)) C inX3 hH 0 gX_0 rfl 1 (by decide) rfl rfl 7 rfl dX3_build_76 ?_
  refine lv_aload_n C.1 C.2.1 dX3_build_79 rfl (lv_at hl 0 rfl) ?_
  refine x_get (C := RX3) (T := TX3) (N := 7) (v := .int (F 0)) C inX3 hH 0 gX_0 rfl 3 (by decide) rfl rfl 8 rfl dX3_build_80 ?_
  refine lv_aload_n C.1 C.2.1 dX3_build_83 rfl (lv_at hl 0 rfl) ?_
  refine x_get (C := RX3) (T := TX3) (N := 7) (v := .int (F 1)) C inX3 hH 0 gX_0 rfl 4 (by decide) rfl rfl 9 rfl dX3_build_84 ?_
  refine x_ci (w' := wX G a S T2 L ((tS ((tS F 5 (nI ct))) 6 (nI (ct + (ct - 1))))) bs) (va_runS (As := [.int (F 0), .int (F 1)]) (rest := [.ref (a 6)]) (x_fix C hml) (c_X3_placeU l G a S T2 L ((tS ((tS F 5 (nI ct))) 6 (nI (ct + (ct - 1))))) bs (F 0) (F 1) _) (cwS 2 C.2.2.2.1 gX3_build_X3_placeU rfl rfl rfl (by decide +kernel) ⟨Nat.le_of_ble_eq_true rfl, Nat.le_of_ble_eq_true rfl⟩) (x_ps C hH) rfl rfl hl.1 rfl (lv_room (Nat.le_of_ble_eq_true rfl)) dX3_build_87 ⟨Nat.le_of_ble_eq_true rfl, Nat.le_of_ble_eq_true rfl⟩) hH hA (fun H locs hH => ?_)
  refine lv_aload_n C.1 C.2.1 dX3_build_90 rfl (lv_at hl 0 rfl) ?_
  refine x_get (C := RX3) (T := TX3) (N := 7) (v := .int (F 0)) C inX3 hH 0 gX_0 rfl 3 (by decide) rfl rfl 8 rfl dX3_build_91 ?_
  refine lv_aload_n C.1 C.2.1 dX3_build_94 rfl (lv_at hl 0 rfl) ?_
  refine x_get (C := RX3) (T := TX3) (N := 7) (v := .int (F 1)) C inX3 hH 0 gX_0 rfl 4 (by decide) rfl rfl 9 rfl dX3_build_95 ?_
  refine x_ci (w' := wX G a S T2 L ((tS ((tS F 5 (nI ct))) 6 (nI (ct + (ct - 1))))) bs) (va_runS (As := [.int (F 0), .int (F 1)]) (rest := [.int (nI 1024 * ((F 0) + (F 1))), .ref (a 6)]) (x_fix C hml) (c_X3_placeV l G a S T2 L ((tS ((tS F 5 (nI ct))) 6 (nI (ct + (ct - 1))))) bs (F 0) (F 1) _) (cwS 2 C.2.2.2.1 gX3_build_X3_placeV rfl rfl rfl (by decide +kernel) ⟨Nat.le_of_ble_eq_true rfl, Nat.le_of_ble_eq_true rfl⟩) (x_ps C hH) rfl rfl hl.1 rfl (lv_room (Nat.le_of_ble_eq_true rfl)) dX3_build_98 ⟨Nat.le_of_ble_eq_true rfl, Nat.le_of_ble_eq_true rfl⟩) hH hA (fun H locs hH => ?_)
  refine x_cv (w' := wX G a S (chooseF pr rt (rootT T2 rt (nI 1024 * ((F 0) + (F 1))) (nI 1024 * ((F 0) - (F 1))))) L ((tS ((tS F 5 (nI ct))) 6 (nI (ct + (ct - 1))))) bs) (va_runV (As := [.int (nI 1024 * ((F 0) + (F 1))), .int (nI 1024 * ((F 0) - (F 1)))]) (rest := []) (x_fix C hml) (c_X2_choosePlaces l G a S T2 L ((tS ((tS F 5 (nI ct))) 6 (nI (ct + (ct - 1))))) bs rt pr (nI 1024 * ((F 0) + (F 1))) (nI 1024 * ((F 0) - (F 1))) (show nI (ct + (ct - 1)) = nI (rt + 1) from congrArg nI (by omega)) (by omega) hP hP1 _) (cwV 2 C.2.2.2.1 gX3_build_X2_choosePlaces rfl rfl rfl (by decide +kernel) ⟨Nat.le_of_ble_eq_true rfl, Nat.le_of_ble_eq_true rfl⟩) (x_pv C hH rfl gX_6 rfl rfl) rfl rfl hl.1 rfl (lv_room (Nat.le_of_ble_eq_true rfl)) dX3_build_101 ⟨Nat.le_of_ble_eq_true rfl, Nat.le_of_ble_eq_true rfl⟩) hH hA (fun H locs hH => ?_)
  refine lv_aload_n C.1 C.2.1 dX3_build_104 rfl (lv_at hl 0 rfl) ?_
  refine lv_iconst (v := nI 1) C.1 C.2.1 dX3_build_105 (by decide) ?_
  refine x_put (C := RX3) (T := TX3) (N := 7) (v := .int (nI 1)) (w' := wX G a S (chooseF pr rt (rootT T2 rt (nI 1024 * ((F 0) + (F 1))) (nI 1024 * ((F 0) - (F 1))))) L ((tS ((tS ((tS F 5 (nI ct))) 6 (nI (ct + (ct - 1))))) 2 (nI 1))) bs) C inX3 tyX3 tyX3_ok nmX3 hH 0 gX_0 rfl 5 (by decide) rfl rfl (by decide) rfl (Nat.le_of_ble_eq_true rfl) fX_0_5 10 rfl dX3_build_106 (fun H locs hH => ?_)
  refine lv_aload_n C.1 C.2.1 dX3_build_109 rfl (lv_at hl 0 rfl) ?_
  refine lv_iconst (v := nI 0) C.1 C.2.1 dX3_build_110 (by decide) ?_
  refine x_put (C := RX3) (T := TX3) (N := 7) (v := .int (nI 0)) (w' := wX G a S (chooseF pr rt (rootT T2 rt (nI 1024 * ((F 0) + (F 1))) (nI 1024 * ((F 0) - (F 1))))) L ((tS ((tS ((tS ((tS F 5 (nI ct))) 6 (nI (ct + (ct - 1))))) 2 (nI 1))) 3 (nI 0))) bs) C inX3 tyX3 tyX3_ok nmX3 hH 0 gX_0 rfl 6 (by decide) rfl rfl rfl rfl (Nat.le_of_ble_eq_true rfl) fX_0_6 11 rfl dX3_build_111 (fun H locs hH => ?_)
  refine lv_aload_n C.1 C.2.1 dX3_build_114 rfl (lv_at hl 0 rfl) ?_
  refine x_get (C := RX3) (T := TX3) (N := 7) (v := .ref (a 6)) C inX3 hH 0 gX_0 rfl 1 (by decide) rfl rfl 7 rfl dX3_build_115 ?_
  refine x_get (C := RX2) (T := TX2) (N := 14) (v := .int (nI (ct + (ct - 1)))) C inX2 hH 6 gX_6 rfl 13 (by decide) rfl rfl 12 rfl dX3_build_118 ?_
  have hH := x_eqw (w' := wX G a S (chooseF pr rt (rootT T2 rt (nI 1024 * (F 0 + F 1)) (nI 1024 * (F 0 - F 1)))) L (tS (tS (tS (tS F 5 (nI ct)) 6 (nI (rt + 1))) 2 (nI 1)) 3 (nI 0)) bs) (by rw [show ct + (ct - 1) = rt + 1 by omega]; first | done | rfl) hH
  exact hE _ _ _ _ _ hH (congrArg nI (by omega)) (rfl) dX3_build_121
set_option maxHeartbeats 400000 in
set_option maxRecDepth 100000 in
theorem c_X3_build_1 (l : Launch) (G : xG) (a : Nat → Nat) (S T : Nat → Nat → Int32) (L : Nat → Nat → Int64) (F : Nat → Int32) (bs : Int64) (g : Nat → Nat) (ct rt : Nat) (pr : Nat → Nat) (Z : (Nat → Nat → Int32) × Nat × (Nat → Nat) × Nat) (h4 : F 4 = nI ct) (h1 : 1 ≤ ct) (hc : ct ≤ 10) (hrt : rt + 2 = 2 * ct) (hg : ∀ k, g k < 10) (hT11 : T 11 = rw g) (hok : jrOk S 4 (plantF S ct 0 T) ct (rowN ct 0 g) 0 ct) (hZ : jrF S 4 (plantF S ct 0 T) ct (rowN ct 0 g) 0 ct = Z) (hZn : Z.2.1 = rt + 1) (hP : ∀ k, k < rt → Z.1 2 k = nI (pr k)) (hP1 : ∀ k, k < rt → pr k < 19) : xMi l yX3_build wsX3_build { frames := 9, cells := 0, slots := 0, locals := 214 } [.ref (a 0), .int (nI 1)] G (wX G a S T L F bs) (nI (rt + 1)) (wX G a S (chooseF pr rt (rootT (tS Z.1 11 (rw Z.2.2.1)) rt (nI 1024 * (F 0 + F 1)) (nI 1024 * (F 0 - F 1)))) L (tS (tS (tS (tS F 5 (nI ct)) 6 (nI (rt + 1))) 2 (nI 1)) 3 (nI 0)) bs) 0 0 := by
  have hw : inW (nI 1) (nI 0) (nI 1) := inN (by omega) (by omega) (by omega)
  refine x_ofi (cc := cX3_build) (maxL := 2) (ty := .int) (by decide) rfl (Nat.le_of_ble_eq_true rfl) ?_
  intro p e s m args below meth c ls A Q C hml hA hH hl hE
  have hl : lv_has ls 2 [(0, .ref (a 0)), (1, .int (nI 1))] := hl
  have inX1 : ∀ w ∈ wsX10, w ∈ wsX3_build := fun _ h => (List.mem_cons_of_mem _ (List.mem_append_left _ (List.mem_append_left _ (List.mem_append_left _ (List.mem_append_right _ h)))))
  have inX2 : ∀ w ∈ wsX20, w ∈ wsX3_build := fun _ h => (List.mem_cons_of_mem _ (List.mem_append_left _ (List.mem_append_left _ (List.mem_append_right _ h))))
  have inX3 : ∀ w ∈ wsX30, w ∈ wsX3_build := fun _ h => (List.mem_cons_of_mem _ (List.mem_append_left _ (List.mem_append_left _ (List.mem_append_left _ (List.mem_append_left _ (List.mem_append_right _ h))))))
  refine lv_iload_n C.1 C.2.1 dX3_build_0 rfl (lv_at hl 1 rfl) ?_
  refine lv_iconst (v := nI 0) C.1 C.2.1 dX3_build_1 (by decide) ?_
  refine lv_iconst (v := nI 1) C.1 C.2.1 dX3_build_2 (by decide) ?_
  refine x_ci (w' := wX G a S T L F bs) (va_runS (As := [.int (nI 1), .int (nI 0), .int (nI 1)]) (rest := []) (x_fix C hml) (c_X3_isWithin l G a S T L F bs (nI 1) (nI 0) (nI 1) _) (cwS 3 C.2.2.2.1 gX3_build_X3_isWithin rfl rfl rfl (by decide +kernel) ⟨Nat.le_of_ble_eq_true rfl, Nat.le_of_ble_eq_true rfl⟩) (x_ps C hH) rfl rfl hl.1 rfl (lv_room (Nat.le_of_ble_eq_true rfl)) dX3_build_3 ⟨Nat.le_of_ble_eq_true rfl, Nat.le_of_ble_eq_true rfl⟩) hH hA (fun H locs hH => ?_)
  refine lv_if_ne (tgt := 19) C.1 C.2.1 dX3_build_6 (by decide) (fun _ => ?_) (fun z8 => absurd z8 (fun z9 => xb_0.mp z9 hw))
  refine lv_aload_n C.1 C.2.1 dX3_build_19 rfl (lv_at hl 0 rfl) ?_
  refine x_get (C := RX3) (T := TX3) (N := 7) (v := .ref (a 1)) C inX3 hH 0 gX_0 rfl 0 (by decide) rfl rfl 5 rfl dX3_build_20 ?_
  refine x_get (C := RX1) (T := TX1) (N := 5) (v := .int (F 4)) C inX1 hH 1 gX_1 rfl 4 (by decide) rfl rfl 6 rfl dX3_build_23 ?_
  refine x_toi h4 ?_
  refine lv_if_ne (tgt := 39) C.1 C.2.1 dX3_build_26 (by decide) (fun _ => ?_) (fun c_2 => absurd c_2 (nI_ne0 (by omega) (by omega)))
  refine lv_aload_n C.1 C.2.1 dX3_build_39 rfl (lv_at hl 0 rfl) ?_
  refine x_get (C := RX3) (T := TX3) (N := 7) (v := .ref (a 6)) C inX3 hH 0 gX_0 rfl 1 (by decide) rfl rfl 7 rfl dX3_build_40 ?_
  refine lv_aload_n C.1 C.2.1 dX3_build_43 rfl (lv_at hl 0 rfl) ?_
  refine x_get (C := RX3) (T := TX3) (N := 7) (v := .ref (a 1)) C inX3 hH 0 gX_0 rfl 0 (by decide) rfl rfl 5 rfl dX3_build_44 ?_
  refine x_cv (w' := wX G a S (plantF S ct 0 T) L ((tS ((tS F 5 (nI ct))) 6 (nI ct))) bs) (va_runV (As := [.ref (a 1)]) (rest := []) (x_fix C hml) (c_X2_plantSinks l G a S T L F bs ct h4 (by omega) _) (cwV 1 C.2.2.2.1 gX3_build_X2_plantSinks rfl rfl rfl (by decide +kernel) ⟨Nat.le_of_ble_eq_true rfl, Nat.le_of_ble_eq_true rfl⟩) (x_pv C hH rfl gX_6 rfl rfl) rfl rfl hl.1 rfl (lv_room (Nat.le_of_ble_eq_true rfl)) dX3_build_47 ⟨Nat.le_of_ble_eq_true rfl, Nat.le_of_ble_eq_true rfl⟩) hH hA (fun H locs hH => ?_)
  have hH := x_eqw (w' := wX G a S ((tS (plantF S ct 0 T) 11 (rw g))) L ((tS ((tS F 5 (nI ct))) 6 (nI ct))) bs) (by rw [← tS_id (plantF_11.trans hT11)]) hH
  refine lv_iload_n C.1 C.2.1 dX3_build_50 rfl (lv_at hl 1 rfl) ?_
  refine lv_if_ne (tgt := 64) C.1 C.2.1 dX3_build_51 (by decide) (fun _ => ?_) (fun c_3 => absurd (c_3) (by decide))
  refine lv_aload_n C.1 C.2.1 dX3_build_64 rfl (lv_at hl 0 rfl) ?_
  refine x_get (C := RX3) (T := TX3) (N := 7) (v := .ref (a 6)) C inX3 hH 0 gX_0 rfl 1 (by decide) rfl rfl 7 rfl dX3_build_65 ?_
  refine lv_aload_n C.1 C.2.1 dX3_build_68 rfl (lv_at hl 0 rfl) ?_
  refine x_get (C := RX3) (T := TX3) (N := 7) (v := .ref (a 1)) C inX3 hH 0 gX_0 rfl 0 (by decide) rfl rfl 5 rfl dX3_build_69 ?_
  refine x_cv (w' := wX G a S ((tS Z.1 11 (rw Z.2.2.1))) L ((tS ((tS F 5 (nI ct))) 6 (nI Z.2.1))) bs) (va_runV (As := [.ref (a 1)]) (rest := []) (x_fix C hml) (c_X2_joinByCutting l G a S (plantF S ct 0 T) L F bs g ct Z hg (by omega) (by omega) hok hZ _) (cwV 1 C.2.2.2.1 gX3_build_X2_joinByCutting rfl rfl rfl (by decide +kernel) ⟨Nat.le_of_ble_eq_true rfl, Nat.le_of_ble_eq_true rfl⟩) (x_pv C hH rfl gX_6 rfl rfl) rfl rfl hl.1 rfl (lv_room (Nat.le_of_ble_eq_true rfl)) dX3_build_72 ⟨Nat.le_of_ble_eq_true rfl, Nat.le_of_ble_eq_true rfl⟩) hH hA (fun H locs hH => ?_)
  refine lv_aload_n C.1 C.2.1 dX3_build_75 rfl (lv_at hl 0 rfl) ?_
  refine x_get (C := RX3) (T := TX3) (N := 7) (v := .ref (a 6)) C inX3 hH 0 gX_0 rfl 1 (by decide) rfl rfl 7 rfl dX3_build_76 ?_
  refine lv_aload_n C.1 C.2.1 dX3_build_79 rfl (lv_at hl 0 rfl) ?_
  refine x_get (C := RX3) (T := TX3) (N := 7) (v := .int (F 0)) C inX3 hH 0 gX_0 rfl 3 (by decide) rfl rfl 8 rfl dX3_build_80 ?_
  refine lv_aload_n C.1 C.2.1 dX3_build_83 rfl (lv_at hl 0 rfl) ?_
  refine x_get (C := RX3) (T := TX3) (N := 7) (v := .int (F 1)) C inX3 hH 0 gX_0 rfl 4 (by decide) rfl rfl 9 rfl dX3_build_84 ?_
  refine x_ci (w' := wX G a S ((tS Z.1 11 (rw Z.2.2.1))) L ((tS ((tS F 5 (nI ct))) 6 (nI Z.2.1))) bs) (va_runS (As := [.int (F 0), .int (F 1)]) (rest := [.ref (a 6)]) (x_fix C hml) (c_X3_placeU l G a S ((tS Z.1 11 (rw Z.2.2.1))) L ((tS ((tS F 5 (nI ct))) 6 (nI Z.2.1))) bs (F 0) (F 1) _) (cwS 2 C.2.2.2.1 gX3_build_X3_placeU rfl rfl rfl (by decide +kernel) ⟨Nat.le_of_ble_eq_true rfl, Nat.le_of_ble_eq_true rfl⟩) (x_ps C hH) rfl rfl hl.1 rfl (lv_room (Nat.le_of_ble_eq_true rfl)) dX3_build_87 ⟨Nat.le_of_ble_eq_true rfl, Nat.le_of_ble_eq_true rfl⟩) hH hA (fun H locs hH => ?_)
  refine lv_aload_n C.1 C.2.1 dX3_build_90 rfl (lv_at hl 0 rfl) ?_
  refine x_get (C := RX3) (T := TX3) (N := 7) (v := .int (F 0)) C inX3 hH 0 gX_0 rfl 3 (by decide) rfl rfl 8 rfl dX3_build_91 ?_
  refine lv_aload_n C.1 C.2.1 dX3_build_94 rfl (lv_at hl 0 rfl) ?_
  refine x_get (C := RX3) (T := TX3) (N := 7) (v := .int (F 1)) C inX3 hH 0 gX_0 rfl 4 (by decide) rfl rfl 9 rfl dX3_build_95 ?_
  refine x_ci (w' := wX G a S ((tS Z.1 11 (rw Z.2.2.1))) L ((tS ((tS F 5 (nI ct))) 6 (nI Z.2.1))) bs) (va_runS (As := [.int (F 0), .int (F 1)]) (rest := [.int (nI 1024 * ((F 0) + (F 1))), .ref (a 6)]) (x_fix C hml) (c_X3_placeV l G a S ((tS Z.1 11 (rw Z.2.2.1))) L ((tS ((tS F 5 (nI ct))) 6 (nI Z.2.1))) bs (F 0) (F 1) _) (cwS 2 C.2.2.2.1 gX3_build_X3_placeV rfl rfl rfl (by decide +kernel) ⟨Nat.le_of_ble_eq_true rfl, Nat.le_of_ble_eq_true rfl⟩) (x_ps C hH) rfl rfl hl.1 rfl (lv_room (Nat.le_of_ble_eq_true rfl)) dX3_build_98 ⟨Nat.le_of_ble_eq_true rfl, Nat.le_of_ble_eq_true rfl⟩) hH hA (fun H locs hH => ?_)
  refine x_cv (w' := wX G a S (chooseF pr rt (rootT ((tS Z.1 11 (rw Z.2.2.1))) rt (nI 1024 * ((F 0) + (F 1))) (nI 1024 * ((F 0) - (F 1))))) L ((tS ((tS F 5 (nI ct))) 6 (nI Z.2.1))) bs) (va_runV (As := [.int (nI 1024 * ((F 0) + (F 1))), .int (nI 1024 * ((F 0) - (F 1)))]) (rest := []) (x_fix C hml) (c_X2_choosePlaces l G a S ((tS Z.1 11 (rw Z.2.2.1))) L ((tS ((tS F 5 (nI ct))) 6 (nI Z.2.1))) bs rt pr (nI 1024 * ((F 0) + (F 1))) (nI 1024 * ((F 0) - (F 1))) (show nI (Z.2.1) = nI (rt + 1) from congrArg nI (by omega)) (by omega) hP hP1 _) (cwV 2 C.2.2.2.1 gX3_build_X2_choosePlaces rfl rfl rfl (by decide +kernel) ⟨Nat.le_of_ble_eq_true rfl, Nat.le_of_ble_eq_true rfl⟩) (x_pv C hH rfl gX_6 rfl rfl) rfl rfl hl.1 rfl (lv_room (Nat.le_of_ble_eq_true rfl)) dX3_build_101 ⟨Nat.le_of_ble_eq_true rfl, Nat.le_of_ble_eq_true rfl⟩) hH hA (fun H locs hH => ?_)
  refine lv_aload_n C.1 C.2.1 dX3_build_104 rfl (lv_at hl 0 rfl) ?_
  refine lv_iconst (v := nI 1) C.1 C.2.1 dX3_build_105 (by decide) ?_
  refine x_put (C := RX3) (T := TX3) (N := 7) (v := .int (nI 1)) (w' := wX G a S (chooseF pr rt (rootT ((tS Z.1 11 (rw Z.2.2.1))) rt (nI 1024 * ((F 0) + (F 1))) (nI 1024 * ((F 0) - (F 1))))) L ((tS ((tS ((tS F 5 (nI ct))) 6 (nI Z.2.1))) 2 (nI 1))) bs) C inX3 tyX3 tyX3_ok nmX3 hH 0 gX_0 rfl 5 (by decide) rfl rfl (by decide) rfl (Nat.le_of_ble_eq_true rfl) fX_0_5 10 rfl dX3_build_106 (fun H locs hH => ?_)
  refine lv_aload_n C.1 C.2.1 dX3_build_109 rfl (lv_at hl 0 rfl) ?_
  refine lv_iconst (v := nI 0) C.1 C.2.1 dX3_build_110 (by decide) ?_
  refine x_put (C := RX3) (T := TX3) (N := 7) (v := .int (nI 0)) (w' := wX G a S (chooseF pr rt (rootT ((tS Z.1 11 (rw Z.2.2.1))) rt (nI 1024 * ((F 0) + (F 1))) (nI 1024 * ((F 0) - (F 1))))) L ((tS ((tS ((tS ((tS F 5 (nI ct))) 6 (nI Z.2.1))) 2 (nI 1))) 3 (nI 0))) bs) C inX3 tyX3 tyX3_ok nmX3 hH 0 gX_0 rfl 6 (by decide) rfl rfl rfl rfl (Nat.le_of_ble_eq_true rfl) fX_0_6 11 rfl dX3_build_111 (fun H locs hH => ?_)
  refine lv_aload_n C.1 C.2.1 dX3_build_114 rfl (lv_at hl 0 rfl) ?_
  refine x_get (C := RX3) (T := TX3) (N := 7) (v := .ref (a 6)) C inX3 hH 0 gX_0 rfl 1 (by decide) rfl rfl 7 rfl dX3_build_115 ?_
  refine x_get (C := RX2) (T := TX2) (N := 14) (v := .int (nI Z.2.1)) C inX2 hH 6 gX_6 rfl 13 (by decide) rfl rfl 12 rfl dX3_build_118 ?_
  have hH := x_eqw (w' := wX G a S (chooseF pr rt (rootT (tS Z.1 11 (rw Z.2.2.1)) rt (nI 1024 * (F 0 + F 1)) (nI 1024 * (F 0 - F 1)))) L (tS (tS (tS (tS F 5 (nI ct)) 6 (nI (rt + 1))) 2 (nI 1)) 3 (nI 0)) bs) (by rw [hZn]; first | done | rfl) hH
  exact hE _ _ _ _ _ hH (congrArg nI hZn) (rfl) dX3_build_121
