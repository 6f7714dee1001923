set_option maxHeartbeats 400000 in
set_option maxRecDepth 100000 in
theorem c_X2_joinRow_0 (l : Launch) (G : xG) (a : Nat → Nat) (S T : Nat → Nat → Int32) (L : Nat → Nat → Int64) (F : Nat → Int32) (bs : Int64) (g : Nat → Nat) (n f t : Nat) (Z : (Nat → Nat → Int32) × Nat × (Nat → Nat) × Nat) (hg : ∀ k, g k < 10) (hft : f < t) (ht : t ≤ 10) (hsz : t - f ≤ 1) (hok : jrOk S 0 T n g f t) (hZ : jrF S 0 T n g f t = Z) : xMi l yX2_joinRow wsX2_joinRow { frames := 0, cells := 0, slots := 0, locals := 0 } [.ref (a 6), .ref (a 1), .int (nI f), .int (nI t), .int (nI 4)] G (wX G a S ((tS T 11 (rw g))) L ((tS F 6 (nI n))) bs) (nI Z.2.2.2) (wX G a S ((tS Z.1 11 (rw Z.2.2.1))) L ((tS F 6 (nI Z.2.1))) bs) 0 0 := by
  refine x_ofi (cc := cX2_joinRow) (maxL := 8) (ty := .int) (by decide) rfl (Nat.le_of_ble_eq_true rfl) ?_
  intro p e s m args below meth c ls A Q C hml hA hH hl hE
  have hl : lv_has ls 8 [(0, .ref (a 6)), (1, .ref (a 1)), (2, .int (nI f)), (3, .int (nI t)), (4, .int (nI 4))] := hl
  have inX2 : ∀ w ∈ wsX20, w ∈ wsX2_joinRow := fun _ h => (List.mem_cons_of_mem _ (List.mem_append_left _ (List.mem_append_right _ h)))
  refine lv_iload_n C.1 C.2.1 dX2_joinRow_0 rfl (lv_at hl 3 rfl) ?_
  refine lv_iload_n C.1 C.2.1 dX2_joinRow_1 rfl (lv_at hl 2 rfl) ?_
  refine lv_isub C.1 C.2.1 dX2_joinRow_2 ?_
  refine x_toi (pk_sub (a := t) (b := f) (by omega)) ?_
  refine lv_iconst (v := nI 2) C.1 C.2.1 dX2_joinRow_3 (by decide) ?_
  refine lv_icmp_lt (tgt := 14) C.1 C.2.1 dX2_joinRow_4 (by decide) (fun _ => ?_) (fun c_1 => absurd ((nI_ltI (by omega) (by omega)).mpr (by omega)) c_1)
  refine lv_aload_n C.1 C.2.1 dX2_joinRow_14 rfl (lv_at hl 0 rfl) ?_
  refine x_get (C := RX2) (T := TX2) (N := 14) (v := .ref (a 18)) C inX2 hH 6 gX_6 rfl 11 (by decide) rfl rfl 1 rfl dX2_joinRow_15 ?_
  refine lv_iload_n C.1 C.2.1 dX2_joinRow_18 rfl (lv_at hl 2 rfl) ?_
  refine x_iald (f := rw g) (j := f) (v := nI (g f)) C hH 18 gX_18 (by omega) (by decide) (rfl) dX2_joinRow_19 ?_
  have hH := x_eqw (w' := wX G a S ((tS Z.1 11 (rw Z.2.2.1))) L ((tS F 6 (nI Z.2.1))) bs) (by rw [← hZ]; rfl) hH
  exact hE _ _ _ _ _ hH (by rw [← hZ]; rfl) (rfl) dX2_joinRow_20
set_option maxHeartbeats 400000 in
set_option maxRecDepth 100000 in
theorem c_X2_joinRow_1 (l : Launch) (G : xG) (a : Nat → Nat) (S T : Nat → Nat → Int32) (L : Nat → Nat → Int64) (F : Nat → Int32) (bs : Int64) (g : Nat → Nat) (n f t : Nat) (Z : (Nat → Nat → Int32) × Nat × (Nat → Nat) × Nat) (hg : ∀ k, g k < 10) (hft : f < t) (ht : t ≤ 10) (hsz : t - f ≤ 2) (hok : jrOk S 1 T n g f t) (hZ : jrF S 1 T n g f t = Z) : xMi l yX2_joinRow wsX2_joinRow { frames := 4, cells := 0, slots := 0, locals := 84 } [.ref (a 6), .ref (a 1), .int (nI f), .int (nI t), .int (nI 3)] G (wX G a S ((tS T 11 (rw g))) L ((tS F 6 (nI n))) bs) (nI Z.2.2.2) (wX G a S ((tS Z.1 11 (rw Z.2.2.1))) L ((tS F 6 (nI Z.2.1))) bs) 0 0 := by
  refine x_ofi (cc := cX2_joinRow) (maxL := 8) (ty := .int) (by decide) rfl (Nat.le_of_ble_eq_true rfl) ?_
  intro p e s m args below meth c ls A Q C hml hA hH hl hE
  have hl : lv_has ls 8 [(0, .ref (a 6)), (1, .ref (a 1)), (2, .int (nI f)), (3, .int (nI t)), (4, .int (nI 3))] := hl
  have inX2 : ∀ w ∈ wsX20, w ∈ wsX2_joinRow := fun _ h => (List.mem_cons_of_mem _ (List.mem_append_left _ (List.mem_append_right _ h)))
  refine lv_iload_n C.1 C.2.1 dX2_joinRow_0 rfl (lv_at hl 3 rfl) ?_
  refine lv_iload_n C.1 C.2.1 dX2_joinRow_1 rfl (lv_at hl 2 rfl) ?_
  refine lv_isub C.1 C.2.1 dX2_joinRow_2 ?_
  refine x_toi (pk_sub (a := t) (b := f) (by omega)) ?_
  refine lv_iconst (v := nI 2) C.1 C.2.1 dX2_joinRow_3 (by decide) ?_
  refine lv_icmp_lt (tgt := 14) C.1 C.2.1 dX2_joinRow_4 (by decide) (fun c_1 => ?_) (fun c_1 => ?_)
  · rw [nI_ltI (a := t - f) (b := 2) (by omega) (by omega)] at c_1
    refine lv_aload_n C.1 C.2.1 dX2_joinRow_14 rfl (lv_at hl 0 rfl) ?_
    refine x_get (C := RX2) (T := TX2) (N := 14) (v := .ref (a 18)) C inX2 hH 6 gX_6 rfl 11 (by decide) rfl rfl 1 rfl dX2_joinRow_15 ?_
    refine lv_iload_n C.1 C.2.1 dX2_joinRow_18 rfl (lv_at hl 2 rfl) ?_
    refine x_iald (f := rw g) (j := f) (v := nI (g f)) C hH 18 gX_18 (by omega) (by decide) (rfl) dX2_joinRow_19 ?_
    have hH := x_eqw (w' := wX G a S ((tS Z.1 11 (rw Z.2.2.1))) L ((tS F 6 (nI Z.2.1))) bs) (by rw [← hZ, jrF, if_pos c_1]; first | done | rfl) hH
    exact hE _ _ _ _ _ hH (by rw [← hZ, jrF, if_pos c_1]) (rfl) dX2_joinRow_20
  · rw [nI_ltI (a := t - f) (b := 2) (by omega) (by omega)] at c_1
    obtain ⟨A9, hA9⟩ : ∃ z, jrF S 0 T n (srt1 S 1 f t g) f (f + (t - f + 1) / 2) = z := ⟨_, rfl⟩
    obtain ⟨B9, hB9⟩ : ∃ z, jrF S 0 A9.1 A9.2.1 A9.2.2.1 (f + (t - f + 1) / 2) t = z := ⟨_, rfl⟩
    obtain ⟨k1, k2, k3, k4, k5, k6⟩ := (Or.resolve_left hok c_1) A9 B9 hA9 hB9
    have hg1 : ∀ k, srt1 S 1 f t g k < 10 := srtF_lt hg
    have hg2 : ∀ k, A9.2.2.1 k < 10 := hA9 ▸ jrF_lt hg1
    have hZ : (joinT B9.1 B9.2.1 A9.2.2.2 B9.2.2.2, B9.2.1 + 1, B9.2.2.1, B9.2.1) = Z := by rw [← hZ, jrF, if_neg c_1]; simp only [hA9, hB9]
    refine lv_iload C.1 C.2.1 dX2_joinRow_7 (lv_at hl 4 rfl) ?_
    refine lv_bipush (v := nI 10) C.1 C.2.1 dX2_joinRow_9 (by decide) ?_
    refine lv_icmp_lt (tgt := 21) C.1 C.2.1 dX2_joinRow_11 (by decide) (fun _ => ?_) (fun c_2 => absurd (by decide) c_2)
    refine lv_aload_n C.1 C.2.1 dX2_joinRow_21 rfl (lv_at hl 0 rfl) ?_
    refine lv_aload_n C.1 C.2.1 dX2_joinRow_22 rfl (lv_at hl 1 rfl) ?_
    refine lv_iload_n C.1 C.2.1 dX2_joinRow_23 rfl (lv_at hl 2 rfl) ?_
    refine lv_iload_n C.1 C.2.1 dX2_joinRow_24 rfl (lv_at hl 3 rfl) ?_
    refine lv_iload C.1 C.2.1 dX2_joinRow_25 (lv_at hl 4 rfl) ?_
    refine lv_iconst (v := nI 2) C.1 C.2.1 dX2_joinRow_27 (by decide) ?_
    refine lv_irem C.1 C.2.1 dX2_joinRow_28 (by decide) ?_
    refine x_toi (y := nI 1) (by decide) ?_
    refine lv_if_ne (tgt := 36) C.1 C.2.1 dX2_joinRow_29 (by decide) (fun _ => ?_) (fun c_3 => absurd (c_3) (by decide))
    refine lv_iconst (v := nI 0) C.1 C.2.1 dX2_joinRow_36 (by decide) ?_
    refine x_toi (show nI 0 = xb (((4 - 1) % 2 == 0) = true) by decide) ?_
    refine x_cv (w' := wX G a S ((tS T 11 (rw (srtF (befB (kA S (((4 - 1) % 2 == 0))) (kB S (((4 - 1) % 2 == 0)))) f (t - (f + 1)) (f + 1) g)))) L ((tS F 6 (nI n))) bs) (va_runV (As := [.ref (a 1), .int (nI f), .int (nI t), .int (xb (((4 - 1) % 2 == 0) = true))]) (rest := []) (x_fix C hml) (c_X2_orderRow l G a S T L ((tS F 6 (nI n))) bs g f t (((4 - 1) % 2 == 0)) (hg) (by omega) (by omega) _) (cwV 4 C.2.2.2.1 gX2_joinRow_X2_orderRow rfl rfl rfl (by decide +kernel) ⟨Nat.le_of_ble_eq_true rfl, Nat.le_of_ble_eq_true rfl⟩) (x_pv C hH rfl gX_6 rfl rfl) rfl rfl hl.1 rfl (lv_room (Nat.le_of_ble_eq_true rfl)) dX2_joinRow_37 ⟨Nat.le_of_ble_eq_true rfl, Nat.le_of_ble_eq_true rfl⟩) hH hA (fun H locs hH => ?_)
    refine lv_iload_n C.1 C.2.1 dX2_joinRow_40 rfl (lv_at hl 2 rfl) ?_
    refine lv_iload_n C.1 C.2.1 dX2_joinRow_41 rfl (lv_at hl 3 rfl) ?_
    refine lv_iload_n C.1 C.2.1 dX2_joinRow_42 rfl (lv_at hl 2 rfl) ?_
    refine lv_isub C.1 C.2.1 dX2_joinRow_43 ?_
    refine x_toi (pk_sub (a := t) (b := f) (by omega)) ?_
    refine lv_iconst (v := nI 1) C.1 C.2.1 dX2_joinRow_44 (by decide) ?_
    refine lv_iadd C.1 C.2.1 dX2_joinRow_45 ?_
    refine x_toi (nI_add (t - f) 1) ?_
    refine lv_iconst (v := nI 2) C.1 C.2.1 dX2_joinRow_46 (by decide) ?_
    refine lv_idiv C.1 C.2.1 dX2_joinRow_47 (by decide) ?_
    refine x_toi (pk_div (a := t - f + 1) (d := 2) (by omega) (by decide) (by decide)) ?_
    refine lv_iadd C.1 C.2.1 dX2_joinRow_48 ?_
    refine x_toi (nI_add f ((t - f + 1) / 2)) ?_
    refine lv_istore (lv' := [(5, .int (nI (f + ((t - f + 1) / 2)))), (0, .ref (a 6)), (1, .ref (a 1)), (2, .int (nI f)), (3, .int (nI t)), (4, .int (nI 3))]) C.1 C.2.1 dX2_joinRow_49 hl (by decide) rfl (fun ls hl => ?_)
    refine lv_aload_n C.1 C.2.1 dX2_joinRow_51 rfl (lv_at hl 1 rfl) ?_
    refine lv_aload_n C.1 C.2.1 dX2_joinRow_52 rfl (lv_at hl 2 rfl) ?_
    refine lv_iload_n C.1 C.2.1 dX2_joinRow_53 rfl (lv_at hl 3 rfl) ?_
    refine lv_iload C.1 C.2.1 dX2_joinRow_54 (lv_at hl 0 rfl) ?_
    refine lv_iload C.1 C.2.1 dX2_joinRow_56 (lv_at hl 5 rfl) ?_
    refine lv_iconst (v := nI 1) C.1 C.2.1 dX2_joinRow_58 (by decide) ?_
    refine lv_iadd C.1 C.2.1 dX2_joinRow_59 ?_
    refine x_toi (nI_add 3 1) ?_
    refine x_ci (w' := wX G a S ((tS A9.1 11 (rw A9.2.2.1))) L ((tS F 6 (nI A9.2.1))) bs) (va_runS (As := [.ref (a 6), .ref (a 1), .int (nI f), .int (nI (f + ((t - f + 1) / 2))), .int (nI 4)]) (rest := []) (x_fix C hml) (c_X2_joinRow_0 l G a S T L F bs ((srtF (befB (kA S (((4 - 1) % 2 == 0))) (kB S (((4 - 1) % 2 == 0)))) f (t - (f + 1)) (f + 1) g)) n f (f + ((t - f + 1) / 2)) A9 hg1 (by omega) (by omega) (by omega) k1 hA9 _) (cwS 5 C.2.2.2.1 gX2_joinRow_X2_joinRow rfl rfl rfl (by decide +kernel) ⟨Nat.le_of_ble_eq_true rfl, Nat.le_of_ble_eq_true rfl⟩) (x_ps C hH) rfl rfl hl.1 rfl (lv_room (Nat.le_of_ble_eq_true rfl)) dX2_joinRow_60 ⟨Nat.le_of_ble_eq_true rfl, Nat.le_of_ble_eq_true rfl⟩) hH hA (fun H locs hH => ?_)
    refine lv_istore (lv' := [(6, .int (nI A9.2.2.2)), (5, .int (nI (f + ((t - f + 1) / 2)))), (0, .ref (a 6)), (1, .ref (a 1)), (2, .int (nI f)), (3, .int (nI t)), (4, .int (nI 3))]) C.1 C.2.1 dX2_joinRow_63 hl (by decide) rfl (fun ls hl => ?_)
    refine lv_aload_n C.1 C.2.1 dX2_joinRow_65 rfl (lv_at hl 2 rfl) ?_
    refine lv_aload_n C.1 C.2.1 dX2_joinRow_66 rfl (lv_at hl 3 rfl) ?_
    refine lv_iload C.1 C.2.1 dX2_joinRow_67 (lv_at hl 1 rfl) ?_
    refine lv_iload_n C.1 C.2.1 dX2_joinRow_69 rfl (lv_at hl 5 rfl) ?_
    refine lv_iload C.1 C.2.1 dX2_joinRow_70 (lv_at hl 6 rfl) ?_
    refine lv_iconst (v := nI 1) C.1 C.2.1 dX2_joinRow_72 (by decide) ?_
    refine lv_iadd C.1 C.2.1 dX2_joinRow_73 ?_
    refine x_toi (nI_add 3 1) ?_
    refine x_ci (w' := wX G a S ((tS B9.1 11 (rw B9.2.2.1))) L ((tS F 6 (nI B9.2.1))) bs) (va_runS (As := [.ref (a 6), .ref (a 1), .int (nI (f + ((t - f + 1) / 2))), .int (nI t), .int (nI 4)]) (rest := []) (x_fix C hml) (c_X2_joinRow_0 l G a S A9.1 L F bs A9.2.2.1 A9.2.1 (f + ((t - f + 1) / 2)) t B9 hg2 (by omega) (by omega) (by omega) k2 hB9 _) (cwS 5 C.2.2.2.1 gX2_joinRow_X2_joinRow rfl rfl rfl (by decide +kernel) ⟨Nat.le_of_ble_eq_true rfl, Nat.le_of_ble_eq_true rfl⟩) (x_ps C hH) rfl rfl hl.1 rfl (lv_room (Nat.le_of_ble_eq_true rfl)) dX2_joinRow_74 ⟨Nat.le_of_ble_eq_true rfl, Nat.le_of_ble_eq_true rfl⟩) hH hA (fun H locs hH => ?_)
    refine lv_istore (lv' := [(7, .int (nI B9.2.2.2)), (6, .int (nI A9.2.2.2)), (5, .int (nI (f + ((t - f + 1) / 2)))), (0, .ref (a 6)), (1, .ref (a 1)), (2, .int (nI f)), (3, .int (nI t)), (4, .int (nI 3))]) C.1 C.2.1 dX2_joinRow_77 hl (by decide) rfl (fun ls hl => ?_)
    refine lv_aload_n C.1 C.2.1 dX2_joinRow_79 rfl (lv_at hl 3 rfl) ?_
    refine lv_iload C.1 C.2.1 dX2_joinRow_80 (lv_at hl 1 rfl) ?_
    refine lv_iload C.1 C.2.1 dX2_joinRow_82 (lv_at hl 0 rfl) ?_
    refine x_ci (w' := wX G a S ((tS (joinT B9.1 B9.2.1 A9.2.2.2 B9.2.2.2) 11 (rw B9.2.2.1))) L ((tS F 6 (nI (B9.2.1 + 1)))) bs) (va_runV (As := [.int (nI A9.2.2.2), .int (nI B9.2.2.2)]) (rest := []) (x_fix C hml) (c_X2_joinTwo l G a S ((tS B9.1 11 (rw B9.2.2.1))) L ((tS F 6 (nI B9.2.1))) bs A9.2.2.2 B9.2.2.2 B9.2.1 rfl (by omega) (by omega) (by omega) (by omega) _) (cwV 2 C.2.2.2.1 gX2_joinRow_X2_joinTwo rfl rfl rfl (by decide +kernel) ⟨Nat.le_of_ble_eq_true rfl, Nat.le_of_ble_eq_true rfl⟩) (x_pv C hH rfl gX_6 rfl rfl) rfl rfl hl.1 rfl (lv_room (Nat.le_of_ble_eq_true rfl)) dX2_joinRow_84 ⟨Nat.le_of_ble_eq_true rfl, Nat.le_of_ble_eq_true rfl⟩) hH hA (fun H locs hH => ?_)
    have hH := x_eqw (w' := wX G a S ((tS Z.1 11 (rw Z.2.2.1))) L ((tS F 6 (nI Z.2.1))) bs) (by rw [← hZ]; first | done | rfl) hH
    exact hE _ _ _ _ _ hH (by rw [← hZ]) (rfl) dX2_joinRow_87
set_option maxHeartbeats 400000 in
set_option maxRecDepth 100000 in
theorem c_X2_joinRow_2 (l : Launch) (G : xG) (a : Nat → Nat) (S T : Nat → Nat → Int32) (L : Nat → Nat → Int64) (F : Nat → Int32) (bs : Int64) (g : Nat → Nat) (n f t : Nat) (Z : (Nat → Nat → Int32) × Nat × (Nat → Nat) × Nat) (hg : ∀ k, g k < 10) (hft : f < t) (ht : t ≤ 10) (hsz : t - f ≤ 4) (hok : jrOk S 2 T n g f t) (hZ : jrF S 2 T n g f t = Z) : xMi l yX2_joinRow wsX2_joinRow { frames := 5, cells := 0, slots := 0, locals := 111 } [.ref (a 6), .ref (a 1), .int (nI f), .int (nI t), .int (nI 2)] G (wX G a S ((tS T 11 (rw g))) L ((tS F 6 (nI n))) bs) (nI Z.2.2.2) (wX G a S ((tS Z.1 11 (rw Z.2.2.1))) L ((tS F 6 (nI Z.2.1))) bs) 0 0 := by
  refine x_ofi (cc := cX2_joinRow) (maxL := 8) (ty := .int) (by decide) rfl (Nat.le_of_ble_eq_true rfl) ?_
  intro p e s m args below meth c ls A Q C hml hA hH hl hE
  have hl : lv_has ls 8 [(0, .ref (a 6)), (1, .ref (a 1)), (2, .int (nI f)), (3, .int (nI t)), (4, .int (nI 2))] := hl
  have inX2 : ∀ w ∈ wsX20, w ∈ wsX2_joinRow := fun _ h => (List.mem_cons_of_mem _ (List.mem_append_left _ (List.mem_append_right _ h)))
  refine lv_iload_n C.1 C.2.1 dX2_joinRow_0 rfl (lv_at hl 3 rfl) ?_
  refine lv_iload_n C.1 C.2.1 dX2_joinRow_1 rfl (lv_at hl 2 rfl) ?_
  refine lv_isub C.1 C.2.1 dX2_joinRow_2 ?_
  refine x_toi (pk_sub (a := t) (b := f) (by omega)) ?_
  refine lv_iconst (v := nI 2) C.1 C.2.1 dX2_joinRow_3 (by decide) ?_
  refine lv_icmp_lt (tgt := 14) C.1 C.2.1 dX2_joinRow_4 (by decide) (fun c_1 => ?_) (fun c_1 => ?_)
  · rw [nI_ltI (a := t - f) (b := 2) (by omega) (by omega)] at c_1
    refine lv_aload_n C.1 C.2.1 dX2_joinRow_14 rfl (lv_at hl 0 rfl) ?_
    refine x_get (C := RX2) (T := TX2) (N := 14) (v := .ref (a 18)) C inX2 hH 6 gX_6 rfl 11 (by decide) rfl rfl 1 rfl dX2_joinRow_15 ?_
    refine lv_iload_n C.1 C.2.1 dX2_joinRow_18 rfl (lv_at hl 2 rfl) ?_
    refine x_iald (f := rw g) (j := f) (v := nI (g f)) C hH 18 gX_18 (by omega) (by decide) (rfl) dX2_joinRow_19 ?_
    have hH := x_eqw (w' := wX G a S ((tS Z.1 11 (rw Z.2.2.1))) L ((tS F 6 (nI Z.2.1))) bs) (by rw [← hZ, jrF, if_pos c_1]; first | done | rfl) hH
    exact hE _ _ _ _ _ hH (by rw [← hZ, jrF, if_pos c_1]) (rfl) dX2_joinRow_20
  · rw [nI_ltI (a := t - f) (b := 2) (by omega) (by omega)] at c_1
    obtain ⟨A9, hA9⟩ : ∃ z, jrF S 1 T n (srt1 S 2 f t g) f (f + (t - f + 1) / 2) = z := ⟨_, rfl⟩
    obtain ⟨B9, hB9⟩ : ∃ z, jrF S 1 A9.1 A9.2.1 A9.2.2.1 (f + (t - f + 1) / 2) t = z := ⟨_, rfl⟩
    obtain ⟨k1, k2, k3, k4, k5, k6⟩ := (Or.resolve_left hok c_1) A9 B9 hA9 hB9
    have hg1 : ∀ k, srt1 S 2 f t g k < 10 := srtF_lt hg
    have hg2 : ∀ k, A9.2.2.1 k < 10 := hA9 ▸ jrF_lt hg1
    have hZ : (joinT B9.1 B9.2.1 A9.2.2.2 B9.2.2.2, B9.2.1 + 1, B9.2.2.1, B9.2.1) = Z := by rw [← hZ, jrF, if_neg c_1]; simp only [hA9, hB9]
    refine lv_iload C.1 C.2.1 dX2_joinRow_7 (lv_at hl 4 rfl) ?_
    refine lv_bipush (v := nI 10) C.1 C.2.1 dX2_joinRow_9 (by decide) ?_
    refine lv_icmp_lt (tgt := 21) C.1 C.2.1 dX2_joinRow_11 (by decide) (fun _ => ?_) (fun c_2 => absurd (by decide) c_2)
    refine lv_aload_n C.1 C.2.1 dX2_joinRow_21 rfl (lv_at hl 0 rfl) ?_
    refine lv_aload_n C.1 C.2.1 dX2_joinRow_22 rfl (lv_at hl 1 rfl) ?_
    refine lv_iload_n C.1 C.2.1 dX2_joinRow_23 rfl (lv_at hl 2 rfl) ?_
    refine lv_iload_n C.1 C.2.1 dX2_joinRow_24 rfl (lv_at hl 3 rfl) ?_
    refine lv_iload C.1 C.2.1 dX2_joinRow_25 (lv_at hl 4 rfl) ?_
    refine lv_iconst (v := nI 2) C.1 C.2.1 dX2_joinRow_27 (by decide) ?_
    refine lv_irem C.1 C.2.1 dX2_joinRow_28 (by decide) ?_
    refine x_toi (y := nI 0) (by decide) ?_
    refine lv_if_ne (tgt := 36) C.1 C.2.1 dX2_joinRow_29 (by decide) (fun c_3 => absurd (by decide) c_3) (fun _ => ?_)
    refine lv_iconst (v := nI 1) C.1 C.2.1 dX2_joinRow_32 (by decide) ?_
    refine x_toi (show nI 1 = xb (((4 - 2) % 2 == 0) = true) by decide) ?_
    refine lv_goto (tgt := 37) C.1 C.2.1 dX2_joinRow_33 (by decide) ?_
    refine x_cv (w' := wX G a S ((tS T 11 (rw (srtF (befB (kA S (((4 - 2) % 2 == 0))) (kB S (((4 - 2) % 2 == 0)))) f (t - (f + 1)) (f + 1) g)))) L ((tS F 6 (nI n))) bs) (va_runV (As := [.ref (a 1), .int (nI f), .int (nI t), .int (xb (((4 - 2) % 2 == 0) = true))]) (rest := []) (x_fix C hml) (c_X2_orderRow l G a S T L ((tS F 6 (nI n))) bs g f t (((4 - 2) % 2 == 0)) (hg) (by omega) (by omega) _) (cwV 4 C.2.2.2.1 gX2_joinRow_X2_orderRow rfl rfl rfl (by decide +kernel) ⟨Nat.le_of_ble_eq_true rfl, Nat.le_of_ble_eq_true rfl⟩) (x_pv C hH rfl gX_6 rfl rfl) rfl rfl hl.1 rfl (lv_room (Nat.le_of_ble_eq_true rfl)) dX2_joinRow_37 ⟨Nat.le_of_ble_eq_true rfl, Nat.le_of_ble_eq_true rfl⟩) hH hA (fun H locs hH => ?_)
    refine lv_iload_n C.1 C.2.1 dX2_joinRow_40 rfl (lv_at hl 2 rfl) ?_
    refine lv_iload_n C.1 C.2.1 dX2_joinRow_41 rfl (lv_at hl 3 rfl) ?_
    refine lv_iload_n C.1 C.2.1 dX2_joinRow_42 rfl (lv_at hl 2 rfl) ?_
    refine lv_isub C.1 C.2.1 dX2_joinRow_43 ?_
    refine x_toi (pk_sub (a := t) (b := f) (by omega)) ?_
    refine lv_iconst (v := nI 1) C.1 C.2.1 dX2_joinRow_44 (by decide) ?_
    refine lv_iadd C.1 C.2.1 dX2_joinRow_45 ?_
    refine x_toi (nI_add (t - f) 1) ?_
    refine lv_iconst (v := nI 2) C.1 C.2.1 dX2_joinRow_46 (by decide) ?_
    refine lv_idiv C.1 C.2.1 dX2_joinRow_47 (by decide) ?_
    refine x_toi (pk_div (a := t - f + 1) (d := 2) (by omega) (by decide) (by decide)) ?_
    refine lv_iadd C.1 C.2.1 dX2_joinRow_48 ?_
    refine x_toi (nI_add f ((t - f + 1) / 2)) ?_
    refine lv_istore (lv' := [(5, .int (nI (f + ((t - f + 1) / 2)))), (0, .ref (a 6)), (1, .ref (a 1)), (2, .int (nI f)), (3, .int (nI t)), (4, .int (nI 2))]) C.1 C.2.1 dX2_joinRow_49 hl (by decide) rfl (fun ls hl => ?_)
    refine lv_aload_n C.1 C.2.1 dX2_joinRow_51 rfl (lv_at hl 1 rfl) ?_
    refine lv_aload_n C.1 C.2.1 dX2_joinRow_52 rfl (lv_at hl 2 rfl) ?_
    refine lv_iload_n C.1 C.2.1 dX2_joinRow_53 rfl (lv_at hl 3 rfl) ?_
    refine lv_iload C.1 C.2.1 dX2_joinRow_54 (lv_at hl 0 rfl) ?_
    refine lv_iload C.1 C.2.1 dX2_joinRow_56 (lv_at hl 5 rfl) ?_
    refine lv_iconst (v := nI 1) C.1 C.2.1 dX2_joinRow_58 (by decide) ?_
    refine lv_iadd C.1 C.2.1 dX2_joinRow_59 ?_
    refine x_toi (nI_add 2 1) ?_
    refine x_ci (w' := wX G a S ((tS A9.1 11 (rw A9.2.2.1))) L ((tS F 6 (nI A9.2.1))) bs) (va_runS (As := [.ref (a 6), .ref (a 1), .int (nI f), .int (nI (f + ((t - f + 1) / 2))), .int (nI 3)]) (rest := []) (x_fix C hml) (c_X2_joinRow_1 l G a S T L F bs ((srtF (befB (kA S (((4 - 2) % 2 == 0))) (kB S (((4 - 2) % 2 == 0)))) f (t - (f + 1)) (f + 1) g)) n f (f + ((t - f + 1) / 2)) A9 hg1 (by omega) (by omega) (by omega) k1 hA9 _) (cwS 5 C.2.2.2.1 gX2_joinRow_X2_joinRow rfl rfl rfl (by decide +kernel) ⟨Nat.le_of_ble_eq_true rfl, Nat.le_of_ble_eq_true rfl⟩) (x_ps C hH) rfl rfl hl.1 rfl (lv_room (Nat.le_of_ble_eq_true rfl)) dX2_joinRow_60 ⟨Nat.le_of_ble_eq_true rfl, Nat.le_of_ble_eq_true rfl⟩) hH hA (fun H locs hH => ?_)
    refine lv_istore (lv' := [(6, .int (nI A9.2.2.2)), (5, .int (nI (f + ((t - f + 1) / 2)))), (0, .ref (a 6)), (1, .ref (a 1)), (2, .int (nI f)), (3, .int (nI t)), (4, .int (nI 2))]) C.1 C.2.1 dX2_joinRow_63 hl (by decide) rfl (fun ls hl => ?_)
    refine lv_aload_n C.1 C.2.1 dX2_joinRow_65 rfl (lv_at hl 2 rfl) ?_
    refine lv_aload_n C.1 C.2.1 dX2_joinRow_66 rfl (lv_at hl 3 rfl) ?_
    refine lv_iload C.1 C.2.1 dX2_joinRow_67 (lv_at hl 1 rfl) ?_
    refine lv_iload_n C.1 C.2.1 dX2_joinRow_69 rfl (lv_at hl 5 rfl) ?_
    refine lv_iload C.1 C.2.1 dX2_joinRow_70 (lv_at hl 6 rfl) ?_
    refine lv_iconst (v := nI 1) C.1 C.2.1 dX2_joinRow_72 (by decide) ?_
    refine lv_iadd C.1 C.2.1 dX2_joinRow_73 ?_
    refine x_toi (nI_add 2 1) ?_
    refine x_ci (w' := wX G a S ((tS B9.1 11 (rw B9.2.2.1))) L ((tS F 6 (nI B9.2.1))) bs) (va_runS (As := [.ref (a 6), .ref (a 1), .int (nI (f + ((t - f + 1) / 2))), .int (nI t), .int (nI 3)]) (rest := []) (x_fix C hml) (c_X2_joinRow_1 l G a S A9.1 L F bs A9.2.2.1 A9.2.1 (f + ((t - f + 1) / 2)) t B9 hg2 (by omega) (by omega) (by omega) k2 hB9 _) (cwS 5 C.2.2.2.1 gX2_joinRow_X2_joinRow rfl rfl rfl (by decide +kernel) ⟨Nat.le_of_ble_eq_true rfl, Nat.le_of_ble_eq_true rfl⟩) (x_ps C hH) rfl rfl hl.1 rfl (lv_room (Nat.le_of_ble_eq_true rfl)) dX2_joinRow_74 ⟨Nat.le_of_ble_eq_true rfl, Nat.le_of_ble_eq_true rfl⟩) hH hA (fun H locs hH => ?_)
    refine lv_istore (lv' := [(7, .int (nI B9.2.2.2)), (6, .int (nI A9.2.2.2)), (5, .int (nI (f + ((t - f + 1) / 2)))), (0, .ref (a 6)), (1, .ref (a 1)), (2, .int (nI f)), (3, .int (nI t)), (4, .int (nI 2))]) C.1 C.2.1 dX2_joinRow_77 hl (by decide) rfl (fun ls hl => ?_)
    refine lv_aload_n C.1 C.2.1 dX2_joinRow_79 rfl (lv_at hl 3 rfl) ?_
    refine lv_iload C.1 C.2.1 dX2_joinRow_80 (lv_at hl 1 rfl) ?_
    refine lv_iload C.1 C.2.1 dX2_joinRow_82 (lv_at hl 0 rfl) ?_
    refine x_ci (w' := wX G a S ((tS (joinT B9.1 B9.2.1 A9.2.2.2 B9.2.2.2) 11 (rw B9.2.2.1))) L ((tS F 6 (nI (B9.2.1 + 1)))) bs) (va_runV (As := [.int (nI A9.2.2.2), .int (nI B9.2.2.2)]) (rest := []) (x_fix C hml) (c_X2_joinTwo l G a S ((tS B9.1 11 (rw B9.2.2.1))) L ((tS F 6 (nI B9.2.1))) bs A9.2.2.2 B9.2.2.2 B9.2.1 rfl (by omega) (by omega) (by omega) (by omega) _) (cwV 2 C.2.2.2.1 gX2_joinRow_X2_joinTwo rfl rfl rfl (by decide +kernel) ⟨Nat.le_of_ble_eq_true rfl, Nat.le_of_ble_eq_true rfl⟩) (x_pv C hH rfl gX_6 rfl rfl) rfl rfl hl.1 rfl (lv_room (Nat.le_of_ble_eq_true rfl)) dX2_joinRow_84 ⟨Nat.le_of_ble_eq_true rfl, Nat.le_of_ble_eq_true rfl⟩) hH hA (fun H locs hH => ?_)
    have hH := x_eqw (w' := wX G a S ((tS Z.1 11 (rw Z.2.2.1))) L ((tS F 6 (nI Z.2.1))) bs) (by rw [← hZ]; first | done | rfl) hH
    exact hE _ _ _ _ _ hH (by rw [← hZ]) (rfl) dX2_joinRow_87
set_option maxHeartbeats 400000 in
set_option maxRecDepth 100000 in
theorem c_X2_joinRow_3 (l : Launch) (G : xG) (a : Nat → Nat) (S T : Nat → Nat → Int32) (L : Nat → Nat → Int64) (F : Nat → Int32) (bs : Int64) (g : Nat → Nat) (n f t : Nat) (Z : (Nat → Nat → Int32) × Nat × (Nat → Nat) × Nat) (hg : ∀ k, g k < 10) (hft : f < t) (ht : t ≤ 10) (hsz : t - f ≤ 8) (hok : jrOk S 3 T n g f t) (hZ : jrF S 3 T n g f t = Z) : xMi l yX2_joinRow wsX2_joinRow { frames := 6, cells := 0, slots := 0, locals := 138 } [.ref (a 6), .ref (a 1), .int (nI f), .int (nI t), .int (nI 1)] G (wX G a S ((tS T 11 (rw g))) L ((tS F 6 (nI n))) bs) (nI Z.2.2.2) (wX G a S ((tS Z.1 11 (rw Z.2.2.1))) L ((tS F 6 (nI Z.2.1))) bs) 0 0 := by
  refine x_ofi (cc := cX2_joinRow) (maxL := 8) (ty := .int) (by decide) rfl (Nat.le_of_ble_eq_true rfl) ?_
  intro p e s m args below meth c ls A Q C hml hA hH hl hE
  have hl : lv_has ls 8 [(0, .ref (a 6)), (1, .ref (a 1)), (2, .int (nI f)), (3, .int (nI t)), (4, .int (nI 1))] := hl
  have inX2 : ∀ w ∈ wsX20, w ∈ wsX2_joinRow := fun _ h => (List.mem_cons_of_mem _ (List.mem_append_left _ (List.mem_append_right _ h)))
  refine lv_iload_n C.1 C.2.1 dX2_joinRow_0 rfl (lv_at hl 3 rfl) ?_
  refine lv_iload_n C.1 C.2.1 dX2_joinRow_1 rfl (lv_at hl 2 rfl) ?_
  refine lv_isub C.1 C.2.1 dX2_joinRow_2 ?_
  refine x_toi (pk_sub (a := t) (b := f) (by omega)) ?_
  refine lv_iconst (v := nI 2) C.1 C.2.1 dX2_joinRow_3 (by decide) ?_
  refine lv_icmp_lt (tgt := 14) C.1 C.2.1 dX2_joinRow_4 (by decide) (fun c_1 => ?_) (fun c_1 => ?_)
  · rw [nI_ltI (a := t - f) (b := 2) (by omega) (by omega)] at c_1
    refine lv_aload_n C.1 C.2.1 dX2_joinRow_14 rfl (lv_at hl 0 rfl) ?_
    refine x_get (C := RX2) (T := TX2) (N := 14) (v := .ref (a 18)) C inX2 hH 6 gX_6 rfl 11 (by decide) rfl rfl 1 rfl dX2_joinRow_15 ?_
    refine lv_iload_n C.1 C.2.1 dX2_joinRow_18 rfl (lv_at hl 2 rfl) ?_
    refine x_iald (f := rw g) (j := f) (v := nI (g f)) C hH 18 gX_18 (by omega) (by decide) (rfl) dX2_joinRow_19 ?_
    have hH := x_eqw (w' := wX G a S ((tS Z.1 11 (rw Z.2.2.1))) L ((tS F 6 (nI Z.2.1))) bs) (by rw [← hZ, jrF, if_pos c_1]; first | done | rfl) hH
    exact hE _ _ _ _ _ hH (by rw [← hZ, jrF, if_pos c_1]) (rfl) dX2_joinRow_20
  · rw [nI_ltI (a := t - f) (b := 2) (by omega) (by omega)] at c_1
    obtain ⟨A9, hA9⟩ : ∃ z, jrF S 2 T n (srt1 S 3 f t g) f (f + (t - f + 1) / 2) = z := ⟨_, rfl⟩
    obtain ⟨B9, hB9⟩ : ∃ z, jrF S 2 A9.1 A9.2.1 A9.2.2.1 (f + (t - f + 1) / 2) t = z := ⟨_, rfl⟩
    obtain ⟨k1, k2, k3, k4, k5, k6⟩ := (Or.resolve_left hok c_1) A9 B9 hA9 hB9
    have hg1 : ∀ k, srt1 S 3 f t g k < 10 := srtF_lt hg
    have hg2 : ∀ k, A9.2.2.1 k < 10 := hA9 ▸ jrF_lt hg1
    have hZ : (joinT B9.1 B9.2.1 A9.2.2.2 B9.2.2.2, B9.2.1 + 1, B9.2.2.1, B9.2.1) = Z := by rw [← hZ, jrF, if_neg c_1]; simp only [hA9, hB9]
    refine lv_iload C.1 C.2.1 dX2_joinRow_7 (lv_at hl 4 rfl) ?_
    refine lv_bipush (v := nI 10) C.1 C.2.1 dX2_joinRow_9 (by decide) ?_
    refine lv_icmp_lt (tgt := 21) C.1 C.2.1 dX2_joinRow_11 (by decide) (fun _ => ?_) (fun c_2 => absurd (by decide) c_2)
    refine lv_aload_n C.1 C.2.1 dX2_joinRow_21 rfl (lv_at hl 0 rfl) ?_
    refine lv_aload_n C.1 C.2.1 dX2_joinRow_22 rfl (lv_at hl 1 rfl) ?_
    refine lv_iload_n C.1 C.2.1 dX2_joinRow_23 rfl (lv_at hl 2 rfl) ?_
    refine lv_iload_n C.1 C.2.1 dX2_joinRow_24 rfl (lv_at hl 3 rfl) ?_
    refine lv_iload C.1 C.2.1 dX2_joinRow_25 (lv_at hl 4 rfl) ?_
    refine lv_iconst (v := nI 2) C.1 C.2.1 dX2_joinRow_27 (by decide) ?_
    refine lv_irem C.1 C.2.1 dX2_joinRow_28 (by decide) ?_
    refine x_toi (y := nI 1) (by decide) ?_
    refine lv_if_ne (tgt := 36) C.1 C.2.1 dX2_joinRow_29 (by decide) (fun _ => ?_) (fun c_3 => absurd (c_3) (by decide))
    refine lv_iconst (v := nI 0) C.1 C.2.1 dX2_joinRow_36 (by decide) ?_
    refine x_toi (show nI 0 = xb (((4 - 3) % 2 == 0) = true) by decide) ?_
    refine x_cv (w' := wX G a S ((tS T 11 (rw (srtF (befB (kA S (((4 - 3) % 2 == 0))) (kB S (((4 - 3) % 2 == 0)))) f (t - (f + 1)) (f + 1) g)))) L ((tS F 6 (nI n))) bs) (va_runV (As := [.ref (a 1), .int (nI f), .int (nI t), .int (xb (((4 - 3) % 2 == 0) = true))]) (rest := []) (x_fix C hml) (c_X2_orderRow l G a S T L ((tS F 6 (nI n))) bs g f t (((4 - 3) % 2 == 0)) (hg) (by omega) (by omega) _) (cwV 4 C.2.2.2.1 gX2_joinRow_X2_orderRow rfl rfl rfl (by decide +kernel) ⟨Nat.le_of_ble_eq_true rfl, Nat.le_of_ble_eq_true rfl⟩) (x_pv C hH rfl gX_6 rfl rfl) rfl rfl hl.1 rfl (lv_room (Nat.le_of_ble_eq_true rfl)) dX2_joinRow_37 ⟨Nat.le_of_ble_eq_true rfl, Nat.le_of_ble_eq_true rfl⟩) hH hA (fun H locs hH => ?_)
    refine lv_iload_n C.1 C.2.1 dX2_joinRow_40 rfl (lv_at hl 2 rfl) ?_
    refine lv_iload_n C.1 C.2.1 dX2_joinRow_41 rfl (lv_at hl 3 rfl) ?_
    refine lv_iload_n C.1 C.2.1 dX2_joinRow_42 rfl (lv_at hl 2 rfl) ?_
    refine lv_isub C.1 C.2.1 dX2_joinRow_43 ?_
    refine x_toi (pk_sub (a := t) (b := f) (by omega)) ?_
    refine lv_iconst (v := nI 1) C.1 C.2.1 dX2_joinRow_44 (by decide) ?_
    refine lv_iadd C.1 C.2.1 dX2_joinRow_45 ?_
    refine x_toi (nI_add (t - f) 1) ?_
    refine lv_iconst (v := nI 2) C.1 C.2.1 dX2_joinRow_46 (by decide) ?_
    refine lv_idiv C.1 C.2.1 dX2_joinRow_47 (by decide) ?_
    refine x_toi (pk_div (a := t - f + 1) (d := 2) (by omega) (by decide) (by decide)) ?_
    refine lv_iadd C.1 C.2.1 dX2_joinRow_48 ?_
    refine x_toi (nI_add f ((t - f + 1) / 2)) ?_
    refine lv_istore (lv' := [(5, .int (nI (f + ((t - f + 1) / 2)))), (0, .ref (a 6)), (1, .ref (a 1)), (2, .int (nI f)), (3, .int (nI t)), (4, .int (nI 1))]) C.1 C.2.1 dX2_joinRow_49 hl (by decide) rfl (fun ls hl => ?_)
    refine lv_aload_n C.1 C.2.1 dX2_joinRow_51 rfl (lv_at hl 1 rfl) ?_
    refine lv_aload_n C.1 C.2.1 dX2_joinRow_52 rfl (lv_at hl 2 rfl) ?_
    refine lv_iload_n C.1 C.2.1 dX2_joinRow_53 rfl (lv_at hl 3 rfl) ?_
    refine lv_iload C.1 C.2.1 dX2_joinRow_54 (lv_at hl 0 rfl) ?_
    refine lv_iload C.1 C.2.1 dX2_joinRow_56 (lv_at hl 5 rfl) ?_
    refine lv_iconst (v := nI 1) C.1 C.2.1 dX2_joinRow_58 (by decide) ?_
    refine lv_iadd C.1 C.2.1 dX2_joinRow_59 ?_
    refine x_toi (nI_add 1 1) ?_
    refine x_ci (w' := wX G a S ((tS A9.1 11 (rw A9.2.2.1))) L ((tS F 6 (nI A9.2.1))) bs) (va_runS (As := [.ref (a 6), .ref (a 1), .int (nI f), .int (nI (f + ((t - f + 1) / 2))), .int (nI 2)]) (rest := []) (x_fix C hml) (c_X2_joinRow_2 l G a S T L F bs ((srtF (befB (kA S (((4 - 3) % 2 == 0))) (kB S (((4 - 3) % 2 == 0)))) f (t - (f + 1)) (f + 1) g)) n f (f + ((t - f + 1) / 2)) A9 hg1 (by omega) (by omega) (by omega) k1 hA9 _) (cwS 5 C.2.2.2.1 gX2_joinRow_X2_joinRow rfl rfl rfl (by decide +kernel) ⟨Nat.le_of_ble_eq_true rfl, Nat.le_of_ble_eq_true rfl⟩) (x_ps C hH) rfl rfl hl.1 rfl (lv_room (Nat.le_of_ble_eq_true rfl)) dX2_joinRow_60 ⟨Nat.le_of_ble_eq_true rfl, Nat.le_of_ble_eq_true rfl⟩) hH hA (fun H locs hH => ?_)
    refine lv_istore (lv' := [(6, .int (nI A9.2.2.2)), (5, .int (nI (f + ((t - f + 1) / 2)))), (0, .ref (a 6)), (1, .ref (a 1)), (2, .int (nI f)), (3, .int (nI t)), (4, .int (nI 1))]) C.1 C.2.1 dX2_joinRow_63 hl (by decide) rfl (fun ls hl => ?_)
    refine lv_aload_n C.1 C.2.1 dX2_joinRow_65 rfl (lv_at hl 2 rfl) ?_
    refine lv_aload_n C.1 C.2.1 dX2_joinRow_66 rfl (lv_at hl 3 rfl) ?_
    refine lv_iload C.1 C.2.1 dX2_joinRow_67 (lv_at hl 1 rfl) ?_
    refine lv_iload_n C.1 C.2.1 dX2_joinRow_69 rfl (lv_at hl 5 rfl) ?_
    refine lv_iload C.1 C.2.1 dX2_joinRow_70 (lv_at hl 6 rfl) ?_
    refine lv_iconst (v := nI 1) C.1 C.2.1 dX2_joinRow_72 (by decide) ?_
    refine lv_iadd C.1 C.2.1 dX2_joinRow_73 ?_
    refine x_toi (nI_add 1 1) ?_
    refine x_ci (w' := wX G a S ((tS B9.1 11 (rw B9.2.2.1))) L ((tS F 6 (nI B9.2.1))) bs) (va_runS (As := [.ref (a 6), .ref (a 1), .int (nI (f + ((t - f + 1) / 2))), .int (nI t), .int (nI 2)]) (rest := []) (x_fix C hml) (c_X2_joinRow_2 l G a S A9.1 L F bs A9.2.2.1 A9.2.1 (f + ((t - f + 1) / 2)) t B9 hg2 (by omega) (by omega) (by omega) k2 hB9 _) (cwS 5 C.2.2.2.1 gX2_joinRow_X2_joinRow rfl rfl rfl (by decide +kernel) ⟨Nat.le_of_ble_eq_true rfl, Nat.le_of_ble_eq_true rfl⟩) (x_ps C hH) rfl rfl hl.1 rfl (lv_room (Nat.le_of_ble_eq_true rfl)) dX2_joinRow_74 ⟨Nat.le_of_ble_eq_true rfl, Nat.le_of_ble_eq_true rfl⟩) hH hA (fun H locs hH => ?_)
    refine lv_istore (lv' := [(7, .int (nI B9.2.2.2)), (6, .int (nI A9.2.2.2)), (5, .int (nI (f + ((t - f + 1) / 2)))), (0, .ref (a 6)), (1, .ref (a 1)), (2, .int (nI f)), (3, .int (nI t)), (4, .int (nI 1))]) C.1 C.2.1 dX2_joinRow_77 hl (by decide) rfl (fun ls hl => ?_)
    refine lv_aload_n C.1 C.2.1 dX2_joinRow_79 rfl (lv_at hl 3 rfl) ?_
    refine lv_iload C.1 C.2.1 dX2_joinRow_80 (lv_at hl 1 rfl) ?_
    refine lv_iload C.1 C.2.1 dX2_joinRow_82 (lv_at hl 0 rfl) ?_
    refine x_ci (w' := wX G a S ((tS (joinT B9.1 B9.2.1 A9.2.2.2 B9.2.2.2) 11 (rw B9.2.2.1))) L ((tS F 6 (nI (B9.2.1 + 1)))) bs) (va_runV (As := [.int (nI A9.2.2.2), .int (nI B9.2.2.2)]) (rest := []) (x_fix C hml) (c_X2_joinTwo l G a S ((tS B9.1 11 (rw B9.2.2.1))) L ((tS F 6 (nI B9.2.1))) bs A9.2.2.2 B9.2.2.2 B9.2.1 rfl (by omega) (by omega) (by omega) (by omega) _) (cwV 2 C.2.2.2.1 gX2_joinRow_X2_joinTwo rfl rfl rfl (by decide +kernel) ⟨Nat.le_of_ble_eq_true rfl, Nat.le_of_ble_eq_true rfl⟩) (x_pv C hH rfl gX_6 rfl rfl) rfl rfl hl.1 rfl (lv_room (Nat.le_of_ble_eq_true rfl)) dX2_joinRow_84 ⟨Nat.le_of_ble_eq_true rfl, Nat.le_of_ble_eq_true rfl⟩) hH hA (fun H locs hH => ?_)
    have hH := x_eqw (w' := wX G a S ((tS Z.1 11 (rw Z.2.2.1))) L ((tS F 6 (nI Z.2.1))) bs) (by rw [← hZ]; first | done | rfl) hH
    exact hE _ _ _ _ _ hH (by rw [← hZ]) (rfl) dX2_joinRow_87
set_option maxHeartbeats 400000 in
set_option maxRecDepth 100000 in
theorem c_X2_joinRow_4 (l : Launch) (G : xG) (a : Nat → Nat) (S T : Nat → Nat → Int32) (L : Nat → Nat → Int64) (F : Nat → Int32) (bs : Int64) (g : Nat → Nat) (n f t : Nat) (Z : (Nat → Nat → Int32) × Nat × (Nat → Nat) × Nat) (hg : ∀ k, g k < 10) (hft : f < t) (ht : t ≤ 10) (hsz : t - f ≤ 16) (hok : jrOk S 4 T n g f t) (hZ : jrF S 4 T n g f t = Z) : xMi l yX2_joinRow wsX2_joinRow { frames := 7, cells := 0, slots := 0, locals := 165 } [.ref (a 6), .ref (a 1), .int (nI f), .int (nI t), .int (nI 0)] G (wX G a S ((tS T 11 (rw g))) L ((tS F 6 (nI n))) bs) (nI Z.2.2.2) (wX G a S ((tS Z.1 11 (rw Z.2.2.1))) L ((tS F 6 (nI Z.2.1))) bs) 0 0 := by
  refine x_ofi (cc := cX2_joinRow) (maxL := 8) (ty := .int) (by decide) rfl (Nat.le_of_ble_eq_true rfl) ?_
  intro p e s m args below meth c ls A Q C hml hA hH hl hE
  have hl : lv_has ls 8 [(0, .ref (a 6)), (1, .ref (a 1)), (2, .int (nI f)), (3, .int (nI t)), (4, .int (nI 0))] := hl
  have inX2 : ∀ w ∈ wsX20, w ∈ wsX2_joinRow := fun _ h => (List.mem_cons_of_mem _ (List.mem_append_left _ (List.mem_append_right _ h)))
  refine lv_iload_n C.1 C.2.1 dX2_joinRow_0 rfl (lv_at hl 3 rfl) ?_
  refine lv_iload_n C.1 C.2.1 dX2_joinRow_1 rfl (lv_at hl 2 rfl) ?_
  refine lv_isub C.1 C.2.1 dX2_joinRow_2 ?_
  refine x_toi (pk_sub (a := t) (b := f) (by omega)) ?_
  refine lv_iconst (v := nI 2) C.1 C.2.1 dX2_joinRow_3 (by decide) ?_
  refine lv_icmp_lt (tgt := 14) C.1 C.2.1 dX2_joinRow_4 (by decide) (fun c_1 => ?_) (fun c_1 => ?_)
  · rw [nI_ltI (a := t - f) (b := 2) (by omega) (by omega)] at c_1
    refine lv_aload_n C.1 C.2.1 dX2_joinRow_14 rfl (lv_at hl 0 rfl) ?_
    refine x_get (C := RX2) (T := TX2) (N := 14) (v := .ref (a 18)) C inX2 hH 6 gX_6 rfl 11 (by decide) rfl rfl 1 rfl dX2_joinRow_15 ?_
    refine lv_iload_n C.1 C.2.1 dX2_joinRow_18 rfl (lv_at hl 2 rfl) ?_
    refine x_iald (f := rw g) (j := f) (v := nI (g f)) C hH 18 gX_18 (by omega) (by decide) (rfl) dX2_joinRow_19 ?_
    have hH := x_eqw (w' := wX G a S ((tS Z.1 11 (rw Z.2.2.1))) L ((tS F 6 (nI Z.2.1))) bs) (by rw [← hZ, jrF, if_pos c_1]; first | done | rfl) hH
    exact hE _ _ _ _ _ hH (by rw [← hZ, jrF, if_pos c_1]) (rfl) dX2_joinRow_20
  · rw [nI_ltI (a := t - f) (b := 2) (by omega) (by omega)] at c_1
    obtain ⟨A9, hA9⟩ : ∃ z, jrF S 3 T n (srt1 S 4 f t g) f (f + (t - f + 1) / 2) = z := ⟨_, rfl⟩
    obtain ⟨B9, hB9⟩ : ∃ z, jrF S 3 A9.1 A9.2.1 A9.2.2.1 (f + (t - f + 1) / 2) t = z := ⟨_, rfl⟩
    obtain ⟨k1, k2, k3, k4, k5, k6⟩ := (Or.resolve_left hok c_1) A9 B9 hA9 hB9
    have hg1 : ∀ k, srt1 S 4 f t g k < 10 := srtF_lt hg
    have hg2 : ∀ k, A9.2.2.1 k < 10 := hA9 ▸ jrF_lt hg1
    have hZ : (joinT B9.1 B9.2.1 A9.2.2.2 B9.2.2.2, B9.2.1 + 1, B9.2.2.1, B9.2.1) = Z := by rw [← hZ, jrF, if_neg c_1]; simp only [hA9, hB9]
    refine lv_iload C.1 C.2.1 dX2_joinRow_7 (lv_at hl 4 rfl) ?_
    refine lv_bipush (v := nI 10) C.1 C.2.1 dX2_joinRow_9 (by decide) ?_
    refine lv_icmp_lt (tgt := 21) C.1 C.2.1 dX2_joinRow_11 (by decide) (fun _ => ?_) (fun c_2 => absurd (by decide) c_2)
    refine lv_aload_n C.1 C.2.1 dX2_joinRow_21 rfl (lv_at hl 0 rfl) ?_
    refine lv_aload_n C.1 C.2.1 dX2_joinRow_22 rfl (lv_at hl 1 rfl) ?_
    refine lv_iload_n C.1 C.2.1 dX2_joinRow_23 rfl (lv_at hl 2 rfl) ?_
    refine lv_iload_n C.1 C.2.1 dX2_joinRow_24 rfl (lv_at hl 3 rfl) ?_
    refine lv_iload C.1 C.2.1 dX2_joinRow_25 (lv_at hl 4 rfl) ?_
    refine lv_iconst (v := nI 2) C.1 C.2.1 dX2_joinRow_27 (by decide) ?_
    refine lv_irem C.1 C.2.1 dX2_joinRow_28 (by decide) ?_
    refine x_toi (y := nI 0) (by decide) ?_
    refine lv_if_ne (tgt := 36) C.1 C.2.1 dX2_joinRow_29 (by decide) (fun c_3 => absurd (by decide) c_3) (fun _ => ?_)
    refine lv_iconst (v := nI 1) C.1 C.2.1 dX2_joinRow_32 (by decide) ?_
    refine x_toi (show nI 1 = xb (((4 - 4) % 2 == 0) = true) by decide) ?_
    refine lv_goto (tgt := 37) C.1 C.2.1 dX2_joinRow_33 (by decide) ?_
    refine x_cv (w' := wX G a S ((tS T 11 (rw (srtF (befB (kA S (((4 - 4) % 2 == 0))) (kB S (((4 - 4) % 2 == 0)))) f (t - (f + 1)) (f + 1) g)))) L ((tS F 6 (nI n))) bs) (va_runV (As := [.ref (a 1), .int (nI f), .int (nI t), .int (xb (((4 - 4) % 2 == 0) = true))]) (rest := []) (x_fix C hml) (c_X2_orderRow l G a S T L ((tS F 6 (nI n))) bs g f t (((4 - 4) % 2 == 0)) (hg) (by omega) (by omega) _) (cwV 4 C.2.2.2.1 gX2_joinRow_X2_orderRow rfl rfl rfl (by decide +kernel) ⟨Nat.le_of_ble_eq_true rfl, Nat.le_of_ble_eq_true rfl⟩) (x_pv C hH rfl gX_6 rfl rfl) rfl rfl hl.1 rfl (lv_room (Nat.le_of_ble_eq_true rfl)) dX2_joinRow_37 ⟨Nat.le_of_ble_eq_true rfl, Nat.le_of_ble_eq_true rfl⟩) hH hA (fun H locs hH => ?_)
    refine lv_iload_n C.1 C.2.1 dX2_joinRow_40 rfl (lv_at hl 2 rfl) ?_
    refine lv_iload_n C.1 C.2.1 dX2_joinRow_41 rfl (lv_at hl 3 rfl) ?_
    refine lv_iload_n C.1 C.2.1 dX2_joinRow_42 rfl (lv_at hl 2 rfl) ?_
    refine lv_isub C.1 C.2.1 dX2_joinRow_43 ?_
    refine x_toi (pk_sub (a := t) (b := f) (by omega)) ?_
    refine lv_iconst (v := nI 1) C.1 C.2.1 dX2_joinRow_44 (by decide) ?_
    refine lv_iadd C.1 C.2.1 dX2_joinRow_45 ?_
    refine x_toi (nI_add (t - f) 1) ?_
    refine lv_iconst (v := nI 2) C.1 C.2.1 dX2_joinRow_46 (by decide) ?_
    refine lv_idiv C.1 C.2.1 dX2_joinRow_47 (by decide) ?_
    refine x_toi (pk_div (a := t - f + 1) (d := 2) (by omega) (by decide) (by decide)) ?_
    refine lv_iadd C.1 C.2.1 dX2_joinRow_48 ?_
    refine x_toi (nI_add f ((t - f + 1) / 2)) ?_
    refine lv_istore (lv' := [(5, .int (nI (f + ((t - f + 1) / 2)))), (0, .ref (a 6)), (1, .ref (a 1)), (2, .int (nI f)), (3, .int (nI t)), (4, .int (nI 0))]) C.1 C.2.1 dX2_joinRow_49 hl (by decide) rfl (fun ls hl => ?_)
    refine lv_aload_n C.1 C.2.1 dX2_joinRow_51 rfl (lv_at hl 1 rfl) ?_
    refine lv_aload_n C.1 C.2.1 dX2_joinRow_52 rfl (lv_at hl 2 rfl) ?_
    refine lv_iload_n C.1 C.2.1 dX2_joinRow_53 rfl (lv_at hl 3 rfl) ?_
    refine lv_iload C.1 C.2.1 dX2_joinRow_54 (lv_at hl 0 rfl) ?_
    refine lv_iload C.1 C.2.1 dX2_joinRow_56 (lv_at hl 5 rfl) ?_
    refine lv_iconst (v := nI 1) C.1 C.2.1 dX2_joinRow_58 (by decide) ?_
    refine lv_iadd C.1 C.2.1 dX2_joinRow_59 ?_
    refine x_toi (nI_add 0 1) ?_
    refine x_ci (w' := wX G a S ((tS A9.1 11 (rw A9.2.2.1))) L ((tS F 6 (nI A9.2.1))) bs) (va_runS (As := [.ref (a 6), .ref (a 1), .int (nI f), .int (nI (f + ((t - f + 1) / 2))), .int (nI 1)]) (rest := []) (x_fix C hml) (c_X2_joinRow_3 l G a S T L F bs ((srtF (befB (kA S (((4 - 4) % 2 == 0))) (kB S (((4 - 4) % 2 == 0)))) f (t - (f + 1)) (f + 1) g)) n f (f + ((t - f + 1) / 2)) A9 hg1 (by omega) (by omega) (by omega) k1 hA9 _) (cwS 5 C.2.2.2.1 gX2_joinRow_X2_joinRow rfl rfl rfl (by decide +kernel) ⟨Nat.le_of_ble_eq_true rfl, Nat.le_of_ble_eq_true rfl⟩) (x_ps C hH) rfl rfl hl.1 rfl (lv_room (Nat.le_of_ble_eq_true rfl)) dX2_joinRow_60 ⟨Nat.le_of_ble_eq_true rfl, Nat.le_of_ble_eq_true rfl⟩) hH hA (fun H locs hH => ?_)
    refine lv_istore (lv' := [(6, .int (nI A9.2.2.2)), (5, .int (nI (f + ((t - f + 1) / 2)))), (0, .ref (a 6)), (1, .ref (a 1)), (2, .int (nI f)), (3, .int (nI t)), (4, .int (nI 0))]) C.1 C.2.1 dX2_joinRow_63 hl (by decide) rfl (fun ls hl => ?_)
    refine lv_aload_n C.1 C.2.1 dX2_joinRow_65 rfl (lv_at hl 2 rfl) ?_
    refine lv_aload_n C.1 C.2.1 dX2_joinRow_66 rfl (lv_at hl 3 rfl) ?_
    refine lv_iload C.1 C.2.1 dX2_joinRow_67 (lv_at hl 1 rfl) ?_
    refine lv_iload_n C.1 C.2.1 dX2_joinRow_69 rfl (lv_at hl 5 rfl) ?_
    refine lv_iload C.1 C.2.1 dX2_joinRow_70 (lv_at hl 6 rfl) ?_
    refine lv_iconst (v := nI 1) C.1 C.2.1 dX2_joinRow_72 (by decide) ?_
    refine lv_iadd C.1 C.2.1 dX2_joinRow_73 ?_
    refine x_toi (nI_add 0 1) ?_
    refine x_ci (w' := wX G a S ((tS B9.1 11 (rw B9.2.2.1))) L ((tS F 6 (nI B9.2.1))) bs) (va_runS (As := [.ref (a 6), .ref (a 1), .int (nI (f + ((t - f + 1) / 2))), .int (nI t), .int (nI 1)]) (rest := []) (x_fix C hml) (c_X2_joinRow_3 l G a S A9.1 L F bs A9.2.2.1 A9.2.1 (f + ((t - f + 1) / 2)) t B9 hg2 (by omega) (by omega) (by omega) k2 hB9 _) (cwS 5 C.2.2.2.1 gX2_joinRow_X2_joinRow rfl rfl rfl (by decide +kernel) ⟨Nat.le_of_ble_eq_true rfl, Nat.le_of_ble_eq_true rfl⟩) (x_ps C hH) rfl rfl hl.1 rfl (lv_room (Nat.le_of_ble_eq_true rfl)) dX2_joinRow_74 ⟨Nat.le_of_ble_eq_true rfl, Nat.le_of_ble_eq_true rfl⟩) hH hA (fun H locs hH => ?_)
    refine lv_istore (lv' := [(7, .int (nI B9.2.2.2)), (6, .int (nI A9.2.2.2)), (5, .int (nI (f + ((t - f + 1) / 2)))), (0, .ref (a 6)), (1, .ref (a 1)), (2, .int (nI f)), (3, .int (nI t)), (4, .int (nI 0))]) C.1 C.2.1 dX2_joinRow_77 hl (by decide) rfl (fun ls hl => ?_)
    refine lv_aload_n C.1 C.2.1 dX2_joinRow_79 rfl (lv_at hl 3 rfl) ?_
    refine lv_iload C.1 C.2.1 dX2_joinRow_80 (lv_at hl 1 rfl) ?_
    refine lv_iload C.1 C.2.1 dX2_joinRow_82 (lv_at hl 0 rfl) ?_
    refine x_ci (w' := wX G a S ((tS (joinT B9.1 B9.2.1 A9.2.2.2 B9.2.2.2) 11 (rw B9.2.2.1))) L ((tS F 6 (nI (B9.2.1 + 1)))) bs) (va_runV (As := [.int (nI A9.2.2.2), .int (nI B9.2.2.2)]) (rest := []) (x_fix C hml) (c_X2_joinTwo l G a S ((tS B9.1 11 (rw B9.2.2.1))) L ((tS F 6 (nI B9.2.1))) bs A9.2.2.2 B9.2.2.2 B9.2.1 rfl (by omega) (by omega) (by omega) (by omega) _) (cwV 2 C.2.2.2.1 gX2_joinRow_X2_joinTwo rfl rfl rfl (by decide +kernel) ⟨Nat.le_of_ble_eq_true rfl, Nat.le_of_ble_eq_true rfl⟩) (x_pv C hH rfl gX_6 rfl rfl) rfl rfl hl.1 rfl (lv_room (Nat.le_of_ble_eq_true rfl)) dX2_joinRow_84 ⟨Nat.le_of_ble_eq_true rfl, Nat.le_of_ble_eq_true rfl⟩) hH hA (fun H locs hH => ?_)
    have hH := x_eqw (w' := wX G a S ((tS Z.1 11 (rw Z.2.2.1))) L ((tS F 6 (nI Z.2.1))) bs) (by rw [← hZ]; first | done | rfl) hH
    exact hE _ _ _ _ _ hH (by rw [← hZ]) (rfl) dX2_joinRow_87
set_option maxHeartbeats 400000 in
set_option maxRecDepth 100000 in
theorem c_X2_joinByCutting (l : Launch) (G : xG) (a : Nat → Nat) (S T : Nat → Nat → Int32) (L : Nat → Nat → Int64) (F : Nat → Int32) (bs : Int64) (g : Nat → Nat) (lv : Nat) (Z : (Nat → Nat → Int32) × Nat × (Nat → Nat) × Nat) (hg : ∀ k, g k < 10) (h1 : 1 ≤ lv) (hl9 : lv ≤ 10) (hok : jrOk S 4 T lv (rowN lv 0 g) 0 lv) (hZ : jrF S 4 T lv (rowN lv 0 g) 0 lv = Z) : xMv l yX2_joinByCutting wsX2_joinByCutting { frames := 8, cells := 0, slots := 0, locals := 192 } [.ref (a 6), .ref (a 1)] G (wX G a S ((tS T 11 (rw g))) L ((tS ((tS F 5 (nI lv))) 6 (nI lv))) bs) (wX G a S ((tS Z.1 11 (rw Z.2.2.1))) L ((tS ((tS F 5 (nI lv))) 6 (nI Z.2.1))) bs) 0 0 := by
  have hg9 : ∀ k, rowN lv 0 g k < 10 := rowN_lt hg (by omega)
  refine x_ofv (cc := cX2_joinByCutting) (maxL := 3) (by decide) rfl (Nat.le_of_ble_eq_true rfl) ?_
  intro p e s m args below meth c ls A Q C hml hA hH hl hE
  have hl : lv_has ls 3 [(0, .ref (a 6)), (1, .ref (a 1))] := hl
  have inX2 : ∀ w ∈ wsX20, w ∈ wsX2_joinByCutting := fun _ h => (List.mem_cons_of_mem _ (List.mem_append_left _ (List.mem_append_right _ h)))
  refine lv_iconst (v := nI 0) C.1 C.2.1 dX2_joinByCutting_0 (by decide) ?_
  refine lv_istore_n (lv' := [(2, .int (nI 0)), (0, .ref (a 6)), (1, .ref (a 1))]) C.1 C.2.1 dX2_joinByCutting_1 rfl hl (by decide) rfl (fun ls hl => ?_)
  have lp : ∀ (n : Nat) (i : Nat) (g1 : Nat → Nat) (H : Heap) (locs : List Loc) (ls : Array Slot), i + n = lv → rowN n i g1 = rowN lv 0 g → xH G A s.heap H locs (wX G a S ((tS T 11 (rw g1))) L ((tS ((tS F 5 (nI lv))) 6 (nI lv))) bs) → lv_has ls 3 [(0, .ref (a 6)), (1, .ref (a 1)), (2, .int (nI i))] → W p l e ({ frames := 8, cells := 0, slots := 0, locals := 192 }) s m args below meth c H locs 0 0 Q (F0 m 2 ls []) := by
    intro n
    induction n with
    | zero =>
      intro i g1 H locs ls hin hf hH hl
      have hf : g1 = rowN lv 0 g := hf
      subst hf
      refine lv_iload_n C.1 C.2.1 dX2_joinByCutting_2 rfl (lv_at hl 2 rfl) ?_
      refine lv_aload_n C.1 C.2.1 dX2_joinByCutting_3 rfl (lv_at hl 0 rfl) ?_
      refine x_get (C := RX2) (T := TX2) (N := 14) (v := .int (nI lv)) C inX2 hH 6 gX_6 rfl 12 (by decide) rfl rfl 1 rfl dX2_joinByCutting_4 ?_
      refine lv_icmp_ge (tgt := 23) C.1 C.2.1 dX2_joinByCutting_7 (by decide) (fun _ => ?_) (fun c_1 => absurd ((nI_leI (a := lv) (b := i) (by omega) (by omega)).mpr (by omega)) c_1)
      refine lv_aload_n C.1 C.2.1 dX2_joinByCutting_23 rfl (lv_at hl 0 rfl) ?_
      refine lv_aload_n C.1 C.2.1 dX2_joinByCutting_24 rfl (lv_at hl 1 rfl) ?_
      refine lv_iconst (v := nI 0) C.1 C.2.1 dX2_joinByCutting_25 (by decide) ?_
      refine lv_aload_n C.1 C.2.1 dX2_joinByCutting_26 rfl (lv_at hl 0 rfl) ?_
      refine x_get (C := RX2) (T := TX2) (N := 14) (v := .int (nI lv)) C inX2 hH 6 gX_6 rfl 12 (by decide) rfl rfl 1 rfl dX2_joinByCutting_27 ?_
      refine lv_iconst (v := nI 0) C.1 C.2.1 dX2_joinByCutting_30 (by decide) ?_
      refine x_ci (w' := wX G a S ((tS Z.1 11 (rw Z.2.2.1))) L ((tS ((tS F 5 (nI lv))) 6 (nI Z.2.1))) bs) (va_runS (As := [.ref (a 6), .ref (a 1), .int (nI 0), .int (nI lv), .int (nI 0)]) (rest := []) (x_fix C hml) (c_X2_joinRow_4 l G a S T L ((tS F 5 (nI lv))) bs ((rowN lv 0 g)) lv 0 lv Z hg9 (by omega) (by omega) (by omega) hok hZ _) (cwS 5 C.2.2.2.1 gX2_joinByCutting_X2_joinRow rfl rfl rfl (by decide +kernel) ⟨Nat.le_of_ble_eq_true rfl, Nat.le_of_ble_eq_true rfl⟩) (x_ps C hH) rfl rfl hl.1 rfl (lv_room (Nat.le_of_ble_eq_true rfl)) dX2_joinByCutting_31 ⟨Nat.le_of_ble_eq_true rfl, Nat.le_of_ble_eq_true rfl⟩) hH hA (fun H locs hH => ?_)
      refine lv_pop C.1 C.2.1 dX2_joinByCutting_34 rfl ?_
      exact hE _ _ _ _ hH dX2_joinByCutting_35
    | succ n ih2 =>
      intro i g1 H locs ls hin hf hH hl
      refine lv_iload_n C.1 C.2.1 dX2_joinByCutting_2 rfl (lv_at hl 2 rfl) ?_
      refine lv_aload_n C.1 C.2.1 dX2_joinByCutting_3 rfl (lv_at hl 0 rfl) ?_
      refine x_get (C := RX2) (T := TX2) (N := 14) (v := .int (nI lv)) C inX2 hH 6 gX_6 rfl 12 (by decide) rfl rfl 1 rfl dX2_joinByCutting_4 ?_
      refine lv_icmp_ge (tgt := 23) C.1 C.2.1 dX2_joinByCutting_7 (by decide) (fun c_2 => absurd ((nI_leI (a := lv) (b := i) (by omega) (by omega)).mp c_2) (by omega)) (fun _ => ?_)
      refine lv_aload_n C.1 C.2.1 dX2_joinByCutting_10 rfl (lv_at hl 0 rfl) ?_
      refine x_get (C := RX2) (T := TX2) (N := 14) (v := .ref (a 18)) C inX2 hH 6 gX_6 rfl 11 (by decide) rfl rfl 2 rfl dX2_joinByCutting_11 ?_
      refine lv_iload_n C.1 C.2.1 dX2_joinByCutting_14 rfl (lv_at hl 2 rfl) ?_
      refine lv_iload_n C.1 C.2.1 dX2_joinByCutting_15 rfl (lv_at hl 2 rfl) ?_
      refine x_iast (f := rw g1) (j := i) (x := nI i) (w' := wX G a S ((tS T 11 (upd (rw g1) i (nI i)))) L ((tS ((tS F 5 (nI lv))) 6 (nI lv))) bs) C hH 18 gX_18 (by omega) (by decide) sX_18 dX2_joinByCutting_16 (fun H locs hH => ?_)
      have hH := x_eqw (w' := wX G a S ((tS T 11 (rw (updN g1 i i)))) L ((tS ((tS F 5 (nI lv))) 6 (nI lv))) bs) (by rw [upd_rw]) hH
      refine lv_iinc (v := nI (i + 1)) (lv' := [(2, .int (nI (i + 1))), (0, .ref (a 6)), (1, .ref (a 1))]) C.1 C.2.1 dX2_joinByCutting_17 hl (k := 2) rfl (nI_add i 1) (by decide) rfl (fun ls hl => ?_)
      refine lv_goto (tgt := 2) C.1 C.2.1 dX2_joinByCutting_20 (by decide) ?_
      exact ih2 (i + 1) (updN g1 i i) _ _ _ (by omega) (hf) hH (lv_sub hl [1, 2, 0] rfl)
  exact lp (lv) 0 g _ _ _ (by omega) (rfl) hH (lv_sub hl [1, 2, 0] rfl)
