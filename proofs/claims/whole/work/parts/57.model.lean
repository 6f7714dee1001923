theorem xz_same {Z : Nat → Nat → Int32} {j : Nat} {x : Int32} (h : Z 0 j = x) : tS Z 0 (upd (Z 0) j x) = Z := by
  have e : upd (Z 0) j x = Z 0 := by
    funext k
    unfold upd
    by_cases hk : k = j
    · rw [if_pos hk, hk, h]
    · rw [if_neg hk]
  rw [e]
  exact (tS_id rfl).symm
set_option maxHeartbeats 400000 in
set_option maxRecDepth 100000 in
theorem c_X4_node_0 (l : Launch) (G : xG) (a : Nat → Nat) (S T K Z : Nat → Nat → Int32) (L : Nat → Nat → Int64) (F : Nat → Int32) (k : Nat) (lv nd : Nat) (h2 : F 2 = nI 1) (h4 : F 4 = nI lv) (h6 : F 6 = nI nd) (h1 : 1 ≤ lv) (hl9 : lv ≤ nd) (hl10 : lv ≤ 10) (hn : nd ≤ 19) (hk : k < nd) : xMi l yX4_node wsX4_node { frames := 1, cells := 0, slots := 0, locals := 21 } [.ref (a 0), .int (nI k), .int (nI 0)] G (wM G a S T K Z L F) (T 0 k) (wM G a S T K Z L (tS F 3 (nI 0))) 0 0 := by
  have hk1 : ¬ (nI k) < 0 ∧ ¬ F 6 ≤ (nI k) := ⟨nI_pos (by omega), by rw [h6]; exact fun z => absurd ((nI_leI (by omega) (by omega)).mp z) (by omega)⟩
  refine x_ofi (cc := cX4_node) (maxL := 3) (ty := .int) (by decide) rfl (Nat.le_of_ble_eq_true rfl) ?_
  intro p e s m args below meth c ls A Q C hml hA hH hl hE
  have hl : lv_has ls 3 [(0, .ref (a 0)), (1, .int (nI k)), (2, .int (nI 0))] := hl
  have inX4 : ∀ w ∈ wsX40, w ∈ wsX4_node := fun _ h => (List.mem_cons_of_mem _ (List.mem_append_right _ h))
  refine lv_aload_n C.1 C.2.1 dX4_node_0 rfl (lv_at hl 0 rfl) ?_
  refine lv_aload_n C.1 C.2.1 dX4_node_1 rfl (lv_at hl 0 rfl) ?_
  refine x_get (C := RX4) (T := TX4) (N := 37) (v := .int (F 2)) C inX4 hH 0 gM_0 rfl 13 (by decide) rfl rfl 1 rfl dX4_node_2 ?_
  refine x_toi h2 ?_
  refine lv_if_ne (tgt := 12) C.1 C.2.1 dX4_node_5 (by decide) (fun _ => ?_) (fun c_1 => absurd (c_1) (by decide))
  refine lv_aload_n C.1 C.2.1 dX4_node_12 rfl (lv_at hl 0 rfl) ?_
  refine lv_iload_n C.1 C.2.1 dX4_node_13 rfl (lv_at hl 1 rfl) ?_
  refine x_ci (w' := wM G a S T K Z L F) (va_runV (As := [.int (nI k)]) (rest := [.ref (a 0)]) (x_fix C hml) (c_X4_isNode l G a S T K Z L F (nI k) _) (cwV 1 C.2.2.2.1 gX4_node_X4_isNode rfl rfl rfl (by decide +kernel) ⟨Nat.le_of_ble_eq_true rfl, Nat.le_of_ble_eq_true rfl⟩) (x_pv C hH rfl gM_0 rfl rfl) rfl rfl hl.1 rfl (lv_room (Nat.le_of_ble_eq_true rfl)) dX4_node_14 ⟨Nat.le_of_ble_eq_true rfl, Nat.le_of_ble_eq_true rfl⟩) hH hA (fun H locs hH => ?_)
  refine lv_if_eq (tgt := 30) C.1 C.2.1 dX4_node_17 (by decide) (fun z8 => absurd z8 (fun z9 => xb_0.mp z9 hk1)) (fun _ => ?_)
  refine lv_iload_n C.1 C.2.1 dX4_node_20 rfl (lv_at hl 2 rfl) ?_
  refine lv_if_lt (tgt := 30) C.1 C.2.1 dX4_node_21 (by decide) (fun c_3 => absurd c_3 (by decide)) (fun _ => ?_)
  refine lv_iload_n C.1 C.2.1 dX4_node_24 rfl (lv_at hl 2 rfl) ?_
  refine lv_bipush (v := nI 10) C.1 C.2.1 dX4_node_25 (by decide) ?_
  refine lv_icmp_le (tgt := 34) C.1 C.2.1 dX4_node_27 (by decide) (fun _ => ?_) (fun c_4 => absurd (by decide) c_4)
  refine lv_iconst (v := nI 0) C.1 C.2.1 dX4_node_34 (by decide) ?_
  refine x_put (C := RX4) (T := TX4) (N := 37) (v := .int (nI 0)) (w' := wM G a S T K Z L ((tS F 3 (nI 0)))) C inX4 tyX4 tyX4_ok nmX4 hH 0 gM_0 rfl 0 (by decide) rfl rfl rfl rfl (Nat.le_of_ble_eq_true rfl) fM_0_0 2 rfl dX4_node_35 (fun H locs hH => ?_)
  refine lv_aload_n C.1 C.2.1 dX4_node_38 rfl (lv_at hl 0 rfl) ?_
  refine x_get (C := RX4) (T := TX4) (N := 37) (v := .int (nI 0)) C inX4 hH 0 gM_0 rfl 0 (by decide) rfl rfl 2 rfl dX4_node_39 ?_
  refine lv_if_le (tgt := 47) C.1 C.2.1 dX4_node_42 (by decide) (fun _ => ?_) (fun c_5 => absurd (by decide) c_5)
  refine lv_iload_n C.1 C.2.1 dX4_node_47 rfl (lv_at hl 2 rfl) ?_
  refine lv_tableIn (tgt := 104) C.1 C.2.1 dX4_node_48 (by decide) (by decide) rfl (by decide) ?_
  refine lv_aload_n C.1 C.2.1 dX4_node_104 rfl (lv_at hl 0 rfl) ?_
  refine x_get (C := RX4) (T := TX4) (N := 37) (v := .ref (a 5)) C inX4 hH 0 gM_0 rfl 15 (by decide) rfl rfl 3 rfl dX4_node_105 ?_
  refine lv_iload_n C.1 C.2.1 dX4_node_108 rfl (lv_at hl 1 rfl) ?_
  refine x_iald (f := T 0) (j := k) (v := T 0 k) C hH 5 gM_5 (by omega) (by decide) (rfl) dX4_node_109 ?_
  have hH := x_eqw (w' := wM G a S T K Z L (tS F 3 (nI 0))) (rfl) hH
  exact hE _ _ _ _ _ hH (rfl) (rfl) dX4_node_110
set_option maxHeartbeats 400000 in
set_option maxRecDepth 100000 in
theorem c_X4_node_1 (l : Launch) (G : xG) (a : Nat → Nat) (S T K Z : Nat → Nat → Int32) (L : Nat → Nat → Int64) (F : Nat → Int32) (k : Nat) (lv nd : Nat) (h2 : F 2 = nI 1) (h4 : F 4 = nI lv) (h6 : F 6 = nI nd) (h1 : 1 ≤ lv) (hl9 : lv ≤ nd) (hl10 : lv ≤ 10) (hn : nd ≤ 19) (hk : k < nd) : xMi l yX4_node wsX4_node { frames := 1, cells := 0, slots := 0, locals := 21 } [.ref (a 0), .int (nI k), .int (nI 1)] G (wM G a S T K Z L F) (T 1 k) (wM G a S T K Z L (tS F 3 (nI 0))) 0 0 := by
  have hk1 : ¬ (nI k) < 0 ∧ ¬ F 6 ≤ (nI k) := ⟨nI_pos (by omega), by rw [h6]; exact fun z => absurd ((nI_leI (by omega) (by omega)).mp z) (by omega)⟩
  refine x_ofi (cc := cX4_node) (maxL := 3) (ty := .int) (by decide) rfl (Nat.le_of_ble_eq_true rfl) ?_
  intro p e s m args below meth c ls A Q C hml hA hH hl hE
  have hl : lv_has ls 3 [(0, .ref (a 0)), (1, .int (nI k)), (2, .int (nI 1))] := hl
  have inX4 : ∀ w ∈ wsX40, w ∈ wsX4_node := fun _ h => (List.mem_cons_of_mem _ (List.mem_append_right _ h))
  refine lv_aload_n C.1 C.2.1 dX4_node_0 rfl (lv_at hl 0 rfl) ?_
  refine lv_aload_n C.1 C.2.1 dX4_node_1 rfl (lv_at hl 0 rfl) ?_
  refine x_get (C := RX4) (T := TX4) (N := 37) (v := .int (F 2)) C inX4 hH 0 gM_0 rfl 13 (by decide) rfl rfl 1 rfl dX4_node_2 ?_
  refine x_toi h2 ?_
  refine lv_if_ne (tgt := 12) C.1 C.2.1 dX4_node_5 (by decide) (fun _ => ?_) (fun c_1 => absurd (c_1) (by decide))
  refine lv_aload_n C.1 C.2.1 dX4_node_12 rfl (lv_at hl 0 rfl) ?_
  refine lv_iload_n C.1 C.2.1 dX4_node_13 rfl (lv_at hl 1 rfl) ?_
  refine x_ci (w' := wM G a S T K Z L F) (va_runV (As := [.int (nI k)]) (rest := [.ref (a 0)]) (x_fix C hml) (c_X4_isNode l G a S T K Z L F (nI k) _) (cwV 1 C.2.2.2.1 gX4_node_X4_isNode rfl rfl rfl (by decide +kernel) ⟨Nat.le_of_ble_eq_true rfl, Nat.le_of_ble_eq_true rfl⟩) (x_pv C hH rfl gM_0 rfl rfl) rfl rfl hl.1 rfl (lv_room (Nat.le_of_ble_eq_true rfl)) dX4_node_14 ⟨Nat.le_of_ble_eq_true rfl, Nat.le_of_ble_eq_true rfl⟩) hH hA (fun H locs hH => ?_)
  refine lv_if_eq (tgt := 30) C.1 C.2.1 dX4_node_17 (by decide) (fun z8 => absurd z8 (fun z9 => xb_0.mp z9 hk1)) (fun _ => ?_)
  refine lv_iload_n C.1 C.2.1 dX4_node_20 rfl (lv_at hl 2 rfl) ?_
  refine lv_if_lt (tgt := 30) C.1 C.2.1 dX4_node_21 (by decide) (fun c_3 => absurd c_3 (by decide)) (fun _ => ?_)
  refine lv_iload_n C.1 C.2.1 dX4_node_24 rfl (lv_at hl 2 rfl) ?_
  refine lv_bipush (v := nI 10) C.1 C.2.1 dX4_node_25 (by decide) ?_
  refine lv_icmp_le (tgt := 34) C.1 C.2.1 dX4_node_27 (by decide) (fun _ => ?_) (fun c_4 => absurd (by decide) c_4)
  refine lv_iconst (v := nI 0) C.1 C.2.1 dX4_node_34 (by decide) ?_
  refine x_put (C := RX4) (T := TX4) (N := 37) (v := .int (nI 0)) (w' := wM G a S T K Z L ((tS F 3 (nI 0)))) C inX4 tyX4 tyX4_ok nmX4 hH 0 gM_0 rfl 0 (by decide) rfl rfl rfl rfl (Nat.le_of_ble_eq_true rfl) fM_0_0 2 rfl dX4_node_35 (fun H locs hH => ?_)
  refine lv_aload_n C.1 C.2.1 dX4_node_38 rfl (lv_at hl 0 rfl) ?_
  refine x_get (C := RX4) (T := TX4) (N := 37) (v := .int (nI 0)) C inX4 hH 0 gM_0 rfl 0 (by decide) rfl rfl 2 rfl dX4_node_39 ?_
  refine lv_if_le (tgt := 47) C.1 C.2.1 dX4_node_42 (by decide) (fun _ => ?_) (fun c_5 => absurd (by decide) c_5)
  refine lv_iload_n C.1 C.2.1 dX4_node_47 rfl (lv_at hl 2 rfl) ?_
  refine lv_tableIn (tgt := 111) C.1 C.2.1 dX4_node_48 (by decide) (by decide) rfl (by decide) ?_
  refine lv_aload_n C.1 C.2.1 dX4_node_111 rfl (lv_at hl 0 rfl) ?_
  refine x_get (C := RX4) (T := TX4) (N := 37) (v := .ref (a 6)) C inX4 hH 0 gM_0 rfl 16 (by decide) rfl rfl 4 rfl dX4_node_112 ?_
  refine lv_iload_n C.1 C.2.1 dX4_node_115 rfl (lv_at hl 1 rfl) ?_
  refine x_iald (f := T 1) (j := k) (v := T 1 k) C hH 6 gM_6 (by omega) (by decide) (rfl) dX4_node_116 ?_
  have hH := x_eqw (w' := wM G a S T K Z L (tS F 3 (nI 0))) (rfl) hH
  exact hE _ _ _ _ _ hH (rfl) (rfl) dX4_node_117
set_option maxHeartbeats 400000 in
set_option maxRecDepth 100000 in
theorem c_X4_node_2 (l : Launch) (G : xG) (a : Nat → Nat) (S T K Z : Nat → Nat → Int32) (L : Nat → Nat → Int64) (F : Nat → Int32) (k : Nat) (lv nd : Nat) (h2 : F 2 = nI 1) (h4 : F 4 = nI lv) (h6 : F 6 = nI nd) (h1 : 1 ≤ lv) (hl9 : lv ≤ nd) (hl10 : lv ≤ 10) (hn : nd ≤ 19) (hk : k < nd) : xMi l yX4_node wsX4_node { frames := 1, cells := 0, slots := 0, locals := 21 } [.ref (a 0), .int (nI k), .int (nI 2)] G (wM G a S T K Z L F) (T 2 k) (wM G a S T K Z L (tS F 3 (nI 0))) 0 0 := by
  have hk1 : ¬ (nI k) < 0 ∧ ¬ F 6 ≤ (nI k) := ⟨nI_pos (by omega), by rw [h6]; exact fun z => absurd ((nI_leI (by omega) (by omega)).mp z) (by omega)⟩
  refine x_ofi (cc := cX4_node) (maxL := 3) (ty := .int) (by decide) rfl (Nat.le_of_ble_eq_true rfl) ?_
  intro p e s m args below meth c ls A Q C hml hA hH hl hE
  have hl : lv_has ls 3 [(0, .ref (a 0)), (1, .int (nI k)), (2, .int (nI 2))] := hl
  have inX4 : ∀ w ∈ wsX40, w ∈ wsX4_node := fun _ h => (List.mem_cons_of_mem _ (List.mem_append_right _ h))
  refine lv_aload_n C.1 C.2.1 dX4_node_0 rfl (lv_at hl 0 rfl) ?_
  refine lv_aload_n C.1 C.2.1 dX4_node_1 rfl (lv_at hl 0 rfl) ?_
  refine x_get (C := RX4) (T := TX4) (N := 37) (v := .int (F 2)) C inX4 hH 0 gM_0 rfl 13 (by decide) rfl rfl 1 rfl dX4_node_2 ?_
  refine x_toi h2 ?_
  refine lv_if_ne (tgt := 12) C.1 C.2.1 dX4_node_5 (by decide) (fun _ => ?_) (fun c_1 => absurd (c_1) (by decide))
  refine lv_aload_n C.1 C.2.1 dX4_node_12 rfl (lv_at hl 0 rfl) ?_
  refine lv_iload_n C.1 C.2.1 dX4_node_13 rfl (lv_at hl 1 rfl) ?_
  refine x_ci (w' := wM G a S T K Z L F) (va_runV (As := [.int (nI k)]) (rest := [.ref (a 0)]) (x_fix C hml) (c_X4_isNode l G a S T K Z L F (nI k) _) (cwV 1 C.2.2.2.1 gX4_node_X4_isNode rfl rfl rfl (by decide +kernel) ⟨Nat.le_of_ble_eq_true rfl, Nat.le_of_ble_eq_true rfl⟩) (x_pv C hH rfl gM_0 rfl rfl) rfl rfl hl.1 rfl (lv_room (Nat.le_of_ble_eq_true rfl)) dX4_node_14 ⟨Nat.le_of_ble_eq_true rfl, Nat.le_of_ble_eq_true rfl⟩) hH hA (fun H locs hH => ?_)
  refine lv_if_eq (tgt := 30) C.1 C.2.1 dX4_node_17 (by decide) (fun z8 => absurd z8 (fun z9 => xb_0.mp z9 hk1)) (fun _ => ?_)
  refine lv_iload_n C.1 C.2.1 dX4_node_20 rfl (lv_at hl 2 rfl) ?_
  refine lv_if_lt (tgt := 30) C.1 C.2.1 dX4_node_21 (by decide) (fun c_3 => absurd c_3 (by decide)) (fun _ => ?_)
  refine lv_iload_n C.1 C.2.1 dX4_node_24 rfl (lv_at hl 2 rfl) ?_
  refine lv_bipush (v := nI 10) C.1 C.2.1 dX4_node_25 (by decide) ?_
  refine lv_icmp_le (tgt := 34) C.1 C.2.1 dX4_node_27 (by decide) (fun _ => ?_) (fun c_4 => absurd (by decide) c_4)
  refine lv_iconst (v := nI 0) C.1 C.2.1 dX4_node_34 (by decide) ?_
  refine x_put (C := RX4) (T := TX4) (N := 37) (v := .int (nI 0)) (w' := wM G a S T K Z L ((tS F 3 (nI 0)))) C inX4 tyX4 tyX4_ok nmX4 hH 0 gM_0 rfl 0 (by decide) rfl rfl rfl rfl (Nat.le_of_ble_eq_true rfl) fM_0_0 2 rfl dX4_node_35 (fun H locs hH => ?_)
  refine lv_aload_n C.1 C.2.1 dX4_node_38 rfl (lv_at hl 0 rfl) ?_
  refine x_get (C := RX4) (T := TX4) (N := 37) (v := .int (nI 0)) C inX4 hH 0 gM_0 rfl 0 (by decide) rfl rfl 2 rfl dX4_node_39 ?_
  refine lv_if_le (tgt := 47) C.1 C.2.1 dX4_node_42 (by decide) (fun _ => ?_) (fun c_5 => absurd (by decide) c_5)
  refine lv_iload_n C.1 C.2.1 dX4_node_47 rfl (lv_at hl 2 rfl) ?_
  refine lv_tableIn (tgt := 118) C.1 C.2.1 dX4_node_48 (by decide) (by decide) rfl (by decide) ?_
  refine lv_aload_n C.1 C.2.1 dX4_node_118 rfl (lv_at hl 0 rfl) ?_
  refine x_get (C := RX4) (T := TX4) (N := 37) (v := .ref (a 7)) C inX4 hH 0 gM_0 rfl 17 (by decide) rfl rfl 5 rfl dX4_node_119 ?_
  refine lv_iload_n C.1 C.2.1 dX4_node_122 rfl (lv_at hl 1 rfl) ?_
  refine x_iald (f := T 2) (j := k) (v := T 2 k) C hH 7 gM_7 (by omega) (by decide) (rfl) dX4_node_123 ?_
  have hH := x_eqw (w' := wM G a S T K Z L (tS F 3 (nI 0))) (rfl) hH
  exact hE _ _ _ _ _ hH (rfl) (rfl) dX4_node_124
set_option maxHeartbeats 400000 in
set_option maxRecDepth 100000 in
theorem c_X4_node_3 (l : Launch) (G : xG) (a : Nat → Nat) (S T K Z : Nat → Nat → Int32) (L : Nat → Nat → Int64) (F : Nat → Int32) (k : Nat) (lv nd : Nat) (h2 : F 2 = nI 1) (h4 : F 4 = nI lv) (h6 : F 6 = nI nd) (h1 : 1 ≤ lv) (hl9 : lv ≤ nd) (hl10 : lv ≤ 10) (hn : nd ≤ 19) (hk : k < nd) : xMi l yX4_node wsX4_node { frames := 1, cells := 0, slots := 0, locals := 21 } [.ref (a 0), .int (nI k), .int (nI 3)] G (wM G a S T K Z L F) (T 3 k) (wM G a S T K Z L (tS F 3 (nI 0))) 0 0 := by
  have hk1 : ¬ (nI k) < 0 ∧ ¬ F 6 ≤ (nI k) := ⟨nI_pos (by omega), by rw [h6]; exact fun z => absurd ((nI_leI (by omega) (by omega)).mp z) (by omega)⟩
  refine x_ofi (cc := cX4_node) (maxL := 3) (ty := .int) (by decide) rfl (Nat.le_of_ble_eq_true rfl) ?_
  intro p e s m args below meth c ls A Q C hml hA hH hl hE
  have hl : lv_has ls 3 [(0, .ref (a 0)), (1, .int (nI k)), (2, .int (nI 3))] := hl
  have inX4 : ∀ w ∈ wsX40, w ∈ wsX4_node := fun _ h => (List.mem_cons_of_mem _ (List.mem_append_right _ h))
  refine lv_aload_n C.1 C.2.1 dX4_node_0 rfl (lv_at hl 0 rfl) ?_
  refine lv_aload_n C.1 C.2.1 dX4_node_1 rfl (lv_at hl 0 rfl) ?_
  refine x_get (C := RX4) (T := TX4) (N := 37) (v := .int (F 2)) C inX4 hH 0 gM_0 rfl 13 (by decide) rfl rfl 1 rfl dX4_node_2 ?_
  refine x_toi h2 ?_
  refine lv_if_ne (tgt := 12) C.1 C.2.1 dX4_node_5 (by decide) (fun _ => ?_) (fun c_1 => absurd (c_1) (by decide))
  refine lv_aload_n C.1 C.2.1 dX4_node_12 rfl (lv_at hl 0 rfl) ?_
  refine lv_iload_n C.1 C.2.1 dX4_node_13 rfl (lv_at hl 1 rfl) ?_
  refine x_ci (w' := wM G a S T K Z L F) (va_runV (As := [.int (nI k)]) (rest := [.ref (a 0)]) (x_fix C hml) (c_X4_isNode l G a S T K Z L F (nI k) _) (cwV 1 C.2.2.2.1 gX4_node_X4_isNode rfl rfl rfl (by decide +kernel) ⟨Nat.le_of_ble_eq_true rfl, Nat.le_of_ble_eq_true rfl⟩) (x_pv C hH rfl gM_0 rfl rfl) rfl rfl hl.1 rfl (lv_room (Nat.le_of_ble_eq_true rfl)) dX4_node_14 ⟨Nat.le_of_ble_eq_true rfl, Nat.le_of_ble_eq_true rfl⟩) hH hA (fun H locs hH => ?_)
  refine lv_if_eq (tgt := 30) C.1 C.2.1 dX4_node_17 (by decide) (fun z8 => absurd z8 (fun z9 => xb_0.mp z9 hk1)) (fun _ => ?_)
  refine lv_iload_n C.1 C.2.1 dX4_node_20 rfl (lv_at hl 2 rfl) ?_
  refine lv_if_lt (tgt := 30) C.1 C.2.1 dX4_node_21 (by decide) (fun c_3 => absurd c_3 (by decide)) (fun _ => ?_)
  refine lv_iload_n C.1 C.2.1 dX4_node_24 rfl (lv_at hl 2 rfl) ?_
  refine lv_bipush (v := nI 10) C.1 C.2.1 dX4_node_25 (by decide) ?_
  refine lv_icmp_le (tgt := 34) C.1 C.2.1 dX4_node_27 (by decide) (fun _ => ?_) (fun c_4 => absurd (by decide) c_4)
  refine lv_iconst (v := nI 0) C.1 C.2.1 dX4_node_34 (by decide) ?_
  refine x_put (C := RX4) (T := TX4) (N := 37) (v := .int (nI 0)) (w' := wM G a S T K Z L ((tS F 3 (nI 0)))) C inX4 tyX4 tyX4_ok nmX4 hH 0 gM_0 rfl 0 (by decide) rfl rfl rfl rfl (Nat.le_of_ble_eq_true rfl) fM_0_0 2 rfl dX4_node_35 (fun H locs hH => ?_)
  refine lv_aload_n C.1 C.2.1 dX4_node_38 rfl (lv_at hl 0 rfl) ?_
  refine x_get (C := RX4) (T := TX4) (N := 37) (v := .int (nI 0)) C inX4 hH 0 gM_0 rfl 0 (by decide) rfl rfl 2 rfl dX4_node_39 ?_
  refine lv_if_le (tgt := 47) C.1 C.2.1 dX4_node_42 (by decide) (fun _ => ?_) (fun c_5 => absurd (by decide) c_5)
  refine lv_iload_n C.1 C.2.1 dX4_node_47 rfl (lv_at hl 2 rfl) ?_
  refine lv_tableIn (tgt := 125) C.1 C.2.1 dX4_node_48 (by decide) (by decide) rfl (by decide) ?_
  refine lv_aload_n C.1 C.2.1 dX4_node_125 rfl (lv_at hl 0 rfl) ?_
  refine x_get (C := RX4) (T := TX4) (N := 37) (v := .ref (a 8)) C inX4 hH 0 gM_0 rfl 18 (by decide) rfl rfl 6 rfl dX4_node_126 ?_
  refine lv_iload_n C.1 C.2.1 dX4_node_129 rfl (lv_at hl 1 rfl) ?_
  refine x_iald (f := T 3) (j := k) (v := T 3 k) C hH 8 gM_8 (by omega) (by decide) (rfl) dX4_node_130 ?_
  have hH := x_eqw (w' := wM G a S T K Z L (tS F 3 (nI 0))) (rfl) hH
  exact hE _ _ _ _ _ hH (rfl) (rfl) dX4_node_131
set_option maxHeartbeats 400000 in
set_option maxRecDepth 100000 in
theorem c_X4_node_4 (l : Launch) (G : xG) (a : Nat → Nat) (S T K Z : Nat → Nat → Int32) (L : Nat → Nat → Int64) (F : Nat → Int32) (k : Nat) (lv nd : Nat) (h2 : F 2 = nI 1) (h4 : F 4 = nI lv) (h6 : F 6 = nI nd) (h1 : 1 ≤ lv) (hl9 : lv ≤ nd) (hl10 : lv ≤ 10) (hn : nd ≤ 19) (hk : k < nd) : xMi l yX4_node wsX4_node { frames := 1, cells := 0, slots := 0, locals := 21 } [.ref (a 0), .int (nI k), .int (nI 4)] G (wM G a S T K Z L F) (T 4 k) (wM G a S T K Z L (tS F 3 (nI 0))) 0 0 := by
  have hk1 : ¬ (nI k) < 0 ∧ ¬ F 6 ≤ (nI k) := ⟨nI_pos (by omega), by rw [h6]; exact fun z => absurd ((nI_leI (by omega) (by omega)).mp z) (by omega)⟩
  refine x_ofi (cc := cX4_node) (maxL := 3) (ty := .int) (by decide) rfl (Nat.le_of_ble_eq_true rfl) ?_
  intro p e s m args below meth c ls A Q C hml hA hH hl hE
  have hl : lv_has ls 3 [(0, .ref (a 0)), (1, .int (nI k)), (2, .int (nI 4))] := hl
  have inX4 : ∀ w ∈ wsX40, w ∈ wsX4_node := fun _ h => (List.mem_cons_of_mem _ (List.mem_append_right _ h))
  refine lv_aload_n C.1 C.2.1 dX4_node_0 rfl (lv_at hl 0 rfl) ?_
  refine lv_aload_n C.1 C.2.1 dX4_node_1 rfl (lv_at hl 0 rfl) ?_
  refine x_get (C := RX4) (T := TX4) (N := 37) (v := .int (F 2)) C inX4 hH 0 gM_0 rfl 13 (by decide) rfl rfl 1 rfl dX4_node_2 ?_
  refine x_toi h2 ?_
  refine lv_if_ne (tgt := 12) C.1 C.2.1 dX4_node_5 (by decide) (fun _ => ?_) (fun c_1 => absurd (c_1) (by decide))
  refine lv_aload_n C.1 C.2.1 dX4_node_12 rfl (lv_at hl 0 rfl) ?_
  refine lv_iload_n C.1 C.2.1 dX4_node_13 rfl (lv_at hl 1 rfl) ?_
  refine x_ci (w' := wM G a S T K Z L F) (va_runV (As := [.int (nI k)]) (rest := [.ref (a 0)]) (x_fix C hml) (c_X4_isNode l G a S T K Z L F (nI k) _) (cwV 1 C.2.2.2.1 gX4_node_X4_isNode rfl rfl rfl (by decide +kernel) ⟨Nat.le_of_ble_eq_true rfl, Nat.le_of_ble_eq_true rfl⟩) (x_pv C hH rfl gM_0 rfl rfl) rfl rfl hl.1 rfl (lv_room (Nat.le_of_ble_eq_true rfl)) dX4_node_14 ⟨Nat.le_of_ble_eq_true rfl, Nat.le_of_ble_eq_true rfl⟩) hH hA (fun H locs hH => ?_)
  refine lv_if_eq (tgt := 30) C.1 C.2.1 dX4_node_17 (by decide) (fun z8 => absurd z8 (fun z9 => xb_0.mp z9 hk1)) (fun _ => ?_)
  refine lv_iload_n C.1 C.2.1 dX4_node_20 rfl (lv_at hl 2 rfl) ?_
  refine lv_if_lt (tgt := 30) C.1 C.2.1 dX4_node_21 (by decide) (fun c_3 => absurd c_3 (by decide)) (fun _ => ?_)
  refine lv_iload_n C.1 C.2.1 dX4_node_24 rfl (lv_at hl 2 rfl) ?_
  refine lv_bipush (v := nI 10) C.1 C.2.1 dX4_node_25 (by decide) ?_
  refine lv_icmp_le (tgt := 34) C.1 C.2.1 dX4_node_27 (by decide) (fun _ => ?_) (fun c_4 => absurd (by decide) c_4)
  refine lv_iconst (v := nI 0) C.1 C.2.1 dX4_node_34 (by decide) ?_
  refine x_put (C := RX4) (T := TX4) (N := 37) (v := .int (nI 0)) (w' := wM G a S T K Z L ((tS F 3 (nI 0)))) C inX4 tyX4 tyX4_ok nmX4 hH 0 gM_0 rfl 0 (by decide) rfl rfl rfl rfl (Nat.le_of_ble_eq_true rfl) fM_0_0 2 rfl dX4_node_35 (fun H locs hH => ?_)
  refine lv_aload_n C.1 C.2.1 dX4_node_38 rfl (lv_at hl 0 rfl) ?_
  refine x_get (C := RX4) (T := TX4) (N := 37) (v := .int (nI 0)) C inX4 hH 0 gM_0 rfl 0 (by decide) rfl rfl 2 rfl dX4_node_39 ?_
  refine lv_if_le (tgt := 47) C.1 C.2.1 dX4_node_42 (by decide) (fun _ => ?_) (fun c_5 => absurd (by decide) c_5)
  refine lv_iload_n C.1 C.2.1 dX4_node_47 rfl (lv_at hl 2 rfl) ?_
  refine lv_tableIn (tgt := 132) C.1 C.2.1 dX4_node_48 (by decide) (by decide) rfl (by decide) ?_
  refine lv_aload_n C.1 C.2.1 dX4_node_132 rfl (lv_at hl 0 rfl) ?_
  refine x_get (C := RX4) (T := TX4) (N := 37) (v := .ref (a 9)) C inX4 hH 0 gM_0 rfl 19 (by decide) rfl rfl 7 rfl dX4_node_133 ?_
  refine lv_iload_n C.1 C.2.1 dX4_node_136 rfl (lv_at hl 1 rfl) ?_
  refine x_iald (f := T 4) (j := k) (v := T 4 k) C hH 9 gM_9 (by omega) (by decide) (rfl) dX4_node_137 ?_
  have hH := x_eqw (w' := wM G a S T K Z L (tS F 3 (nI 0))) (rfl) hH
  exact hE _ _ _ _ _ hH (rfl) (rfl) dX4_node_138
set_option maxHeartbeats 400000 in
set_option maxRecDepth 100000 in
theorem c_X4_node_5 (l : Launch) (G : xG) (a : Nat → Nat) (S T K Z : Nat → Nat → Int32) (L : Nat → Nat → Int64) (F : Nat → Int32) (k : Nat) (lv nd : Nat) (h2 : F 2 = nI 1) (h4 : F 4 = nI lv) (h6 : F 6 = nI nd) (h1 : 1 ≤ lv) (hl9 : lv ≤ nd) (hl10 : lv ≤ 10) (hn : nd ≤ 19) (hk : k < nd) : xMi l yX4_node wsX4_node { frames := 1, cells := 0, slots := 0, locals := 21 } [.ref (a 0), .int (nI k), .int (nI 5)] G (wM G a S T K Z L F) (T 5 k) (wM G a S T K Z L (tS F 3 (nI 0))) 0 0 := by
  have hk1 : ¬ (nI k) < 0 ∧ ¬ F 6 ≤ (nI k) := ⟨nI_pos (by omega), by rw [h6]; exact fun z => absurd ((nI_leI (by omega) (by omega)).mp z) (by omega)⟩
  refine x_ofi (cc := cX4_node) (maxL := 3) (ty := .int) (by decide) rfl (Nat.le_of_ble_eq_true rfl) ?_
  intro p e s m args below meth c ls A Q C hml hA hH hl hE
  have hl : lv_has ls 3 [(0, .ref (a 0)), (1, .int (nI k)), (2, .int (nI 5))] := hl
  have inX4 : ∀ w ∈ wsX40, w ∈ wsX4_node := fun _ h => (List.mem_cons_of_mem _ (List.mem_append_right _ h))
  refine lv_aload_n C.1 C.2.1 dX4_node_0 rfl (lv_at hl 0 rfl) ?_
  refine lv_aload_n C.1 C.2.1 dX4_node_1 rfl (lv_at hl 0 rfl) ?_
  refine x_get (C := RX4) (T := TX4) (N := 37) (v := .int (F 2)) C inX4 hH 0 gM_0 rfl 13 (by decide) rfl rfl 1 rfl dX4_node_2 ?_
  refine x_toi h2 ?_
  refine lv_if_ne (tgt := 12) C.1 C.2.1 dX4_node_5 (by decide) (fun _ => ?_) (fun c_1 => absurd (c_1) (by decide))
  refine lv_aload_n C.1 C.2.1 dX4_node_12 rfl (lv_at hl 0 rfl) ?_
  refine lv_iload_n C.1 C.2.1 dX4_node_13 rfl (lv_at hl 1 rfl) ?_
  refine x_ci (w' := wM G a S T K Z L F) (va_runV (As := [.int (nI k)]) (rest := [.ref (a 0)]) (x_fix C hml) (c_X4_isNode l G a S T K Z L F (nI k) _) (cwV 1 C.2.2.2.1 gX4_node_X4_isNode rfl rfl rfl (by decide +kernel) ⟨Nat.le_of_ble_eq_true rfl, Nat.le_of_ble_eq_true rfl⟩) (x_pv C hH rfl gM_0 rfl rfl) rfl rfl hl.1 rfl (lv_room (Nat.le_of_ble_eq_true rfl)) dX4_node_14 ⟨Nat.le_of_ble_eq_true rfl, Nat.le_of_ble_eq_true rfl⟩) hH hA (fun H locs hH => ?_)
  refine lv_if_eq (tgt := 30) C.1 C.2.1 dX4_node_17 (by decide) (fun z8 => absurd z8 (fun z9 => xb_0.mp z9 hk1)) (fun _ => ?_)
  refine lv_iload_n C.1 C.2.1 dX4_node_20 rfl (lv_at hl 2 rfl) ?_
  refine lv_if_lt (tgt := 30) C.1 C.2.1 dX4_node_21 (by decide) (fun c_3 => absurd c_3 (by decide)) (fun _ => ?_)
  refine lv_iload_n C.1 C.2.1 dX4_node_24 rfl (lv_at hl 2 rfl) ?_
  refine lv_bipush (v := nI 10) C.1 C.2.1 dX4_node_25 (by decide) ?_
  refine lv_icmp_le (tgt := 34) C.1 C.2.1 dX4_node_27 (by decide) (fun _ => ?_) (fun c_4 => absurd (by decide) c_4)
  refine lv_iconst (v := nI 0) C.1 C.2.1 dX4_node_34 (by decide) ?_
  refine x_put (C := RX4) (T := TX4) (N := 37) (v := .int (nI 0)) (w' := wM G a S T K Z L ((tS F 3 (nI 0)))) C inX4 tyX4 tyX4_ok nmX4 hH 0 gM_0 rfl 0 (by decide) rfl rfl rfl rfl (Nat.le_of_ble_eq_true rfl) fM_0_0 2 rfl dX4_node_35 (fun H locs hH => ?_)
  refine lv_aload_n C.1 C.2.1 dX4_node_38 rfl (lv_at hl 0 rfl) ?_
  refine x_get (C := RX4) (T := TX4) (N := 37) (v := .int (nI 0)) C inX4 hH 0 gM_0 rfl 0 (by decide) rfl rfl 2 rfl dX4_node_39 ?_
  refine lv_if_le (tgt := 47) C.1 C.2.1 dX4_node_42 (by decide) (fun _ => ?_) (fun c_5 => absurd (by decide) c_5)
  refine lv_iload_n C.1 C.2.1 dX4_node_47 rfl (lv_at hl 2 rfl) ?_
  refine lv_tableIn (tgt := 139) C.1 C.2.1 dX4_node_48 (by decide) (by decide) rfl (by decide) ?_
  refine lv_aload_n C.1 C.2.1 dX4_node_139 rfl (lv_at hl 0 rfl) ?_
  refine x_get (C := RX4) (T := TX4) (N := 37) (v := .ref (a 10)) C inX4 hH 0 gM_0 rfl 20 (by decide) rfl rfl 8 rfl dX4_node_140 ?_
  refine lv_iload_n C.1 C.2.1 dX4_node_143 rfl (lv_at hl 1 rfl) ?_
  refine x_iald (f := T 5) (j := k) (v := T 5 k) C hH 10 gM_10 (by omega) (by decide) (rfl) dX4_node_144 ?_
  have hH := x_eqw (w' := wM G a S T K Z L (tS F 3 (nI 0))) (rfl) hH
  exact hE _ _ _ _ _ hH (rfl) (rfl) dX4_node_145
set_option maxHeartbeats 400000 in
set_option maxRecDepth 100000 in
theorem c_X4_node_6 (l : Launch) (G : xG) (a : Nat → Nat) (S T K Z : Nat → Nat → Int32) (L : Nat → Nat → Int64) (F : Nat → Int32) (k : Nat) (lv nd : Nat) (h2 : F 2 = nI 1) (h4 : F 4 = nI lv) (h6 : F 6 = nI nd) (h1 : 1 ≤ lv) (hl9 : lv ≤ nd) (hl10 : lv ≤ 10) (hn : nd ≤ 19) (hk : k < nd) : xMi l yX4_node wsX4_node { frames := 1, cells := 0, slots := 0, locals := 21 } [.ref (a 0), .int (nI k), .int (nI 6)] G (wM G a S T K Z L F) (T 6 k) (wM G a S T K Z L (tS F 3 (nI 0))) 0 0 := by
  have hk1 : ¬ (nI k) < 0 ∧ ¬ F 6 ≤ (nI k) := ⟨nI_pos (by omega), by rw [h6]; exact fun z => absurd ((nI_leI (by omega) (by omega)).mp z) (by omega)⟩
  refine x_ofi (cc := cX4_node) (maxL := 3) (ty := .int) (by decide) rfl (Nat.le_of_ble_eq_true rfl) ?_
  intro p e s m args below meth c ls A Q C hml hA hH hl hE
  have hl : lv_has ls 3 [(0, .ref (a 0)), (1, .int (nI k)), (2, .int (nI 6))] := hl
  have inX4 : ∀ w ∈ wsX40, w ∈ wsX4_node := fun _ h => (List.mem_cons_of_mem _ (List.mem_append_right _ h))
  refine lv_aload_n C.1 C.2.1 dX4_node_0 rfl (lv_at hl 0 rfl) ?_
  refine lv_aload_n C.1 C.2.1 dX4_node_1 rfl (lv_at hl 0 rfl) ?_
  refine x_get (C := RX4) (T := TX4) (N := 37) (v := .int (F 2)) C inX4 hH 0 gM_0 rfl 13 (by decide) rfl rfl 1 rfl dX4_node_2 ?_
  refine x_toi h2 ?_
  refine lv_if_ne (tgt := 12) C.1 C.2.1 dX4_node_5 (by decide) (fun _ => ?_) (fun c_1 => absurd (c_1) (by decide))
  refine lv_aload_n C.1 C.2.1 dX4_node_12 rfl (lv_at hl 0 rfl) ?_
  refine lv_iload_n C.1 C.2.1 dX4_node_13 rfl (lv_at hl 1 rfl) ?_
  refine x_ci (w' := wM G a S T K Z L F) (va_runV (As := [.int (nI k)]) (rest := [.ref (a 0)]) (x_fix C hml) (c_X4_isNode l G a S T K Z L F (nI k) _) (cwV 1 C.2.2.2.1 gX4_node_X4_isNode rfl rfl rfl (by decide +kernel) ⟨Nat.le_of_ble_eq_true rfl, Nat.le_of_ble_eq_true rfl⟩) (x_pv C hH rfl gM_0 rfl rfl) rfl rfl hl.1 rfl (lv_room (Nat.le_of_ble_eq_true rfl)) dX4_node_14 ⟨Nat.le_of_ble_eq_true rfl, Nat.le_of_ble_eq_true rfl⟩) hH hA (fun H locs hH => ?_)
  refine lv_if_eq (tgt := 30) C.1 C.2.1 dX4_node_17 (by decide) (fun z8 => absurd z8 (fun z9 => xb_0.mp z9 hk1)) (fun _ => ?_)
  refine lv_iload_n C.1 C.2.1 dX4_node_20 rfl (lv_at hl 2 rfl) ?_
  refine lv_if_lt (tgt := 30) C.1 C.2.1 dX4_node_21 (by decide) (fun c_3 => absurd c_3 (by decide)) (fun _ => ?_)
  refine lv_iload_n C.1 C.2.1 dX4_node_24 rfl (lv_at hl 2 rfl) ?_
  refine lv_bipush (v := nI 10) C.1 C.2.1 dX4_node_25 (by decide) ?_
  refine lv_icmp_le (tgt := 34) C.1 C.2.1 dX4_node_27 (by decide) (fun _ => ?_) (fun c_4 => absurd (by decide) c_4)
  refine lv_iconst (v := nI 0) C.1 C.2.1 dX4_node_34 (by decide) ?_
  refine x_put (C := RX4) (T := TX4) (N := 37) (v := .int (nI 0)) (w' := wM G a S T K Z L ((tS F 3 (nI 0)))) C inX4 tyX4 tyX4_ok nmX4 hH 0 gM_0 rfl 0 (by decide) rfl rfl rfl rfl (Nat.le_of_ble_eq_true rfl) fM_0_0 2 rfl dX4_node_35 (fun H locs hH => ?_)
  refine lv_aload_n C.1 C.2.1 dX4_node_38 rfl (lv_at hl 0 rfl) ?_
  refine x_get (C := RX4) (T := TX4) (N := 37) (v := .int (nI 0)) C inX4 hH 0 gM_0 rfl 0 (by decide) rfl rfl 2 rfl dX4_node_39 ?_
  refine lv_if_le (tgt := 47) C.1 C.2.1 dX4_node_42 (by decide) (fun _ => ?_) (fun c_5 => absurd (by decide) c_5)
  refine lv_iload_n C.1 C.2.1 dX4_node_47 rfl (lv_at hl 2 rfl) ?_
  refine lv_tableIn (tgt := 146) C.1 C.2.1 dX4_node_48 (by decide) (by decide) rfl (by decide) ?_
  refine lv_aload_n C.1 C.2.1 dX4_node_146 rfl (lv_at hl 0 rfl) ?_
  refine x_get (C := RX4) (T := TX4) (N := 37) (v := .ref (a 11)) C inX4 hH 0 gM_0 rfl 21 (by decide) rfl rfl 9 rfl dX4_node_147 ?_
  refine lv_iload_n C.1 C.2.1 dX4_node_150 rfl (lv_at hl 1 rfl) ?_
  refine x_iald (f := T 6) (j := k) (v := T 6 k) C hH 11 gM_11 (by omega) (by decide) (rfl) dX4_node_151 ?_
  have hH := x_eqw (w' := wM G a S T K Z L (tS F 3 (nI 0))) (rfl) hH
  exact hE _ _ _ _ _ hH (rfl) (rfl) dX4_node_152
set_option maxHeartbeats 400000 in
set_option maxRecDepth 100000 in
theorem c_X4_node_7 (l : Launch) (G : xG) (a : Nat → Nat) (S T K Z : Nat → Nat → Int32) (L : Nat → Nat → Int64) (F : Nat → Int32) (k : Nat) (lv nd : Nat) (h2 : F 2 = nI 1) (h4 : F 4 = nI lv) (h6 : F 6 = nI nd) (h1 : 1 ≤ lv) (hl9 : lv ≤ nd) (hl10 : lv ≤ 10) (hn : nd ≤ 19) (hk : k < nd) : xMi l yX4_node wsX4_node { frames := 1, cells := 0, slots := 0, locals := 21 } [.ref (a 0), .int (nI k), .int (nI 7)] G (wM G a S T K Z L F) (T 7 k) (wM G a S T K Z L (tS F 3 (nI 0))) 0 0 := by
  have hk1 : ¬ (nI k) < 0 ∧ ¬ F 6 ≤ (nI k) := ⟨nI_pos (by omega), by rw [h6]; exact fun z => absurd ((nI_leI (by omega) (by omega)).mp z) (by omega)⟩
  refine x_ofi (cc := cX4_node) (maxL := 3) (ty := .int) (by decide) rfl (Nat.le_of_ble_eq_true rfl) ?_
  intro p e s m args below meth c ls A Q C hml hA hH hl hE
  have hl : lv_has ls 3 [(0, .ref (a 0)), (1, .int (nI k)), (2, .int (nI 7))] := hl
  have inX4 : ∀ w ∈ wsX40, w ∈ wsX4_node := fun _ h => (List.mem_cons_of_mem _ (List.mem_append_right _ h))
  refine lv_aload_n C.1 C.2.1 dX4_node_0 rfl (lv_at hl 0 rfl) ?_
  refine lv_aload_n C.1 C.2.1 dX4_node_1 rfl (lv_at hl 0 rfl) ?_
  refine x_get (C := RX4) (T := TX4) (N := 37) (v := .int (F 2)) C inX4 hH 0 gM_0 rfl 13 (by decide) rfl rfl 1 rfl dX4_node_2 ?_
  refine x_toi h2 ?_
  refine lv_if_ne (tgt := 12) C.1 C.2.1 dX4_node_5 (by decide) (fun _ => ?_) (fun c_1 => absurd (c_1) (by decide))
  refine lv_aload_n C.1 C.2.1 dX4_node_12 rfl (lv_at hl 0 rfl) ?_
  refine lv_iload_n C.1 C.2.1 dX4_node_13 rfl (lv_at hl 1 rfl) ?_
  refine x_ci (w' := wM G a S T K Z L F) (va_runV (As := [.int (nI k)]) (rest := [.ref (a 0)]) (x_fix C hml) (c_X4_isNode l G a S T K Z L F (nI k) _) (cwV 1 C.2.2.2.1 gX4_node_X4_isNode rfl rfl rfl (by decide +kernel) ⟨Nat.le_of_ble_eq_true rfl, Nat.le_of_ble_eq_true rfl⟩) (x_pv C hH rfl gM_0 rfl rfl) rfl rfl hl.1 rfl (lv_room (Nat.le_of_ble_eq_true rfl)) dX4_node_14 ⟨Nat.le_of_ble_eq_true rfl, Nat.le_of_ble_eq_true rfl⟩) hH hA (fun H locs hH => ?_)
  refine lv_if_eq (tgt := 30) C.1 C.2.1 dX4_node_17 (by decide) (fun z8 => absurd z8 (fun z9 => xb_0.mp z9 hk1)) (fun _ => ?_)
  refine lv_iload_n C.1 C.2.1 dX4_node_20 rfl (lv_at hl 2 rfl) ?_
  refine lv_if_lt (tgt := 30) C.1 C.2.1 dX4_node_21 (by decide) (fun c_3 => absurd c_3 (by decide)) (fun _ => ?_)
  refine lv_iload_n C.1 C.2.1 dX4_node_24 rfl (lv_at hl 2 rfl) ?_
  refine lv_bipush (v := nI 10) C.1 C.2.1 dX4_node_25 (by decide) ?_
  refine lv_icmp_le (tgt := 34) C.1 C.2.1 dX4_node_27 (by decide) (fun _ => ?_) (fun c_4 => absurd (by decide) c_4)
  refine lv_iconst (v := nI 0) C.1 C.2.1 dX4_node_34 (by decide) ?_
  refine x_put (C := RX4) (T := TX4) (N := 37) (v := .int (nI 0)) (w' := wM G a S T K Z L ((tS F 3 (nI 0)))) C inX4 tyX4 tyX4_ok nmX4 hH 0 gM_0 rfl 0 (by decide) rfl rfl rfl rfl (Nat.le_of_ble_eq_true rfl) fM_0_0 2 rfl dX4_node_35 (fun H locs hH => ?_)
  refine lv_aload_n C.1 C.2.1 dX4_node_38 rfl (lv_at hl 0 rfl) ?_
  refine x_get (C := RX4) (T := TX4) (N := 37) (v := .int (nI 0)) C inX4 hH 0 gM_0 rfl 0 (by decide) rfl rfl 2 rfl dX4_node_39 ?_
  refine lv_if_le (tgt := 47) C.1 C.2.1 dX4_node_42 (by decide) (fun _ => ?_) (fun c_5 => absurd (by decide) c_5)
  refine lv_iload_n C.1 C.2.1 dX4_node_47 rfl (lv_at hl 2 rfl) ?_
  refine lv_tableIn (tgt := 153) C.1 C.2.1 dX4_node_48 (by decide) (by decide) rfl (by decide) ?_
  refine lv_aload_n C.1 C.2.1 dX4_node_153 rfl (lv_at hl 0 rfl) ?_
  refine x_get (C := RX4) (T := TX4) (N := 37) (v := .ref (a 12)) C inX4 hH 0 gM_0 rfl 22 (by decide) rfl rfl 10 rfl dX4_node_154 ?_
  refine lv_iload_n C.1 C.2.1 dX4_node_157 rfl (lv_at hl 1 rfl) ?_
  refine x_iald (f := T 7) (j := k) (v := T 7 k) C hH 12 gM_12 (by omega) (by decide) (rfl) dX4_node_158 ?_
  have hH := x_eqw (w' := wM G a S T K Z L (tS F 3 (nI 0))) (rfl) hH
  exact hE _ _ _ _ _ hH (rfl) (rfl) dX4_node_159
set_option maxHeartbeats 400000 in
set_option maxRecDepth 100000 in
theorem c_X4_node_8 (l : Launch) (G : xG) (a : Nat → Nat) (S T K Z : Nat → Nat → Int32) (L : Nat → Nat → Int64) (F : Nat → Int32) (k : Nat) (lv nd : Nat) (h2 : F 2 = nI 1) (h4 : F 4 = nI lv) (h6 : F 6 = nI nd) (h1 : 1 ≤ lv) (hl9 : lv ≤ nd) (hl10 : lv ≤ 10) (hn : nd ≤ 19) (hk : k < nd) : xMi l yX4_node wsX4_node { frames := 1, cells := 0, slots := 0, locals := 21 } [.ref (a 0), .int (nI k), .int (nI 8)] G (wM G a S T K Z L F) (T 8 k) (wM G a S T K Z L (tS F 3 (nI 0))) 0 0 := by
  have hk1 : ¬ (nI k) < 0 ∧ ¬ F 6 ≤ (nI k) := ⟨nI_pos (by omega), by rw [h6]; exact fun z => absurd ((nI_leI (by omega) (by omega)).mp z) (by omega)⟩
  refine x_ofi (cc := cX4_node) (maxL := 3) (ty := .int) (by decide) rfl (Nat.le_of_ble_eq_true rfl) ?_
  intro p e s m args below meth c ls A Q C hml hA hH hl hE
  have hl : lv_has ls 3 [(0, .ref (a 0)), (1, .int (nI k)), (2, .int (nI 8))] := hl
  have inX4 : ∀ w ∈ wsX40, w ∈ wsX4_node := fun _ h => (List.mem_cons_of_mem _ (List.mem_append_right _ h))
  refine lv_aload_n C.1 C.2.1 dX4_node_0 rfl (lv_at hl 0 rfl) ?_
  refine lv_aload_n C.1 C.2.1 dX4_node_1 rfl (lv_at hl 0 rfl) ?_
  refine x_get (C := RX4) (T := TX4) (N := 37) (v := .int (F 2)) C inX4 hH 0 gM_0 rfl 13 (by decide) rfl rfl 1 rfl dX4_node_2 ?_
  refine x_toi h2 ?_
  refine lv_if_ne (tgt := 12) C.1 C.2.1 dX4_node_5 (by decide) (fun _ => ?_) (fun c_1 => absurd (c_1) (by decide))
  refine lv_aload_n C.1 C.2.1 dX4_node_12 rfl (lv_at hl 0 rfl) ?_
  refine lv_iload_n C.1 C.2.1 dX4_node_13 rfl (lv_at hl 1 rfl) ?_
  refine x_ci (w' := wM G a S T K Z L F) (va_runV (As := [.int (nI k)]) (rest := [.ref (a 0)]) (x_fix C hml) (c_X4_isNode l G a S T K Z L F (nI k) _) (cwV 1 C.2.2.2.1 gX4_node_X4_isNode rfl rfl rfl (by decide +kernel) ⟨Nat.le_of_ble_eq_true rfl, Nat.le_of_ble_eq_true rfl⟩) (x_pv C hH rfl gM_0 rfl rfl) rfl rfl hl.1 rfl (lv_room (Nat.le_of_ble_eq_true rfl)) dX4_node_14 ⟨Nat.le_of_ble_eq_true rfl, Nat.le_of_ble_eq_true rfl⟩) hH hA (fun H locs hH => ?_)
  refine lv_if_eq (tgt := 30) C.1 C.2.1 dX4_node_17 (by decide) (fun z8 => absurd z8 (fun z9 => xb_0.mp z9 hk1)) (fun _ => ?_)
  refine lv_iload_n C.1 C.2.1 dX4_node_20 rfl (lv_at hl 2 rfl) ?_
  refine lv_if_lt (tgt := 30) C.1 C.2.1 dX4_node_21 (by decide) (fun c_3 => absurd c_3 (by decide)) (fun _ => ?_)
  refine lv_iload_n C.1 C.2.1 dX4_node_24 rfl (lv_at hl 2 rfl) ?_
  refine lv_bipush (v := nI 10) C.1 C.2.1 dX4_node_25 (by decide) ?_
  refine lv_icmp_le (tgt := 34) C.1 C.2.1 dX4_node_27 (by decide) (fun _ => ?_) (fun c_4 => absurd (by decide) c_4)
  refine lv_iconst (v := nI 0) C.1 C.2.1 dX4_node_34 (by decide) ?_
  refine x_put (C := RX4) (T := TX4) (N := 37) (v := .int (nI 0)) (w' := wM G a S T K Z L ((tS F 3 (nI 0)))) C inX4 tyX4 tyX4_ok nmX4 hH 0 gM_0 rfl 0 (by decide) rfl rfl rfl rfl (Nat.le_of_ble_eq_true rfl) fM_0_0 2 rfl dX4_node_35 (fun H locs hH => ?_)
  refine lv_aload_n C.1 C.2.1 dX4_node_38 rfl (lv_at hl 0 rfl) ?_
  refine x_get (C := RX4) (T := TX4) (N := 37) (v := .int (nI 0)) C inX4 hH 0 gM_0 rfl 0 (by decide) rfl rfl 2 rfl dX4_node_39 ?_
  refine lv_if_le (tgt := 47) C.1 C.2.1 dX4_node_42 (by decide) (fun _ => ?_) (fun c_5 => absurd (by decide) c_5)
  refine lv_iload_n C.1 C.2.1 dX4_node_47 rfl (lv_at hl 2 rfl) ?_
  refine lv_tableIn (tgt := 160) C.1 C.2.1 dX4_node_48 (by decide) (by decide) rfl (by decide) ?_
  refine lv_aload_n C.1 C.2.1 dX4_node_160 rfl (lv_at hl 0 rfl) ?_
  refine x_get (C := RX4) (T := TX4) (N := 37) (v := .ref (a 13)) C inX4 hH 0 gM_0 rfl 23 (by decide) rfl rfl 11 rfl dX4_node_161 ?_
  refine lv_iload_n C.1 C.2.1 dX4_node_164 rfl (lv_at hl 1 rfl) ?_
  refine x_iald (f := T 8) (j := k) (v := T 8 k) C hH 13 gM_13 (by omega) (by decide) (rfl) dX4_node_165 ?_
  have hH := x_eqw (w' := wM G a S T K Z L (tS F 3 (nI 0))) (rfl) hH
  exact hE _ _ _ _ _ hH (rfl) (rfl) dX4_node_166
set_option maxHeartbeats 400000 in
set_option maxRecDepth 100000 in
theorem c_X4_node_9 (l : Launch) (G : xG) (a : Nat → Nat) (S T K Z : Nat → Nat → Int32) (L : Nat → Nat → Int64) (F : Nat → Int32) (k : Nat) (lv nd : Nat) (h2 : F 2 = nI 1) (h4 : F 4 = nI lv) (h6 : F 6 = nI nd) (h1 : 1 ≤ lv) (hl9 : lv ≤ nd) (hl10 : lv ≤ 10) (hn : nd ≤ 19) (hk : k < nd) : xMi l yX4_node wsX4_node { frames := 1, cells := 0, slots := 0, locals := 21 } [.ref (a 0), .int (nI k), .int (nI 9)] G (wM G a S T K Z L F) (T 9 k) (wM G a S T K Z L (tS F 3 (nI 0))) 0 0 := by
  have hk1 : ¬ (nI k) < 0 ∧ ¬ F 6 ≤ (nI k) := ⟨nI_pos (by omega), by rw [h6]; exact fun z => absurd ((nI_leI (by omega) (by omega)).mp z) (by omega)⟩
  refine x_ofi (cc := cX4_node) (maxL := 3) (ty := .int) (by decide) rfl (Nat.le_of_ble_eq_true rfl) ?_
  intro p e s m args below meth c ls A Q C hml hA hH hl hE
  have hl : lv_has ls 3 [(0, .ref (a 0)), (1, .int (nI k)), (2, .int (nI 9))] := hl
  have inX4 : ∀ w ∈ wsX40, w ∈ wsX4_node := fun _ h => (List.mem_cons_of_mem _ (List.mem_append_right _ h))
  refine lv_aload_n C.1 C.2.1 dX4_node_0 rfl (lv_at hl 0 rfl) ?_
  refine lv_aload_n C.1 C.2.1 dX4_node_1 rfl (lv_at hl 0 rfl) ?_
  refine x_get (C := RX4) (T := TX4) (N := 37) (v := .int (F 2)) C inX4 hH 0 gM_0 rfl 13 (by decide) rfl rfl 1 rfl dX4_node_2 ?_
  refine x_toi h2 ?_
  refine lv_if_ne (tgt := 12) C.1 C.2.1 dX4_node_5 (by decide) (fun _ => ?_) (fun c_1 => absurd (c_1) (by decide))
  refine lv_aload_n C.1 C.2.1 dX4_node_12 rfl (lv_at hl 0 rfl) ?_
  refine lv_iload_n C.1 C.2.1 dX4_node_13 rfl (lv_at hl 1 rfl) ?_
  refine x_ci (w' := wM G a S T K Z L F) (va_runV (As := [.int (nI k)]) (rest := [.ref (a 0)]) (x_fix C hml) (c_X4_isNode l G a S T K Z L F (nI k) _) (cwV 1 C.2.2.2.1 gX4_node_X4_isNode rfl rfl rfl (by decide +kernel) ⟨Nat.le_of_ble_eq_true rfl, Nat.le_of_ble_eq_true rfl⟩) (x_pv C hH rfl gM_0 rfl rfl) rfl rfl hl.1 rfl (lv_room (Nat.le_of_ble_eq_true rfl)) dX4_node_14 ⟨Nat.le_of_ble_eq_true rfl, Nat.le_of_ble_eq_true rfl⟩) hH hA (fun H locs hH => ?_)
  refine lv_if_eq (tgt := 30) C.1 C.2.1 dX4_node_17 (by decide) (fun z8 => absurd z8 (fun z9 => xb_0.mp z9 hk1)) (fun _ => ?_)
  refine lv_iload_n C.1 C.2.1 dX4_node_20 rfl (lv_at hl 2 rfl) ?_
  refine lv_if_lt (tgt := 30) C.1 C.2.1 dX4_node_21 (by decide) (fun c_3 => absurd c_3 (by decide)) (fun _ => ?_)
  refine lv_iload_n C.1 C.2.1 dX4_node_24 rfl (lv_at hl 2 rfl) ?_
  refine lv_bipush (v := nI 10) C.1 C.2.1 dX4_node_25 (by decide) ?_
  refine lv_icmp_le (tgt := 34) C.1 C.2.1 dX4_node_27 (by decide) (fun _ => ?_) (fun c_4 => absurd (by decide) c_4)
  refine lv_iconst (v := nI 0) C.1 C.2.1 dX4_node_34 (by decide) ?_
  refine x_put (C := RX4) (T := TX4) (N := 37) (v := .int (nI 0)) (w' := wM G a S T K Z L ((tS F 3 (nI 0)))) C inX4 tyX4 tyX4_ok nmX4 hH 0 gM_0 rfl 0 (by decide) rfl rfl rfl rfl (Nat.le_of_ble_eq_true rfl) fM_0_0 2 rfl dX4_node_35 (fun H locs hH => ?_)
  refine lv_aload_n C.1 C.2.1 dX4_node_38 rfl (lv_at hl 0 rfl) ?_
  refine x_get (C := RX4) (T := TX4) (N := 37) (v := .int (nI 0)) C inX4 hH 0 gM_0 rfl 0 (by decide) rfl rfl 2 rfl dX4_node_39 ?_
  refine lv_if_le (tgt := 47) C.1 C.2.1 dX4_node_42 (by decide) (fun _ => ?_) (fun c_5 => absurd (by decide) c_5)
  refine lv_iload_n C.1 C.2.1 dX4_node_47 rfl (lv_at hl 2 rfl) ?_
  refine lv_tableIn (tgt := 167) C.1 C.2.1 dX4_node_48 (by decide) (by decide) rfl (by decide) ?_
  refine lv_aload_n C.1 C.2.1 dX4_node_167 rfl (lv_at hl 0 rfl) ?_
  refine x_get (C := RX4) (T := TX4) (N := 37) (v := .ref (a 14)) C inX4 hH 0 gM_0 rfl 24 (by decide) rfl rfl 12 rfl dX4_node_168 ?_
  refine lv_iload_n C.1 C.2.1 dX4_node_171 rfl (lv_at hl 1 rfl) ?_
  refine x_iald (f := T 9) (j := k) (v := T 9 k) C hH 14 gM_14 (by omega) (by decide) (rfl) dX4_node_172 ?_
  have hH := x_eqw (w' := wM G a S T K Z L (tS F 3 (nI 0))) (rfl) hH
  exact hE _ _ _ _ _ hH (rfl) (rfl) dX4_node_173
set_option maxHeartbeats 400000 in
set_option maxRecDepth 100000 in
theorem c_X4_node_10 (l : Launch) (G : xG) (a : Nat → Nat) (S T K Z : Nat → Nat → Int32) (L : Nat → Nat → Int64) (F : Nat → Int32) (k : Nat) (lv nd : Nat) (h2 : F 2 = nI 1) (h4 : F 4 = nI lv) (h6 : F 6 = nI nd) (h1 : 1 ≤ lv) (hl9 : lv ≤ nd) (hl10 : lv ≤ 10) (hn : nd ≤ 19) (hk : k < nd) : xMi l yX4_node wsX4_node { frames := 1, cells := 0, slots := 0, locals := 21 } [.ref (a 0), .int (nI k), .int (nI 10)] G (wM G a S T K Z L F) (T 10 k) (wM G a S T K Z L (tS F 3 (nI 0))) 0 0 := by
  have hk1 : ¬ (nI k) < 0 ∧ ¬ F 6 ≤ (nI k) := ⟨nI_pos (by omega), by rw [h6]; exact fun z => absurd ((nI_leI (by omega) (by omega)).mp z) (by omega)⟩
  refine x_ofi (cc := cX4_node) (maxL := 3) (ty := .int) (by decide) rfl (Nat.le_of_ble_eq_true rfl) ?_
  intro p e s m args below meth c ls A Q C hml hA hH hl hE
  have hl : lv_has ls 3 [(0, .ref (a 0)), (1, .int (nI k)), (2, .int (nI 10))] := hl
  have inX4 : ∀ w ∈ wsX40, w ∈ wsX4_node := fun _ h => (List.mem_cons_of_mem _ (List.mem_append_right _ h))
  refine lv_aload_n C.1 C.2.1 dX4_node_0 rfl (lv_at hl 0 rfl) ?_
  refine lv_aload_n C.1 C.2.1 dX4_node_1 rfl (lv_at hl 0 rfl) ?_
  refine x_get (C := RX4) (T := TX4) (N := 37) (v := .int (F 2)) C inX4 hH 0 gM_0 rfl 13 (by decide) rfl rfl 1 rfl dX4_node_2 ?_
  refine x_toi h2 ?_
  refine lv_if_ne (tgt := 12) C.1 C.2.1 dX4_node_5 (by decide) (fun _ => ?_) (fun c_1 => absurd (c_1) (by decide))
  refine lv_aload_n C.1 C.2.1 dX4_node_12 rfl (lv_at hl 0 rfl) ?_
  refine lv_iload_n C.1 C.2.1 dX4_node_13 rfl (lv_at hl 1 rfl) ?_
  refine x_ci (w' := wM G a S T K Z L F) (va_runV (As := [.int (nI k)]) (rest := [.ref (a 0)]) (x_fix C hml) (c_X4_isNode l G a S T K Z L F (nI k) _) (cwV 1 C.2.2.2.1 gX4_node_X4_isNode rfl rfl rfl (by decide +kernel) ⟨Nat.le_of_ble_eq_true rfl, Nat.le_of_ble_eq_true rfl⟩) (x_pv C hH rfl gM_0 rfl rfl) rfl rfl hl.1 rfl (lv_room (Nat.le_of_ble_eq_true rfl)) dX4_node_14 ⟨Nat.le_of_ble_eq_true rfl, Nat.le_of_ble_eq_true rfl⟩) hH hA (fun H locs hH => ?_)
  refine lv_if_eq (tgt := 30) C.1 C.2.1 dX4_node_17 (by decide) (fun z8 => absurd z8 (fun z9 => xb_0.mp z9 hk1)) (fun _ => ?_)
  refine lv_iload_n C.1 C.2.1 dX4_node_20 rfl (lv_at hl 2 rfl) ?_
  refine lv_if_lt (tgt := 30) C.1 C.2.1 dX4_node_21 (by decide) (fun c_3 => absurd c_3 (by decide)) (fun _ => ?_)
  refine lv_iload_n C.1 C.2.1 dX4_node_24 rfl (lv_at hl 2 rfl) ?_
  refine lv_bipush (v := nI 10) C.1 C.2.1 dX4_node_25 (by decide) ?_
  refine lv_icmp_le (tgt := 34) C.1 C.2.1 dX4_node_27 (by decide) (fun _ => ?_) (fun c_4 => absurd (by decide) c_4)
  refine lv_iconst (v := nI 0) C.1 C.2.1 dX4_node_34 (by decide) ?_
  refine x_put (C := RX4) (T := TX4) (N := 37) (v := .int (nI 0)) (w' := wM G a S T K Z L ((tS F 3 (nI 0)))) C inX4 tyX4 tyX4_ok nmX4 hH 0 gM_0 rfl 0 (by decide) rfl rfl rfl rfl (Nat.le_of_ble_eq_true rfl) fM_0_0 2 rfl dX4_node_35 (fun H locs hH => ?_)
  refine lv_aload_n C.1 C.2.1 dX4_node_38 rfl (lv_at hl 0 rfl) ?_
  refine x_get (C := RX4) (T := TX4) (N := 37) (v := .int (nI 0)) C inX4 hH 0 gM_0 rfl 0 (by decide) rfl rfl 2 rfl dX4_node_39 ?_
  refine lv_if_le (tgt := 47) C.1 C.2.1 dX4_node_42 (by decide) (fun _ => ?_) (fun c_5 => absurd (by decide) c_5)
  refine lv_iload_n C.1 C.2.1 dX4_node_47 rfl (lv_at hl 2 rfl) ?_
  refine lv_tableOut (tgt := 174) C.1 C.2.1 dX4_node_48 (by decide) (by decide) ?_
  refine lv_aload_n C.1 C.2.1 dX4_node_174 rfl (lv_at hl 0 rfl) ?_
  refine x_get (C := RX4) (T := TX4) (N := 37) (v := .ref (a 15)) C inX4 hH 0 gM_0 rfl 25 (by decide) rfl rfl 13 rfl dX4_node_175 ?_
  refine lv_iload_n C.1 C.2.1 dX4_node_178 rfl (lv_at hl 1 rfl) ?_
  refine x_iald (f := T 10) (j := k) (v := T 10 k) C hH 15 gM_15 (by omega) (by decide) (rfl) dX4_node_179 ?_
  have hH := x_eqw (w' := wM G a S T K Z L (tS F 3 (nI 0))) (rfl) hH
  exact hE _ _ _ _ _ hH (rfl) (rfl) dX4_node_180
theorem c_X4_node (l : Launch) (G : xG) (a : Nat → Nat) (S T K Z : Nat → Nat → Int32) (L : Nat → Nat → Int64) (F : Nat → Int32) (k q : Nat) (lv nd : Nat) (h2 : F 2 = nI 1) (h4 : F 4 = nI lv) (h6 : F 6 = nI nd) (h1 : 1 ≤ lv) (hl9 : lv ≤ nd) (hl10 : lv ≤ 10) (hn : nd ≤ 19) (hk : k < nd) (hq : q < 11) : xMi l yX4_node wsX4_node { frames := 1, cells := 0, slots := 0, locals := 21 } [.ref (a 0), .int (nI k), .int (nI q)] G (wM G a S T K Z L F) (T q k) (wM G a S T K Z L (tS F 3 (nI 0))) 0 0 := by
  rcases (show q = 0 ∨ q = 1 ∨ q = 2 ∨ q = 3 ∨ q = 4 ∨ q = 5 ∨ q = 6 ∨ q = 7 ∨ q = 8 ∨ q = 9 ∨ q = 10 by omega) with rfl | rfl | rfl | rfl | rfl | rfl | rfl | rfl | rfl | rfl | rfl
  · exact c_X4_node_0 l G a S T K Z L F k lv nd h2 h4 h6 h1 hl9 hl10 hn hk
  · exact c_X4_node_1 l G a S T K Z L F k lv nd h2 h4 h6 h1 hl9 hl10 hn hk
  · exact c_X4_node_2 l G a S T K Z L F k lv nd h2 h4 h6 h1 hl9 hl10 hn hk
  · exact c_X4_node_3 l G a S T K Z L F k lv nd h2 h4 h6 h1 hl9 hl10 hn hk
  · exact c_X4_node_4 l G a S T K Z L F k lv nd h2 h4 h6 h1 hl9 hl10 hn hk
  · exact c_X4_node_5 l G a S T K Z L F k lv nd h2 h4 h6 h1 hl9 hl10 hn hk
  · exact c_X4_node_6 l G a S T K Z L F k lv nd h2 h4 h6 h1 hl9 hl10 hn hk
  · exact c_X4_node_7 l G a S T K Z L F k lv nd h2 h4 h6 h1 hl9 hl10 hn hk
  · exact c_X4_node_8 l G a S T K Z L F k lv nd h2 h4 h6 h1 hl9 hl10 hn hk
  · exact c_X4_node_9 l G a S T K Z L F k lv nd h2 h4 h6 h1 hl9 hl10 hn hk
  · exact c_X4_node_10 l G a S T K Z L F k lv nd h2 h4 h6 h1 hl9 hl10 hn hk
set_option maxHeartbeats 400000 in
set_option maxRecDepth 100000 in
theorem c_X4_node_t1 (l : Launch) (G : xG) (a : Nat → Nat) (S T K Z : Nat → Nat → Int32) (L : Nat → Nat → Int64) (F : Nat → Int32) (x y : Int32) (h2 : F 2 = nI 0) : xMi l yX4_node wsX4_node { frames := 0, cells := 0, slots := 0, locals := 0 } [.ref (a 0), .int x, .int y] G (wM G a S T K Z L F) (nI 0) (wM G a S T K Z L (tS F 3 (nI 1))) 0 0 := by
  refine x_ofi (cc := cX4_node) (maxL := 3) (ty := .int) (by decide) rfl (Nat.le_of_ble_eq_true rfl) ?_
  intro p e s m args below meth c ls A Q C hml hA hH hl hE
  have hl : lv_has ls 3 [(0, .ref (a 0)), (1, .int x), (2, .int y)] := hl
  have inX4 : ∀ w ∈ wsX40, w ∈ wsX4_node := fun _ h => (List.mem_cons_of_mem _ (List.mem_append_right _ h))
  refine lv_aload_n C.1 C.2.1 dX4_node_0 rfl (lv_at hl 0 rfl) ?_
  refine lv_aload_n C.1 C.2.1 dX4_node_1 rfl (lv_at hl 0 rfl) ?_
  refine x_get (C := RX4) (T := TX4) (N := 37) (v := .int (F 2)) C inX4 hH 0 gM_0 rfl 13 (by decide) rfl rfl 1 rfl dX4_node_2 ?_
  refine x_toi h2 ?_
  refine lv_if_ne (tgt := 12) C.1 C.2.1 dX4_node_5 (by decide) (fun c_1 => absurd (by decide) c_1) (fun _ => ?_)
  refine lv_iconst (v := nI 1) C.1 C.2.1 dX4_node_8 (by decide) ?_
  refine lv_goto (tgt := 35) C.1 C.2.1 dX4_node_9 (by decide) ?_
  refine x_put (C := RX4) (T := TX4) (N := 37) (v := .int (nI 1)) (w' := wM G a S T K Z L ((tS F 3 (nI 1)))) C inX4 tyX4 tyX4_ok nmX4 hH 0 gM_0 rfl 0 (by decide) rfl rfl rfl rfl (Nat.le_of_ble_eq_true rfl) fM_0_0 2 rfl dX4_node_35 (fun H locs hH => ?_)
  refine lv_aload_n C.1 C.2.1 dX4_node_38 rfl (lv_at hl 0 rfl) ?_
  refine x_get (C := RX4) (T := TX4) (N := 37) (v := .int (nI 1)) C inX4 hH 0 gM_0 rfl 0 (by decide) rfl rfl 2 rfl dX4_node_39 ?_
  refine lv_if_le (tgt := 47) C.1 C.2.1 dX4_node_42 (by decide) (fun c_2 => absurd c_2 (by decide)) (fun _ => ?_)
  refine lv_iconst (v := nI 0) C.1 C.2.1 dX4_node_45 (by decide) ?_
  have hH := x_eqw (w' := wM G a S T K Z L (tS F 3 (nI 1))) (rfl) hH
  exact hE _ _ _ _ _ hH (rfl) (rfl) dX4_node_46
set_option maxHeartbeats 400000 in
set_option maxRecDepth 100000 in
theorem c_X4_node_t2 (l : Launch) (G : xG) (a : Nat → Nat) (S T K Z : Nat → Nat → Int32) (L : Nat → Nat → Int64) (F : Nat → Int32) (x y : Int32) (h2 : F 2 = nI 1) (hneg : ¬ ((¬ x < 0 ∧ ¬ F 6 ≤ x) ∧ ¬ y < 0 ∧ y ≤ nI 10)) : xMi l yX4_node wsX4_node { frames := 1, cells := 0, slots := 0, locals := 21 } [.ref (a 0), .int x, .int y] G (wM G a S T K Z L F) (nI 0) (wM G a S T K Z L (tS F 3 (nI 2))) 0 0 := by
  refine x_ofi (cc := cX4_node) (maxL := 3) (ty := .int) (by decide) rfl (Nat.le_of_ble_eq_true rfl) ?_
  intro p e s m args below meth c ls A Q C hml hA hH hl hE
  have hl : lv_has ls 3 [(0, .ref (a 0)), (1, .int x), (2, .int y)] := hl
  have inX4 : ∀ w ∈ wsX40, w ∈ wsX4_node := fun _ h => (List.mem_cons_of_mem _ (List.mem_append_right _ h))
  refine lv_aload_n C.1 C.2.1 dX4_node_0 rfl (lv_at hl 0 rfl) ?_
  refine lv_aload_n C.1 C.2.1 dX4_node_1 rfl (lv_at hl 0 rfl) ?_
  refine x_get (C := RX4) (T := TX4) (N := 37) (v := .int (F 2)) C inX4 hH 0 gM_0 rfl 13 (by decide) rfl rfl 1 rfl dX4_node_2 ?_
  refine x_toi h2 ?_
  refine lv_if_ne (tgt := 12) C.1 C.2.1 dX4_node_5 (by decide) (fun _ => ?_) (fun c_1 => absurd (c_1) (by decide))
  refine lv_aload_n C.1 C.2.1 dX4_node_12 rfl (lv_at hl 0 rfl) ?_
  refine lv_iload_n C.1 C.2.1 dX4_node_13 rfl (lv_at hl 1 rfl) ?_
  refine x_ci (w' := wM G a S T K Z L F) (va_runV (As := [.int x]) (rest := [.ref (a 0)]) (x_fix C hml) (c_X4_isNode l G a S T K Z L F x _) (cwV 1 C.2.2.2.1 gX4_node_X4_isNode rfl rfl rfl (by decide +kernel) ⟨Nat.le_of_ble_eq_true rfl, Nat.le_of_ble_eq_true rfl⟩) (x_pv C hH rfl gM_0 rfl rfl) rfl rfl hl.1 rfl (lv_room (Nat.le_of_ble_eq_true rfl)) dX4_node_14 ⟨Nat.le_of_ble_eq_true rfl, Nat.le_of_ble_eq_true rfl⟩) hH hA (fun H locs hH => ?_)
  refine lv_if_eq (tgt := 30) C.1 C.2.1 dX4_node_17 (by decide) (fun c_2 => ?_) (fun c_2 => ?_)
  · rw [xb_0] at c_2
    refine lv_iconst (v := nI 2) C.1 C.2.1 dX4_node_30 (by decide) ?_
    refine lv_goto (tgt := 35) C.1 C.2.1 dX4_node_31 (by decide) ?_
    refine x_put (C := RX4) (T := TX4) (N := 37) (v := .int (nI 2)) (w' := wM G a S T K Z L ((tS F 3 (nI 2)))) C inX4 tyX4 tyX4_ok nmX4 hH 0 gM_0 rfl 0 (by decide) rfl rfl rfl rfl (Nat.le_of_ble_eq_true rfl) fM_0_0 2 rfl dX4_node_35 (fun H locs hH => ?_)
    refine lv_aload_n C.1 C.2.1 dX4_node_38 rfl (lv_at hl 0 rfl) ?_
    refine x_get (C := RX4) (T := TX4) (N := 37) (v := .int (nI 2)) C inX4 hH 0 gM_0 rfl 0 (by decide) rfl rfl 2 rfl dX4_node_39 ?_
    refine lv_if_le (tgt := 47) C.1 C.2.1 dX4_node_42 (by decide) (fun c_3 => absurd c_3 (by decide)) (fun _ => ?_)
    refine lv_iconst (v := nI 0) C.1 C.2.1 dX4_node_45 (by decide) ?_
    have hH := x_eqw (w' := wM G a S T K Z L (tS F 3 (nI 2))) (rfl) hH
    exact hE _ _ _ _ _ hH (rfl) (rfl) dX4_node_46
  · rw [xb_0] at c_2
    have c_2 := Classical.not_not.mp c_2
    refine lv_iload_n C.1 C.2.1 dX4_node_20 rfl (lv_at hl 2 rfl) ?_
    refine lv_if_lt (tgt := 30) C.1 C.2.1 dX4_node_21 (by decide) (fun c_4 => ?_) (fun c_4 => ?_)
    · refine lv_iconst (v := nI 2) C.1 C.2.1 dX4_node_30 (by decide) ?_
      refine lv_goto (tgt := 35) C.1 C.2.1 dX4_node_31 (by decide) ?_
      refine x_put (C := RX4) (T := TX4) (N := 37) (v := .int (nI 2)) (w' := wM G a S T K Z L ((tS F 3 (nI 2)))) C inX4 tyX4 tyX4_ok nmX4 hH 0 gM_0 rfl 0 (by decide) rfl rfl rfl rfl (Nat.le_of_ble_eq_true rfl) fM_0_0 2 rfl dX4_node_35 (fun H locs hH => ?_)
      refine lv_aload_n C.1 C.2.1 dX4_node_38 rfl (lv_at hl 0 rfl) ?_
      refine x_get (C := RX4) (T := TX4) (N := 37) (v := .int (nI 2)) C inX4 hH 0 gM_0 rfl 0 (by decide) rfl rfl 2 rfl dX4_node_39 ?_
      refine lv_if_le (tgt := 47) C.1 C.2.1 dX4_node_42 (by decide) (fun c_5 => absurd c_5 (by decide)) (fun _ => ?_)
      refine lv_iconst (v := nI 0) C.1 C.2.1 dX4_node_45 (by decide) ?_
      have hH := x_eqw (w' := wM G a S T K Z L (tS F 3 (nI 2))) (rfl) hH
      exact hE _ _ _ _ _ hH (rfl) (rfl) dX4_node_46
    · refine lv_iload_n C.1 C.2.1 dX4_node_24 rfl (lv_at hl 2 rfl) ?_
      refine lv_bipush (v := nI 10) C.1 C.2.1 dX4_node_25 (by decide) ?_
      refine lv_icmp_le (tgt := 34) C.1 C.2.1 dX4_node_27 (by decide) (fun c_6 => ?_) (fun c_6 => ?_)
      · exact absurd ⟨c_2, c_4, c_6⟩ hneg
      · refine lv_iconst (v := nI 2) C.1 C.2.1 dX4_node_30 (by decide) ?_
        refine lv_goto (tgt := 35) C.1 C.2.1 dX4_node_31 (by decide) ?_
        refine x_put (C := RX4) (T := TX4) (N := 37) (v := .int (nI 2)) (w' := wM G a S T K Z L ((tS F 3 (nI 2)))) C inX4 tyX4 tyX4_ok nmX4 hH 0 gM_0 rfl 0 (by decide) rfl rfl rfl rfl (Nat.le_of_ble_eq_true rfl) fM_0_0 2 rfl dX4_node_35 (fun H locs hH => ?_)
        refine lv_aload_n C.1 C.2.1 dX4_node_38 rfl (lv_at hl 0 rfl) ?_
        refine x_get (C := RX4) (T := TX4) (N := 37) (v := .int (nI 2)) C inX4 hH 0 gM_0 rfl 0 (by decide) rfl rfl 2 rfl dX4_node_39 ?_
        refine lv_if_le (tgt := 47) C.1 C.2.1 dX4_node_42 (by decide) (fun c_7 => absurd c_7 (by decide)) (fun _ => ?_)
        refine lv_iconst (v := nI 0) C.1 C.2.1 dX4_node_45 (by decide) ?_
        have hH := x_eqw (w' := wM G a S T K Z L (tS F 3 (nI 2))) (rfl) hH
        exact hE _ _ _ _ _ hH (rfl) (rfl) dX4_node_46
set_option maxHeartbeats 400000 in
set_option maxRecDepth 100000 in
theorem c_X4_length (l : Launch) (G : xG) (a : Nat → Nat) (S T K Z : Nat → Nat → Int32) (L : Nat → Nat → Int64) (F : Nat → Int32) (lv nd : Nat) (h2 : F 2 = nI 1) (h4 : F 4 = nI lv) (h6 : F 6 = nI nd) (h1 : 1 ≤ lv) (hl9 : lv ≤ nd) (hl10 : lv ≤ 10) (hn : nd ≤ 19) : xMi l yX4_length wsX4_length { frames := 0, cells := 0, slots := 0, locals := 0 } [.ref (a 0)] G (wM G a S T K Z L F) (sumW T nd 0 (nI 0)) (wM G a S T K Z L (tS F 3 (nI 0))) 0 0 := by
  refine x_ofi (cc := cX4_length) (maxL := 3) (ty := .int) (by decide) rfl (Nat.le_of_ble_eq_true rfl) ?_
  intro p e s m args below meth c ls A Q C hml hA hH hl hE
  have hl : lv_has ls 3 [(0, .ref (a 0))] := hl
  have inX4 : ∀ w ∈ wsX40, w ∈ wsX4_length := fun _ h => (List.mem_cons_of_mem _ (List.mem_append_right _ h))
  refine lv_aload_n C.1 C.2.1 dX4_length_0 rfl (lv_at hl 0 rfl) ?_
  refine lv_aload_n C.1 C.2.1 dX4_length_1 rfl (lv_at hl 0 rfl) ?_
  refine x_get (C := RX4) (T := TX4) (N := 37) (v := .int (F 2)) C inX4 hH 0 gM_0 rfl 13 (by decide) rfl rfl 1 rfl dX4_length_2 ?_
  refine x_toi h2 ?_
  refine lv_if_eq (tgt := 12) C.1 C.2.1 dX4_length_5 (by decide) (fun c_1 => absurd c_1 (by decide)) (fun _ => ?_)
  refine lv_iconst (v := nI 0) C.1 C.2.1 dX4_length_8 (by decide) ?_
  refine lv_goto (tgt := 13) C.1 C.2.1 dX4_length_9 (by decide) ?_
  refine x_put (C := RX4) (T := TX4) (N := 37) (v := .int (nI 0)) (w' := wM G a S T K Z L ((tS F 3 (nI 0)))) C inX4 tyX4 tyX4_ok nmX4 hH 0 gM_0 rfl 0 (by decide) rfl rfl rfl rfl (Nat.le_of_ble_eq_true rfl) fM_0_0 2 rfl dX4_length_13 (fun H locs hH => ?_)
  refine lv_iconst (v := nI 0) C.1 C.2.1 dX4_length_16 (by decide) ?_
  refine lv_istore_n (lv' := [(1, .int (nI 0)), (0, .ref (a 0))]) C.1 C.2.1 dX4_length_17 rfl hl (by decide) rfl (fun ls hl => ?_)
  refine lv_iconst (v := nI 0) C.1 C.2.1 dX4_length_18 (by decide) ?_
  refine lv_istore_n (lv' := [(2, .int (nI 0)), (1, .int (nI 0)), (0, .ref (a 0))]) C.1 C.2.1 dX4_length_19 rfl hl (by decide) rfl (fun ls hl => ?_)
  have lp : ∀ (n : Nat) (i : Nat) (v : Int32) (H : Heap) (locs : List Loc) (ls : Array Slot), i + n = nd → sumW T n i v = sumW T nd 0 (nI 0) → xH G A s.heap H locs (wM G a S T K Z L ((tS F 3 (nI 0)))) → lv_has ls 3 [(0, .ref (a 0)), (1, .int v), (2, .int (nI i))] → W p l e ({ frames := 0, cells := 0, slots := 0, locals := 0 }) s m args below meth c H locs 0 0 Q (F0 m 20 ls []) := by
    intro n
    induction n with
    | zero =>
      intro i v H locs ls hin hf hH hl
      refine lv_iload_n C.1 C.2.1 dX4_length_20 rfl (lv_at hl 2 rfl) ?_
      refine lv_aload_n C.1 C.2.1 dX4_length_21 rfl (lv_at hl 0 rfl) ?_
      refine x_get (C := RX4) (T := TX4) (N := 37) (v := .int (F 6)) C inX4 hH 0 gM_0 rfl 14 (by decide) rfl rfl 3 rfl dX4_length_22 ?_
      refine x_toi h6 ?_
      refine lv_icmp_ge (tgt := 50) C.1 C.2.1 dX4_length_25 (by decide) (fun _ => ?_) (fun c_2 => absurd ((nI_leI (a := nd) (b := i) (by omega) (by omega)).mpr (by omega)) c_2)
      refine lv_iload_n C.1 C.2.1 dX4_length_50 rfl (lv_at hl 1 rfl) ?_
      have hH := x_eqw (w' := wM G a S T K Z L (tS F 3 (nI 0))) (rfl) hH
      exact hE _ _ _ _ _ hH (hf) (rfl) dX4_length_51
    | succ n ih20 =>
      intro i v H locs ls hin hf hH hl
      refine lv_iload_n C.1 C.2.1 dX4_length_20 rfl (lv_at hl 2 rfl) ?_
      refine lv_aload_n C.1 C.2.1 dX4_length_21 rfl (lv_at hl 0 rfl) ?_
      refine x_get (C := RX4) (T := TX4) (N := 37) (v := .int (F 6)) C inX4 hH 0 gM_0 rfl 14 (by decide) rfl rfl 3 rfl dX4_length_22 ?_
      refine x_toi h6 ?_
      refine lv_icmp_ge (tgt := 50) C.1 C.2.1 dX4_length_25 (by decide) (fun c_3 => absurd ((nI_leI (a := nd) (b := i) (by omega) (by omega)).mp c_3) (by omega)) (fun _ => ?_)
      refine lv_aload_n C.1 C.2.1 dX4_length_28 rfl (lv_at hl 0 rfl) ?_
      refine x_get (C := RX4) (T := TX4) (N := 37) (v := .int (F 2)) C inX4 hH 0 gM_0 rfl 13 (by decide) rfl rfl 1 rfl dX4_length_29 ?_
      refine x_toi h2 ?_
      refine lv_if_eq (tgt := 50) C.1 C.2.1 dX4_length_32 (by decide) (fun c_4 => absurd c_4 (by decide)) (fun _ => ?_)
      refine lv_iload_n C.1 C.2.1 dX4_length_35 rfl (lv_at hl 1 rfl) ?_
      refine lv_aload_n C.1 C.2.1 dX4_length_36 rfl (lv_at hl 0 rfl) ?_
      refine x_get (C := RX4) (T := TX4) (N := 37) (v := .ref (a 13)) C inX4 hH 0 gM_0 rfl 23 (by decide) rfl rfl 4 rfl dX4_length_37 ?_
      refine lv_iload_n C.1 C.2.1 dX4_length_40 rfl (lv_at hl 2 rfl) ?_
      refine x_iald (f := T 8) (j := i) (v := T 8 i) C hH 13 gM_13 (by omega) (by decide) (rfl) dX4_length_41 ?_
      refine lv_iadd C.1 C.2.1 dX4_length_42 ?_
      refine lv_istore_n (lv' := [(1, .int (v + (T 8 i))), (0, .ref (a 0)), (2, .int (nI i))]) C.1 C.2.1 dX4_length_43 rfl hl (by decide) rfl (fun ls hl => ?_)
      refine lv_iinc (v := nI (i + 1)) (lv' := [(2, .int (nI (i + 1))), (1, .int (v + (T 8 i))), (0, .ref (a 0))]) C.1 C.2.1 dX4_length_44 hl (k := 2) rfl (nI_add i 1) (by decide) rfl (fun ls hl => ?_)
      refine lv_goto (tgt := 20) C.1 C.2.1 dX4_length_47 (by decide) ?_
      exact ih20 (i + 1) (v + (T 8 i)) _ _ _ (by omega) (hf) hH (lv_sub hl [2, 1, 0] rfl)
  exact lp (nd) 0 (nI 0) _ _ _ (by omega) (rfl) hH (lv_sub hl [2, 1, 0] rfl)
set_option maxHeartbeats 400000 in
set_option maxRecDepth 100000 in
theorem c_X4_length_t1 (l : Launch) (G : xG) (a : Nat → Nat) (S T K Z : Nat → Nat → Int32) (L : Nat → Nat → Int64) (F : Nat → Int32) (h2 : F 2 = nI 0) : xMi l yX4_length wsX4_length { frames := 0, cells := 0, slots := 0, locals := 0 } [.ref (a 0)] G (wM G a S T K Z L F) (nI 0) (wM G a S T K Z L (tS F 3 (nI 1))) 0 0 := by
  refine x_ofi (cc := cX4_length) (maxL := 3) (ty := .int) (by decide) rfl (Nat.le_of_ble_eq_true rfl) ?_
  intro p e s m args below meth c ls A Q C hml hA hH hl hE
  have hl : lv_has ls 3 [(0, .ref (a 0))] := hl
  have inX4 : ∀ w ∈ wsX40, w ∈ wsX4_length := fun _ h => (List.mem_cons_of_mem _ (List.mem_append_right _ h))
  refine lv_aload_n C.1 C.2.1 dX4_length_0 rfl (lv_at hl 0 rfl) ?_
  refine lv_aload_n C.1 C.2.1 dX4_length_1 rfl (lv_at hl 0 rfl) ?_
  refine x_get (C := RX4) (T := TX4) (N := 37) (v := .int (F 2)) C inX4 hH 0 gM_0 rfl 13 (by decide) rfl rfl 1 rfl dX4_length_2 ?_
  refine x_toi h2 ?_
  refine lv_if_eq (tgt := 12) C.1 C.2.1 dX4_length_5 (by decide) (fun _ => ?_) (fun c_1 => absurd (by decide) c_1)
  refine lv_iconst (v := nI 1) C.1 C.2.1 dX4_length_12 (by decide) ?_
  refine x_put (C := RX4) (T := TX4) (N := 37) (v := .int (nI 1)) (w' := wM G a S T K Z L ((tS F 3 (nI 1)))) C inX4 tyX4 tyX4_ok nmX4 hH 0 gM_0 rfl 0 (by decide) rfl rfl rfl rfl (Nat.le_of_ble_eq_true rfl) fM_0_0 2 rfl dX4_length_13 (fun H locs hH => ?_)
  refine lv_iconst (v := nI 0) C.1 C.2.1 dX4_length_16 (by decide) ?_
  refine lv_istore_n (lv' := [(1, .int (nI 0)), (0, .ref (a 0))]) C.1 C.2.1 dX4_length_17 rfl hl (by decide) rfl (fun ls hl => ?_)
  refine lv_iconst (v := nI 0) C.1 C.2.1 dX4_length_18 (by decide) ?_
  refine lv_istore_n (lv' := [(2, .int (nI 0)), (1, .int (nI 0)), (0, .ref (a 0))]) C.1 C.2.1 dX4_length_19 rfl hl (by decide) rfl (fun ls hl => ?_)
  refine lv_iload_n C.1 C.2.1 dX4_length_20 rfl (lv_at hl 0 rfl) ?_
  refine lv_aload_n C.1 C.2.1 dX4_length_21 rfl (lv_at hl 2 rfl) ?_
  refine x_get (C := RX4) (T := TX4) (N := 37) (v := .int (F 6)) C inX4 hH 0 gM_0 rfl 14 (by decide) rfl rfl 3 rfl dX4_length_22 ?_
  refine lv_icmp_ge (tgt := 50) C.1 C.2.1 dX4_length_25 (by decide) (fun c_2 => ?_) (fun c_2 => ?_)
  · refine lv_iload_n C.1 C.2.1 dX4_length_50 rfl (lv_at hl 1 rfl) ?_
    have hH := x_eqw (w' := wM G a S T K Z L (tS F 3 (nI 1))) (rfl) hH
    exact hE _ _ _ _ _ hH (rfl) (rfl) dX4_length_51
  · refine lv_aload_n C.1 C.2.1 dX4_length_28 rfl (lv_at hl 2 rfl) ?_
    refine x_get (C := RX4) (T := TX4) (N := 37) (v := .int (F 2)) C inX4 hH 0 gM_0 rfl 13 (by decide) rfl rfl 1 rfl dX4_length_29 ?_
    refine x_toi h2 ?_
    refine lv_if_eq (tgt := 50) C.1 C.2.1 dX4_length_32 (by decide) (fun _ => ?_) (fun c_3 => absurd (by decide) c_3)
    refine lv_iload_n C.1 C.2.1 dX4_length_50 rfl (lv_at hl 1 rfl) ?_
    have hH := x_eqw (w' := wM G a S T K Z L (tS F 3 (nI 1))) (rfl) hH
    exact hE _ _ _ _ _ hH (rfl) (rfl) dX4_length_51
set_option maxHeartbeats 400000 in
set_option maxRecDepth 100000 in
theorem c_X4_depth (l : Launch) (G : xG) (a : Nat → Nat) (S T K Z : Nat → Nat → Int32) (L : Nat → Nat → Int64) (F : Nat → Int32) (k0 : Nat) (lv nd : Nat) (h2 : F 2 = nI 1) (h4 : F 4 = nI lv) (h6 : F 6 = nI nd) (h1 : 1 ≤ lv) (hl9 : lv ≤ nd) (hl10 : lv ≤ 10) (hn : nd ≤ 19) (po : Nat → Option Nat) (N : Nat) (hpo : ∀ k, k < 19 → T 2 k = oI (po k)) (hk : k0 < lv) (hN : N ≤ 20) (hok : cnOk po N (po k0)) : xMi l yX4_depth wsX4_depth { frames := 0, cells := 0, slots := 0, locals := 0 } [.ref (a 0), .int (nI k0)] G (wM G a S T K Z L F) (nI (chD po N (po k0) 0)) (wM G a S T K Z L (tS F 3 (nI 0))) 0 0 := by
  refine x_ofi (cc := cX4_depth) (maxL := 4) (ty := .int) (by decide) rfl (Nat.le_of_ble_eq_true rfl) ?_
  intro p e s m args below meth c ls A Q C hml hA hH hl hE
  have hl : lv_has ls 4 [(0, .ref (a 0)), (1, .int (nI k0))] := hl
  have inX4 : ∀ w ∈ wsX40, w ∈ wsX4_depth := fun _ h => (List.mem_cons_of_mem _ (List.mem_append_right _ h))
  refine lv_aload_n C.1 C.2.1 dX4_depth_0 rfl (lv_at hl 0 rfl) ?_
  refine lv_aload_n C.1 C.2.1 dX4_depth_1 rfl (lv_at hl 0 rfl) ?_
  refine x_get (C := RX4) (T := TX4) (N := 37) (v := .int (F 2)) C inX4 hH 0 gM_0 rfl 13 (by decide) rfl rfl 1 rfl dX4_depth_2 ?_
  refine x_toi h2 ?_
  refine lv_if_ne (tgt := 12) C.1 C.2.1 dX4_depth_5 (by decide) (fun _ => ?_) (fun c_1 => absurd (c_1) (by decide))
  refine lv_iload_n C.1 C.2.1 dX4_depth_12 rfl (lv_at hl 1 rfl) ?_
  refine lv_if_lt (tgt := 24) C.1 C.2.1 dX4_depth_13 (by decide) (fun c_2 => absurd c_2 (nI_pos (by omega))) (fun _ => ?_)
  refine lv_iload_n C.1 C.2.1 dX4_depth_16 rfl (lv_at hl 1 rfl) ?_
  refine lv_aload_n C.1 C.2.1 dX4_depth_17 rfl (lv_at hl 0 rfl) ?_
  refine x_get (C := RX4) (T := TX4) (N := 37) (v := .int (F 4)) C inX4 hH 0 gM_0 rfl 1 (by decide) rfl rfl 2 rfl dX4_depth_18 ?_
  refine x_toi h4 ?_
  refine lv_icmp_lt (tgt := 28) C.1 C.2.1 dX4_depth_21 (by decide) (fun _ => ?_) (fun c_3 => absurd ((nI_ltI (by omega) (by omega)).mpr (by omega)) c_3)
  refine lv_iconst (v := nI 0) C.1 C.2.1 dX4_depth_28 (by decide) ?_
  refine x_put (C := RX4) (T := TX4) (N := 37) (v := .int (nI 0)) (w' := wM G a S T K Z L ((tS F 3 (nI 0)))) C inX4 tyX4 tyX4_ok nmX4 hH 0 gM_0 rfl 0 (by decide) rfl rfl rfl rfl (Nat.le_of_ble_eq_true rfl) fM_0_0 3 rfl dX4_depth_29 (fun H locs hH => ?_)
  refine lv_aload_n C.1 C.2.1 dX4_depth_32 rfl (lv_at hl 0 rfl) ?_
  refine x_get (C := RX4) (T := TX4) (N := 37) (v := .int (nI 0)) C inX4 hH 0 gM_0 rfl 0 (by decide) rfl rfl 3 rfl dX4_depth_33 ?_
  refine lv_if_le (tgt := 41) C.1 C.2.1 dX4_depth_36 (by decide) (fun _ => ?_) (fun c_4 => absurd (by decide) c_4)
  refine lv_iconst (v := nI 0) C.1 C.2.1 dX4_depth_41 (by decide) ?_
  refine lv_istore_n (lv' := [(2, .int (nI 0)), (0, .ref (a 0)), (1, .int (nI k0))]) C.1 C.2.1 dX4_depth_42 rfl hl (by decide) rfl (fun ls hl => ?_)
  refine lv_aload_n C.1 C.2.1 dX4_depth_43 rfl (lv_at hl 1 rfl) ?_
  refine x_get (C := RX4) (T := TX4) (N := 37) (v := .ref (a 7)) C inX4 hH 0 gM_0 rfl 17 (by decide) rfl rfl 4 rfl dX4_depth_44 ?_
  refine lv_iload_n C.1 C.2.1 dX4_depth_47 rfl (lv_at hl 2 rfl) ?_
  refine x_iald (f := T 2) (j := k0) (v := oI (po k0)) C hH 7 gM_7 (by omega) (by decide) (hpo k0 (by omega)) dX4_depth_48 ?_
  refine lv_istore_n (lv' := [(3, .int (oI (po k0))), (2, .int (nI 0)), (0, .ref (a 0)), (1, .int (nI k0))]) C.1 C.2.1 dX4_depth_49 rfl hl (by decide) rfl (fun ls hl => ?_)
  have lp : ∀ (n : Nat) (o : Option Nat) (x : Nat) (H : Heap) (locs : List Loc) (ls : Array Slot), x + n = N → cnOk po n o → chD po n o x = chD po N (po k0) 0 → xH G A s.heap H locs (wM G a S T K Z L ((tS F 3 (nI 0)))) → lv_has ls 4 [(0, .ref (a 0)), (2, .int (nI x)), (3, .int (oI o))] → W p l e ({ frames := 0, cells := 0, slots := 0, locals := 0 }) s m args below meth c H locs 0 0 Q (F0 m 50 ls []) := by
    intro n
    induction n with
    | zero =>
      intro o x H locs ls hx hok hf hH hl
      have hok : o = none := hok
      subst hok
      have hf : x = _ := hf
      refine lv_iload_n C.1 C.2.1 dX4_depth_50 rfl (lv_at hl 2 rfl) ?_
      refine lv_if_lt (tgt := 67) C.1 C.2.1 dX4_depth_51 (by decide) (fun _ => ?_) (fun c_5 => absurd (by decide) c_5)
      refine lv_iload_n C.1 C.2.1 dX4_depth_67 rfl (lv_at hl 1 rfl) ?_
      have hH := x_eqw (w' := wM G a S T K Z L (tS F 3 (nI 0))) (rfl) hH
      exact hE _ _ _ _ _ hH (congrArg nI hf) (rfl) dX4_depth_68
    | succ n ih50 =>
      intro o x H locs ls hx hok hf hH hl
      rcases o with _ | k
      · have hf : x = _ := hf
        have hl : lv_has ls 4 [(0, .ref (a 0)), (2, .int (nI x)), (3, .int ((-1)))] := hl
        refine lv_iload_n C.1 C.2.1 dX4_depth_50 rfl (lv_at hl 2 rfl) ?_
        refine lv_if_lt (tgt := 67) C.1 C.2.1 dX4_depth_51 (by decide) (fun _ => ?_) (fun c_6 => absurd (by decide) c_6)
        refine lv_iload_n C.1 C.2.1 dX4_depth_67 rfl (lv_at hl 1 rfl) ?_
        have hH := x_eqw (w' := wM G a S T K Z L (tS F 3 (nI 0))) (rfl) hH
        exact hE _ _ _ _ _ hH (congrArg nI hf) (rfl) dX4_depth_68
      · have hk9 : k < 19 := hok.1
        have hl : lv_has ls 4 [(0, .ref (a 0)), (2, .int (nI x)), (3, .int (nI k))] := hl
        refine lv_iload_n C.1 C.2.1 dX4_depth_50 rfl (lv_at hl 2 rfl) ?_
        refine lv_if_lt (tgt := 67) C.1 C.2.1 dX4_depth_51 (by decide) (fun c_7 => absurd c_7 (nI_pos (by omega))) (fun _ => ?_)
        refine lv_iinc (v := nI (x + 1)) (lv' := [(2, .int (nI (x + 1))), (0, .ref (a 0)), (3, .int (nI k))]) C.1 C.2.1 dX4_depth_54 hl (k := 1) rfl (nI_add x 1) (by decide) rfl (fun ls hl => ?_)
        refine lv_aload_n C.1 C.2.1 dX4_depth_57 rfl (lv_at hl 1 rfl) ?_
        refine x_get (C := RX4) (T := TX4) (N := 37) (v := .ref (a 7)) C inX4 hH 0 gM_0 rfl 17 (by decide) rfl rfl 4 rfl dX4_depth_58 ?_
        refine lv_iload_n C.1 C.2.1 dX4_depth_61 rfl (lv_at hl 2 rfl) ?_
        refine x_iald (f := T 2) (j := k) (v := oI (po k)) C hH 7 gM_7 (by omega) (by decide) (hpo k (by omega)) dX4_depth_62 ?_
        refine lv_istore_n (lv' := [(3, .int (oI (po k))), (2, .int (nI (x + 1))), (0, .ref (a 0))]) C.1 C.2.1 dX4_depth_63 rfl hl (by decide) rfl (fun ls hl => ?_)
        refine lv_goto (tgt := 50) C.1 C.2.1 dX4_depth_64 (by decide) ?_
        exact ih50 ((po k)) (x + 1) _ _ _ (by omega) (hok.2) (hf) hH (lv_sub hl [2, 1, 0] rfl)
  exact lp (N) ((po k0)) 0 _ _ _ (by omega) (hok) (rfl) hH (lv_sub hl [2, 1, 0] rfl)
set_option maxHeartbeats 400000 in
set_option maxRecDepth 100000 in
theorem c_X4_depth_t1 (l : Launch) (G : xG) (a : Nat → Nat) (S T K Z : Nat → Nat → Int32) (L : Nat → Nat → Int64) (F : Nat → Int32) (x : Int32) (h2 : F 2 = nI 0) : xMi l yX4_depth wsX4_depth { frames := 0, cells := 0, slots := 0, locals := 0 } [.ref (a 0), .int x] G (wM G a S T K Z L F) (nI 0) (wM G a S T K Z L (tS F 3 (nI 1))) 0 0 := by
  refine x_ofi (cc := cX4_depth) (maxL := 4) (ty := .int) (by decide) rfl (Nat.le_of_ble_eq_true rfl) ?_
  intro p e s m args below meth c ls A Q C hml hA hH hl hE
  have hl : lv_has ls 4 [(0, .ref (a 0)), (1, .int x)] := hl
  have inX4 : ∀ w ∈ wsX40, w ∈ wsX4_depth := fun _ h => (List.mem_cons_of_mem _ (List.mem_append_right _ h))
  refine lv_aload_n C.1 C.2.1 dX4_depth_0 rfl (lv_at hl 0 rfl) ?_
  refine lv_aload_n C.1 C.2.1 dX4_depth_1 rfl (lv_at hl 0 rfl) ?_
  refine x_get (C := RX4) (T := TX4) (N := 37) (v := .int (F 2)) C inX4 hH 0 gM_0 rfl 13 (by decide) rfl rfl 1 rfl dX4_depth_2 ?_
  refine x_toi h2 ?_
  refine lv_if_ne (tgt := 12) C.1 C.2.1 dX4_depth_5 (by decide) (fun c_1 => absurd (by decide) c_1) (fun _ => ?_)
  refine lv_iconst (v := nI 1) C.1 C.2.1 dX4_depth_8 (by decide) ?_
  refine lv_goto (tgt := 29) C.1 C.2.1 dX4_depth_9 (by decide) ?_
  refine x_put (C := RX4) (T := TX4) (N := 37) (v := .int (nI 1)) (w' := wM G a S T K Z L ((tS F 3 (nI 1)))) C inX4 tyX4 tyX4_ok nmX4 hH 0 gM_0 rfl 0 (by decide) rfl rfl rfl rfl (Nat.le_of_ble_eq_true rfl) fM_0_0 3 rfl dX4_depth_29 (fun H locs hH => ?_)
  refine lv_aload_n C.1 C.2.1 dX4_depth_32 rfl (lv_at hl 0 rfl) ?_
  refine x_get (C := RX4) (T := TX4) (N := 37) (v := .int (nI 1)) C inX4 hH 0 gM_0 rfl 0 (by decide) rfl rfl 3 rfl dX4_depth_33 ?_
  refine lv_if_le (tgt := 41) C.1 C.2.1 dX4_depth_36 (by decide) (fun c_2 => absurd c_2 (by decide)) (fun _ => ?_)
  refine lv_iconst (v := nI 0) C.1 C.2.1 dX4_depth_39 (by decide) ?_
  have hH := x_eqw (w' := wM G a S T K Z L (tS F 3 (nI 1))) (rfl) hH
  exact hE _ _ _ _ _ hH (rfl) (rfl) dX4_depth_40
set_option maxHeartbeats 400000 in
set_option maxRecDepth 100000 in
theorem c_X4_depth_t2 (l : Launch) (G : xG) (a : Nat → Nat) (S T K Z : Nat → Nat → Int32) (L : Nat → Nat → Int64) (F : Nat → Int32) (x : Int32) (h2 : F 2 = nI 1) (hneg : ¬ (¬ x < 0 ∧ x < F 4)) : xMi l yX4_depth wsX4_depth { frames := 0, cells := 0, slots := 0, locals := 0 } [.ref (a 0), .int x] G (wM G a S T K Z L F) (nI 0) (wM G a S T K Z L (tS F 3 (nI 2))) 0 0 := by
  refine x_ofi (cc := cX4_depth) (maxL := 4) (ty := .int) (by decide) rfl (Nat.le_of_ble_eq_true rfl) ?_
  intro p e s m args below meth c ls A Q C hml hA hH hl hE
  have hl : lv_has ls 4 [(0, .ref (a 0)), (1, .int x)] := hl
  have inX4 : ∀ w ∈ wsX40, w ∈ wsX4_depth := fun _ h => (List.mem_cons_of_mem _ (List.mem_append_right _ h))
  refine lv_aload_n C.1 C.2.1 dX4_depth_0 rfl (lv_at hl 0 rfl) ?_
  refine lv_aload_n C.1 C.2.1 dX4_depth_1 rfl (lv_at hl 0 rfl) ?_
  refine x_get (C := RX4) (T := TX4) (N := 37) (v := .int (F 2)) C inX4 hH 0 gM_0 rfl 13 (by decide) rfl rfl 1 rfl dX4_depth_2 ?_
  refine x_toi h2 ?_
  refine lv_if_ne (tgt := 12) C.1 C.2.1 dX4_depth_5 (by decide) (fun _ => ?_) (fun c_1 => absurd (c_1) (by decide))
  refine lv_iload_n C.1 C.2.1 dX4_depth_12 rfl (lv_at hl 1 rfl) ?_
  refine lv_if_lt (tgt := 24) C.1 C.2.1 dX4_depth_13 (by decide) (fun c_2 => ?_) (fun c_2 => ?_)
  · refine lv_iconst (v := nI 2) C.1 C.2.1 dX4_depth_24 (by decide) ?_
    refine lv_goto (tgt := 29) C.1 C.2.1 dX4_depth_25 (by decide) ?_
    refine x_put (C := RX4) (T := TX4) (N := 37) (v := .int (nI 2)) (w' := wM G a S T K Z L ((tS F 3 (nI 2)))) C inX4 tyX4 tyX4_ok nmX4 hH 0 gM_0 rfl 0 (by decide) rfl rfl rfl rfl (Nat.le_of_ble_eq_true rfl) fM_0_0 3 rfl dX4_depth_29 (fun H locs hH => ?_)
    refine lv_aload_n C.1 C.2.1 dX4_depth_32 rfl (lv_at hl 0 rfl) ?_
    refine x_get (C := RX4) (T := TX4) (N := 37) (v := .int (nI 2)) C inX4 hH 0 gM_0 rfl 0 (by decide) rfl rfl 3 rfl dX4_depth_33 ?_
    refine lv_if_le (tgt := 41) C.1 C.2.1 dX4_depth_36 (by decide) (fun c_3 => absurd c_3 (by decide)) (fun _ => ?_)
    refine lv_iconst (v := nI 0) C.1 C.2.1 dX4_depth_39 (by decide) ?_
    have hH := x_eqw (w' := wM G a S T K Z L (tS F 3 (nI 2))) (rfl) hH
    exact hE _ _ _ _ _ hH (rfl) (rfl) dX4_depth_40
  · refine lv_iload_n C.1 C.2.1 dX4_depth_16 rfl (lv_at hl 1 rfl) ?_
    refine lv_aload_n C.1 C.2.1 dX4_depth_17 rfl (lv_at hl 0 rfl) ?_
    refine x_get (C := RX4) (T := TX4) (N := 37) (v := .int (F 4)) C inX4 hH 0 gM_0 rfl 1 (by decide) rfl rfl 2 rfl dX4_depth_18 ?_
    refine lv_icmp_lt (tgt := 28) C.1 C.2.1 dX4_depth_21 (by decide) (fun c_4 => ?_) (fun c_4 => ?_)
    · exact absurd ⟨c_2, c_4⟩ hneg
    · refine lv_iconst (v := nI 2) C.1 C.2.1 dX4_depth_24 (by decide) ?_
      refine lv_goto (tgt := 29) C.1 C.2.1 dX4_depth_25 (by decide) ?_
      refine x_put (C := RX4) (T := TX4) (N := 37) (v := .int (nI 2)) (w' := wM G a S T K Z L ((tS F 3 (nI 2)))) C inX4 tyX4 tyX4_ok nmX4 hH 0 gM_0 rfl 0 (by decide) rfl rfl rfl rfl (Nat.le_of_ble_eq_true rfl) fM_0_0 3 rfl dX4_depth_29 (fun H locs hH => ?_)
      refine lv_aload_n C.1 C.2.1 dX4_depth_32 rfl (lv_at hl 0 rfl) ?_
      refine x_get (C := RX4) (T := TX4) (N := 37) (v := .int (nI 2)) C inX4 hH 0 gM_0 rfl 0 (by decide) rfl rfl 3 rfl dX4_depth_33 ?_
      refine lv_if_le (tgt := 41) C.1 C.2.1 dX4_depth_36 (by decide) (fun c_5 => absurd c_5 (by decide)) (fun _ => ?_)
      refine lv_iconst (v := nI 0) C.1 C.2.1 dX4_depth_39 (by decide) ?_
      have hH := x_eqw (w' := wM G a S T K Z L (tS F 3 (nI 2))) (rfl) hH
      exact hE _ _ _ _ _ hH (rfl) (rfl) dX4_depth_40
set_option maxHeartbeats 400000 in
set_option maxRecDepth 100000 in
theorem c_X4_set (l : Launch) (G : xG) (a : Nat → Nat) (S T K Z : Nat → Nat → Int32) (L : Nat → Nat → Int64) (F : Nat → Int32) (j : Nat) (on : Bool) (lv nd : Nat) (h2 : F 2 = nI 1) (h4 : F 4 = nI lv) (h6 : F 6 = nI nd) (h1 : 1 ≤ lv) (hl9 : lv ≤ nd) (hl10 : lv ≤ 10) (hn : nd ≤ 19) (hj : lv ≤ j) (hj2 : j < nd) : xMi l yX4_set wsX4_set { frames := 0, cells := 0, slots := 0, locals := 0 } [.ref (a 0), .int (nI j), .int (xb (on = true))] G (wM G a S T K Z L F) (xb (¬ Z 0 j = xb (on = true))) (wM G a S T K (tS Z 0 (upd (Z 0) j (xb (on = true)))) L (tS F 3 (nI 0))) 0 0 := by
  refine x_ofi (cc := cX4_set) (maxL := 3) (ty := .boolean) (by decide) rfl (Nat.le_of_ble_eq_true rfl) ?_
  intro p e s m args below meth c ls A Q C hml hA hH hl hE
  have hl : lv_has ls 3 [(0, .ref (a 0)), (1, .int (nI j)), (2, .int (xb (on = true)))] := hl
  have inX4 : ∀ w ∈ wsX40, w ∈ wsX4_set := fun _ h => (List.mem_cons_of_mem _ (List.mem_append_right _ h))
  refine lv_aload_n C.1 C.2.1 dX4_set_0 rfl (lv_at hl 0 rfl) ?_
  refine lv_aload_n C.1 C.2.1 dX4_set_1 rfl (lv_at hl 0 rfl) ?_
  refine x_get (C := RX4) (T := TX4) (N := 37) (v := .int (F 2)) C inX4 hH 0 gM_0 rfl 13 (by decide) rfl rfl 1 rfl dX4_set_2 ?_
  refine x_toi h2 ?_
  refine lv_if_ne (tgt := 12) C.1 C.2.1 dX4_set_5 (by decide) (fun _ => ?_) (fun c_1 => absurd (c_1) (by decide))
  refine lv_iload_n C.1 C.2.1 dX4_set_12 rfl (lv_at hl 1 rfl) ?_
  refine lv_aload_n C.1 C.2.1 dX4_set_13 rfl (lv_at hl 0 rfl) ?_
  refine x_get (C := RX4) (T := TX4) (N := 37) (v := .int (F 4)) C inX4 hH 0 gM_0 rfl 1 (by decide) rfl rfl 2 rfl dX4_set_14 ?_
  refine x_toi h4 ?_
  refine lv_icmp_lt (tgt := 28) C.1 C.2.1 dX4_set_17 (by decide) (fun c_2 => absurd c_2 (fun z => absurd ((nI_ltI (by omega) (by omega)).mp z) (by omega))) (fun _ => ?_)
  refine lv_iload_n C.1 C.2.1 dX4_set_20 rfl (lv_at hl 1 rfl) ?_
  refine lv_aload_n C.1 C.2.1 dX4_set_21 rfl (lv_at hl 0 rfl) ?_
  refine x_get (C := RX4) (T := TX4) (N := 37) (v := .int (F 6)) C inX4 hH 0 gM_0 rfl 14 (by decide) rfl rfl 3 rfl dX4_set_22 ?_
  refine x_toi h6 ?_
  refine lv_icmp_lt (tgt := 32) C.1 C.2.1 dX4_set_25 (by decide) (fun _ => ?_) (fun c_3 => absurd ((nI_ltI (by omega) (by omega)).mpr (by omega)) c_3)
  refine lv_iconst (v := nI 0) C.1 C.2.1 dX4_set_32 (by decide) ?_
  refine x_put (C := RX4) (T := TX4) (N := 37) (v := .int (nI 0)) (w' := wM G a S T K Z L ((tS F 3 (nI 0)))) C inX4 tyX4 tyX4_ok nmX4 hH 0 gM_0 rfl 0 (by decide) rfl rfl rfl rfl (Nat.le_of_ble_eq_true rfl) fM_0_0 4 rfl dX4_set_33 (fun H locs hH => ?_)
  refine lv_aload_n C.1 C.2.1 dX4_set_36 rfl (lv_at hl 0 rfl) ?_
  refine x_get (C := RX4) (T := TX4) (N := 37) (v := .int (nI 0)) C inX4 hH 0 gM_0 rfl 0 (by decide) rfl rfl 4 rfl dX4_set_37 ?_
  refine lv_if_gt (tgt := 53) C.1 C.2.1 dX4_set_40 (by decide) (fun c_4 => absurd c_4 (by decide)) (fun _ => ?_)
  refine lv_aload_n C.1 C.2.1 dX4_set_43 rfl (lv_at hl 0 rfl) ?_
  refine x_get (C := RX4) (T := TX4) (N := 37) (v := .ref (a 16)) C inX4 hH 0 gM_0 rfl 26 (by decide) rfl rfl 5 rfl dX4_set_44 ?_
  refine lv_iload_n C.1 C.2.1 dX4_set_47 rfl (lv_at hl 1 rfl) ?_
  refine x_zald (f := Z 0) (j := j) (v := Z 0 j) C hH 16 gM_16 (by omega) (by decide) (rfl) dX4_set_48 ?_
  refine lv_iload_n C.1 C.2.1 dX4_set_49 rfl (lv_at hl 2 rfl) ?_
  refine lv_icmp_ne (tgt := 55) C.1 C.2.1 dX4_set_50 (by decide) (fun c_5 => ?_) (fun c_5 => ?_)
  · refine lv_aload_n C.1 C.2.1 dX4_set_55 rfl (lv_at hl 0 rfl) ?_
    refine x_get (C := RX4) (T := TX4) (N := 37) (v := .ref (a 16)) C inX4 hH 0 gM_0 rfl 26 (by decide) rfl rfl 5 rfl dX4_set_56 ?_
    refine lv_iload_n C.1 C.2.1 dX4_set_59 rfl (lv_at hl 1 rfl) ?_
    refine lv_iload_n C.1 C.2.1 dX4_set_60 rfl (lv_at hl 2 rfl) ?_
    refine x_zast (f := Z 0) (j := j) (x := xb (on = true)) (w' := wM G a S T K ((tS Z 0 (upd (Z 0) j (xb (on = true))))) L ((tS F 3 (nI 0)))) C hH 16 gM_16 (by omega) (by decide) (xb_vp) sM_16 dX4_set_61 (fun H locs hH => ?_)
    refine lv_iconst (v := nI 1) C.1 C.2.1 dX4_set_62 (by decide) ?_
    have hH := x_eqw (w' := wM G a S T K (tS Z 0 (upd (Z 0) j (xb (on = true)))) L (tS F 3 (nI 0))) (by first | rfl | (rw [xz_same c_5]; done)) hH
    exact hE _ _ _ _ _ hH (by first | exact xb_t c_5 | exact xb_f (fun z => z c_5)) (by decide) dX4_set_63
  · refine lv_iconst (v := nI 0) C.1 C.2.1 dX4_set_53 (by decide) ?_
    have hH := x_eqw (w' := wM G a S T K (tS Z 0 (upd (Z 0) j (xb (on = true)))) L (tS F 3 (nI 0))) (by first | rfl | (rw [xz_same c_5]; done)) hH
    exact hE _ _ _ _ _ hH (by first | exact xb_t c_5 | exact xb_f (fun z => z c_5)) (by decide) dX4_set_54
set_option maxHeartbeats 400000 in
set_option maxRecDepth 100000 in
theorem c_X4_set_t1 (l : Launch) (G : xG) (a : Nat → Nat) (S T K Z : Nat → Nat → Int32) (L : Nat → Nat → Int64) (F : Nat → Int32) (x : Int32) (on : Bool) (h2 : F 2 = nI 0) : xMi l yX4_set wsX4_set { frames := 0, cells := 0, slots := 0, locals := 0 } [.ref (a 0), .int x, .int (xb (on = true))] G (wM G a S T K Z L F) (nI 0) (wM G a S T K Z L (tS F 3 (nI 1))) 0 0 := by
  refine x_ofi (cc := cX4_set) (maxL := 3) (ty := .boolean) (by decide) rfl (Nat.le_of_ble_eq_true rfl) ?_
  intro p e s m args below meth c ls A Q C hml hA hH hl hE
  have hl : lv_has ls 3 [(0, .ref (a 0)), (1, .int x), (2, .int (xb (on = true)))] := hl
  have inX4 : ∀ w ∈ wsX40, w ∈ wsX4_set := fun _ h => (List.mem_cons_of_mem _ (List.mem_append_right _ h))
  refine lv_aload_n C.1 C.2.1 dX4_set_0 rfl (lv_at hl 0 rfl) ?_
  refine lv_aload_n C.1 C.2.1 dX4_set_1 rfl (lv_at hl 0 rfl) ?_
  refine x_get (C := RX4) (T := TX4) (N := 37) (v := .int (F 2)) C inX4 hH 0 gM_0 rfl 13 (by decide) rfl rfl 1 rfl dX4_set_2 ?_
  refine x_toi h2 ?_
  refine lv_if_ne (tgt := 12) C.1 C.2.1 dX4_set_5 (by decide) (fun c_1 => absurd (by decide) c_1) (fun _ => ?_)
  refine lv_iconst (v := nI 1) C.1 C.2.1 dX4_set_8 (by decide) ?_
  refine lv_goto (tgt := 33) C.1 C.2.1 dX4_set_9 (by decide) ?_
  refine x_put (C := RX4) (T := TX4) (N := 37) (v := .int (nI 1)) (w' := wM G a S T K Z L ((tS F 3 (nI 1)))) C inX4 tyX4 tyX4_ok nmX4 hH 0 gM_0 rfl 0 (by decide) rfl rfl rfl rfl (Nat.le_of_ble_eq_true rfl) fM_0_0 4 rfl dX4_set_33 (fun H locs hH => ?_)
  refine lv_aload_n C.1 C.2.1 dX4_set_36 rfl (lv_at hl 0 rfl) ?_
  refine x_get (C := RX4) (T := TX4) (N := 37) (v := .int (nI 1)) C inX4 hH 0 gM_0 rfl 0 (by decide) rfl rfl 4 rfl dX4_set_37 ?_
  refine lv_if_gt (tgt := 53) C.1 C.2.1 dX4_set_40 (by decide) (fun _ => ?_) (fun c_2 => absurd (by decide) c_2)
  refine lv_iconst (v := nI 0) C.1 C.2.1 dX4_set_53 (by decide) ?_
  have hH := x_eqw (w' := wM G a S T K Z L (tS F 3 (nI 1))) (rfl) hH
  exact hE _ _ _ _ _ hH (rfl) (by decide) dX4_set_54
set_option maxHeartbeats 400000 in
set_option maxRecDepth 100000 in
theorem c_X4_set_t2 (l : Launch) (G : xG) (a : Nat → Nat) (S T K Z : Nat → Nat → Int32) (L : Nat → Nat → Int64) (F : Nat → Int32) (x : Int32) (on : Bool) (h2 : F 2 = nI 1) (hneg : ¬ (¬ x < F 4 ∧ x < F 6)) : xMi l yX4_set wsX4_set { frames := 0, cells := 0, slots := 0, locals := 0 } [.ref (a 0), .int x, .int (xb (on = true))] G (wM G a S T K Z L F) (nI 0) (wM G a S T K Z L (tS F 3 (nI 2))) 0 0 := by
  refine x_ofi (cc := cX4_set) (maxL := 3) (ty := .boolean) (by decide) rfl (Nat.le_of_ble_eq_true rfl) ?_
  intro p e s m args below meth c ls A Q C hml hA hH hl hE
  have hl : lv_has ls 3 [(0, .ref (a 0)), (1, .int x), (2, .int (xb (on = true)))] := hl
  have inX4 : ∀ w ∈ wsX40, w ∈ wsX4_set := fun _ h => (List.mem_cons_of_mem _ (List.mem_append_right _ h))
  refine lv_aload_n C.1 C.2.1 dX4_set_0 rfl (lv_at hl 0 rfl) ?_
  refine lv_aload_n C.1 C.2.1 dX4_set_1 rfl (lv_at hl 0 rfl) ?_
  refine x_get (C := RX4) (T := TX4) (N := 37) (v := .int (F 2)) C inX4 hH 0 gM_0 rfl 13 (by decide) rfl rfl 1 rfl dX4_set_2 ?_
  refine x_toi h2 ?_
  refine lv_if_ne (tgt := 12) C.1 C.2.1 dX4_set_5 (by decide) (fun _ => ?_) (fun c_1 => absurd (c_1) (by decide))
  refine lv_iload_n C.1 C.2.1 dX4_set_12 rfl (lv_at hl 1 rfl) ?_
  refine lv_aload_n C.1 C.2.1 dX4_set_13 rfl (lv_at hl 0 rfl) ?_
  refine x_get (C := RX4) (T := TX4) (N := 37) (v := .int (F 4)) C inX4 hH 0 gM_0 rfl 1 (by decide) rfl rfl 2 rfl dX4_set_14 ?_
  refine lv_icmp_lt (tgt := 28) C.1 C.2.1 dX4_set_17 (by decide) (fun c_2 => ?_) (fun c_2 => ?_)
  · refine lv_iconst (v := nI 2) C.1 C.2.1 dX4_set_28 (by decide) ?_
    refine lv_goto (tgt := 33) C.1 C.2.1 dX4_set_29 (by decide) ?_
    refine x_put (C := RX4) (T := TX4) (N := 37) (v := .int (nI 2)) (w' := wM G a S T K Z L ((tS F 3 (nI 2)))) C inX4 tyX4 tyX4_ok nmX4 hH 0 gM_0 rfl 0 (by decide) rfl rfl rfl rfl (Nat.le_of_ble_eq_true rfl) fM_0_0 4 rfl dX4_set_33 (fun H locs hH => ?_)
    refine lv_aload_n C.1 C.2.1 dX4_set_36 rfl (lv_at hl 0 rfl) ?_
    refine x_get (C := RX4) (T := TX4) (N := 37) (v := .int (nI 2)) C inX4 hH 0 gM_0 rfl 0 (by decide) rfl rfl 4 rfl dX4_set_37 ?_
    refine lv_if_gt (tgt := 53) C.1 C.2.1 dX4_set_40 (by decide) (fun _ => ?_) (fun c_3 => absurd (by decide) c_3)
    refine lv_iconst (v := nI 0) C.1 C.2.1 dX4_set_53 (by decide) ?_
    have hH := x_eqw (w' := wM G a S T K Z L (tS F 3 (nI 2))) (rfl) hH
    exact hE _ _ _ _ _ hH (rfl) (by decide) dX4_set_54
  · refine lv_iload_n C.1 C.2.1 dX4_set_20 rfl (lv_at hl 1 rfl) ?_
    refine lv_aload_n C.1 C.2.1 dX4_set_21 rfl (lv_at hl 0 rfl) ?_
    refine x_get (C := RX4) (T := TX4) (N := 37) (v := .int (F 6)) C inX4 hH 0 gM_0 rfl 14 (by decide) rfl rfl 3 rfl dX4_set_22 ?_
    refine lv_icmp_lt (tgt := 32) C.1 C.2.1 dX4_set_25 (by decide) (fun c_4 => ?_) (fun c_4 => ?_)
    · exact absurd ⟨c_2, c_4⟩ hneg
    · refine lv_iconst (v := nI 2) C.1 C.2.1 dX4_set_28 (by decide) ?_
      refine lv_goto (tgt := 33) C.1 C.2.1 dX4_set_29 (by decide) ?_
      refine x_put (C := RX4) (T := TX4) (N := 37) (v := .int (nI 2)) (w' := wM G a S T K Z L ((tS F 3 (nI 2)))) C inX4 tyX4 tyX4_ok nmX4 hH 0 gM_0 rfl 0 (by decide) rfl rfl rfl rfl (Nat.le_of_ble_eq_true rfl) fM_0_0 4 rfl dX4_set_33 (fun H locs hH => ?_)
      refine lv_aload_n C.1 C.2.1 dX4_set_36 rfl (lv_at hl 0 rfl) ?_
      refine x_get (C := RX4) (T := TX4) (N := 37) (v := .int (nI 2)) C inX4 hH 0 gM_0 rfl 0 (by decide) rfl rfl 4 rfl dX4_set_37 ?_
      refine lv_if_gt (tgt := 53) C.1 C.2.1 dX4_set_40 (by decide) (fun _ => ?_) (fun c_5 => absurd (by decide) c_5)
      refine lv_iconst (v := nI 0) C.1 C.2.1 dX4_set_53 (by decide) ?_
      have hH := x_eqw (w' := wM G a S T K Z L (tS F 3 (nI 2))) (rfl) hH
      exact hE _ _ _ _ _ hH (rfl) (by decide) dX4_set_54
set_option maxHeartbeats 400000 in
set_option maxRecDepth 100000 in
theorem c_X4_setting (l : Launch) (G : xG) (a : Nat → Nat) (S T K Z : Nat → Nat → Int32) (L : Nat → Nat → Int64) (F : Nat → Int32) (lv nd : Nat) (h2 : F 2 = nI 1) (h4 : F 4 = nI lv) (h6 : F 6 = nI nd) (h1 : 1 ≤ lv) (hl9 : lv ≤ nd) (hl10 : lv ≤ 10) (hn : nd ≤ 19) : xMi l yX4_setting wsX4_setting { frames := 1, cells := 0, slots := 0, locals := 22 } [.ref (a 0)] G (wM G a S T K Z L F) (numF Z lv (nd - lv) lv (nI 0)) (wM G a S T K Z L (tS F 3 (nI 0))) 0 0 := by
  refine x_ofi (cc := cX4_setting) (maxL := 1) (ty := .int) (by decide) rfl (Nat.le_of_ble_eq_true rfl) ?_
  intro p e s m args below meth c ls A Q C hml hA hH hl hE
  have hl : lv_has ls 1 [(0, .ref (a 0))] := hl
  have inX4 : ∀ w ∈ wsX40, w ∈ wsX4_setting := fun _ h => (List.mem_cons_of_mem _ (List.mem_append_right _ h))
  refine lv_aload_n C.1 C.2.1 dX4_setting_0 rfl (lv_at hl 0 rfl) ?_
  refine lv_aload_n C.1 C.2.1 dX4_setting_1 rfl (lv_at hl 0 rfl) ?_
  refine x_get (C := RX4) (T := TX4) (N := 37) (v := .int (F 2)) C inX4 hH 0 gM_0 rfl 13 (by decide) rfl rfl 1 rfl dX4_setting_2 ?_
  refine x_toi h2 ?_
  refine lv_if_eq (tgt := 12) C.1 C.2.1 dX4_setting_5 (by decide) (fun c_1 => absurd c_1 (by decide)) (fun _ => ?_)
  refine lv_iconst (v := nI 0) C.1 C.2.1 dX4_setting_8 (by decide) ?_
  refine lv_goto (tgt := 13) C.1 C.2.1 dX4_setting_9 (by decide) ?_
  refine x_put (C := RX4) (T := TX4) (N := 37) (v := .int (nI 0)) (w' := wM G a S T K Z L ((tS F 3 (nI 0)))) C inX4 tyX4 tyX4_ok nmX4 hH 0 gM_0 rfl 0 (by decide) rfl rfl rfl rfl (Nat.le_of_ble_eq_true rfl) fM_0_0 2 rfl dX4_setting_13 (fun H locs hH => ?_)
  refine lv_aload_n C.1 C.2.1 dX4_setting_16 rfl (lv_at hl 0 rfl) ?_
  refine x_get (C := RX4) (T := TX4) (N := 37) (v := .int (F 2)) C inX4 hH 0 gM_0 rfl 13 (by decide) rfl rfl 1 rfl dX4_setting_17 ?_
  refine x_toi h2 ?_
  refine lv_if_eq (tgt := 30) C.1 C.2.1 dX4_setting_20 (by decide) (fun c_2 => absurd c_2 (by decide)) (fun _ => ?_)
  refine lv_aload_n C.1 C.2.1 dX4_setting_23 rfl (lv_at hl 0 rfl) ?_
  refine x_ci (w' := wM G a S T K Z L ((tS F 3 (nI 0)))) (va_runV (As := []) (rest := []) (x_fix C hml) (c_X4_number l G a S T K Z L ((tS F 3 (nI 0))) lv nd h4 h6 h1 hl9 hl10 hn _) (cwV 0 C.2.2.2.1 gX4_setting_X4_number rfl rfl rfl (by decide +kernel) ⟨Nat.le_of_ble_eq_true rfl, Nat.le_of_ble_eq_true rfl⟩) (x_pv C hH rfl gM_0 rfl rfl) rfl rfl hl.1 rfl (lv_room (Nat.le_of_ble_eq_true rfl)) dX4_setting_24 ⟨Nat.le_of_ble_eq_true rfl, Nat.le_of_ble_eq_true rfl⟩) hH hA (fun H locs hH => ?_)
  refine lv_goto (tgt := 31) C.1 C.2.1 dX4_setting_27 (by decide) ?_
  have hH := x_eqw (w' := wM G a S T K Z L (tS F 3 (nI 0))) (rfl) hH
  exact hE _ _ _ _ _ hH (rfl) (rfl) dX4_setting_31
set_option maxHeartbeats 400000 in
set_option maxRecDepth 100000 in
theorem c_X4_setting_t1 (l : Launch) (G : xG) (a : Nat → Nat) (S T K Z : Nat → Nat → Int32) (L : Nat → Nat → Int64) (F : Nat → Int32) (h2 : F 2 = nI 0) : xMi l yX4_setting wsX4_setting { frames := 0, cells := 0, slots := 0, locals := 0 } [.ref (a 0)] G (wM G a S T K Z L F) (nI 0) (wM G a S T K Z L (tS F 3 (nI 1))) 0 0 := by
  refine x_ofi (cc := cX4_setting) (maxL := 1) (ty := .int) (by decide) rfl (Nat.le_of_ble_eq_true rfl) ?_
  intro p e s m args below meth c ls A Q C hml hA hH hl hE
  have hl : lv_has ls 1 [(0, .ref (a 0))] := hl
  have inX4 : ∀ w ∈ wsX40, w ∈ wsX4_setting := fun _ h => (List.mem_cons_of_mem _ (List.mem_append_right _ h))
  refine lv_aload_n C.1 C.2.1 dX4_setting_0 rfl (lv_at hl 0 rfl) ?_
  refine lv_aload_n C.1 C.2.1 dX4_setting_1 rfl (lv_at hl 0 rfl) ?_
  refine x_get (C := RX4) (T := TX4) (N := 37) (v := .int (F 2)) C inX4 hH 0 gM_0 rfl 13 (by decide) rfl rfl 1 rfl dX4_setting_2 ?_
  refine x_toi h2 ?_
  refine lv_if_eq (tgt := 12) C.1 C.2.1 dX4_setting_5 (by decide) (fun _ => ?_) (fun c_1 => absurd (by decide) c_1)
  refine lv_iconst (v := nI 1) C.1 C.2.1 dX4_setting_12 (by decide) ?_
  refine x_put (C := RX4) (T := TX4) (N := 37) (v := .int (nI 1)) (w' := wM G a S T K Z L ((tS F 3 (nI 1)))) C inX4 tyX4 tyX4_ok nmX4 hH 0 gM_0 rfl 0 (by decide) rfl rfl rfl rfl (Nat.le_of_ble_eq_true rfl) fM_0_0 2 rfl dX4_setting_13 (fun H locs hH => ?_)
  refine lv_aload_n C.1 C.2.1 dX4_setting_16 rfl (lv_at hl 0 rfl) ?_
  refine x_get (C := RX4) (T := TX4) (N := 37) (v := .int (F 2)) C inX4 hH 0 gM_0 rfl 13 (by decide) rfl rfl 1 rfl dX4_setting_17 ?_
  refine x_toi h2 ?_
  refine lv_if_eq (tgt := 30) C.1 C.2.1 dX4_setting_20 (by decide) (fun _ => ?_) (fun c_2 => absurd (by decide) c_2)
  refine lv_iconst (v := nI 0) C.1 C.2.1 dX4_setting_30 (by decide) ?_
  have hH := x_eqw (w' := wM G a S T K Z L (tS F 3 (nI 1))) (rfl) hH
  exact hE _ _ _ _ _ hH (rfl) (rfl) dX4_setting_31
set_option maxHeartbeats 400000 in
set_option maxRecDepth 100000 in
theorem c_X4_load (l : Launch) (G : xG) (a : Nat → Nat) (S T K Z : Nat → Nat → Int32) (L : Nat → Nat → Int64) (F : Nat → Int32) (k : Nat) (sh : Bool) (lv nd : Nat) (h2 : F 2 = nI 1) (h4 : F 4 = nI lv) (h6 : F 6 = nI nd) (h1 : 1 ≤ lv) (hl9 : lv ≤ nd) (hl10 : lv ≤ 10) (hn : nd ≤ 19) (lc rc : Nat → Nat) (hPQ : ∀ i, lv ≤ i → i < nd → T 0 i = nI (lc i) ∧ T 1 i = nI (rc i) ∧ lc i < 19 ∧ rc i < 19) (hk : k < nd) : xMl l yX4_load wsX4_load { frames := 1, cells := 0, slots := 0, locals := 25 } [.ref (a 0), .int (nI k), .int (xb (sh = true))] G (wM G a S T K Z L F) (if sh = true then (wmF S (tS F 3 (nI 0)) T lc rc lv (numF Z lv (nd - lv) lv (nI 0)) nd 0 L) 1 k else (wmF S (tS F 3 (nI 0)) T lc rc lv (numF Z lv (nd - lv) lv (nI 0)) nd 0 L) 0 k) (wM G a S T K Z (wmF S (tS F 3 (nI 0)) T lc rc lv (numF Z lv (nd - lv) lv (nI 0)) nd 0 L) (tS F 3 (nI 0))) 0 0 := by
  have hk1 : ¬ (nI k) < 0 ∧ ¬ F 6 ≤ (nI k) := ⟨nI_pos (by omega), by rw [h6]; exact fun z => absurd ((nI_leI (by omega) (by omega)).mp z) (by omega)⟩
  refine x_ofl (cc := cX4_load) (maxL := 3) (by decide) rfl (Nat.le_of_ble_eq_true rfl) ?_
  intro p e s m args below meth c ls A Q C hml hA hH hl hE
  have hl : lv_has ls 3 [(0, .ref (a 0)), (1, .int (nI k)), (2, .int (xb (sh = true)))] := hl
  have inX4 : ∀ w ∈ wsX40, w ∈ wsX4_load := fun _ h => (List.mem_cons_of_mem _ (List.mem_append_right _ h))
  refine lv_aload_n C.1 C.2.1 dX4_load_0 rfl (lv_at hl 0 rfl) ?_
  refine lv_aload_n C.1 C.2.1 dX4_load_1 rfl (lv_at hl 0 rfl) ?_
  refine x_get (C := RX4) (T := TX4) (N := 37) (v := .int (F 2)) C inX4 hH 0 gM_0 rfl 13 (by decide) rfl rfl 1 rfl dX4_load_2 ?_
  refine x_toi h2 ?_
  refine lv_if_ne (tgt := 12) C.1 C.2.1 dX4_load_5 (by decide) (fun _ => ?_) (fun c_1 => absurd (c_1) (by decide))
  refine lv_aload_n C.1 C.2.1 dX4_load_12 rfl (lv_at hl 0 rfl) ?_
  refine lv_iload_n C.1 C.2.1 dX4_load_13 rfl (lv_at hl 1 rfl) ?_
  refine x_ci (w' := wM G a S T K Z L F) (va_runV (As := [.int (nI k)]) (rest := [.ref (a 0)]) (x_fix C hml) (c_X4_isNode l G a S T K Z L F (nI k) _) (cwV 1 C.2.2.2.1 gX4_load_X4_isNode rfl rfl rfl (by decide +kernel) ⟨Nat.le_of_ble_eq_true rfl, Nat.le_of_ble_eq_true rfl⟩) (x_pv C hH rfl gM_0 rfl rfl) rfl rfl hl.1 rfl (lv_room (Nat.le_of_ble_eq_true rfl)) dX4_load_14 ⟨Nat.le_of_ble_eq_true rfl, Nat.le_of_ble_eq_true rfl⟩) hH hA (fun H locs hH => ?_)
  refine lv_if_ne (tgt := 24) C.1 C.2.1 dX4_load_17 (by decide) (fun _ => ?_) (fun z8 => absurd z8 (fun z9 => xb_0.mp z9 hk1))
  refine lv_iconst (v := nI 0) C.1 C.2.1 dX4_load_24 (by decide) ?_
  refine x_put (C := RX4) (T := TX4) (N := 37) (v := .int (nI 0)) (w' := wM G a S T K Z L ((tS F 3 (nI 0)))) C inX4 tyX4 tyX4_ok nmX4 hH 0 gM_0 rfl 0 (by decide) rfl rfl rfl rfl (Nat.le_of_ble_eq_true rfl) fM_0_0 2 rfl dX4_load_25 (fun H locs hH => ?_)
  refine lv_aload_n C.1 C.2.1 dX4_load_28 rfl (lv_at hl 0 rfl) ?_
  refine x_get (C := RX4) (T := TX4) (N := 37) (v := .int (nI 0)) C inX4 hH 0 gM_0 rfl 0 (by decide) rfl rfl 2 rfl dX4_load_29 ?_
  refine lv_if_le (tgt := 37) C.1 C.2.1 dX4_load_32 (by decide) (fun _ => ?_) (fun c_3 => absurd (by decide) c_3)
  refine lv_aload_n C.1 C.2.1 dX4_load_37 rfl (lv_at hl 0 rfl) ?_
  refine lv_aload_n C.1 C.2.1 dX4_load_38 rfl (lv_at hl 0 rfl) ?_
  refine x_ci (w' := wM G a S T K Z L ((tS F 3 (nI 0)))) (va_runV (As := []) (rest := [.ref (a 0)]) (x_fix C hml) (c_X4_number l G a S T K Z L ((tS F 3 (nI 0))) lv nd h4 h6 h1 hl9 hl10 hn _) (cwV 0 C.2.2.2.1 gX4_load_X4_number rfl rfl rfl (by decide +kernel) ⟨Nat.le_of_ble_eq_true rfl, Nat.le_of_ble_eq_true rfl⟩) (x_pv C hH rfl gM_0 rfl rfl) rfl rfl hl.1 rfl (lv_room (Nat.le_of_ble_eq_true rfl)) dX4_load_39 ⟨Nat.le_of_ble_eq_true rfl, Nat.le_of_ble_eq_true rfl⟩) hH hA (fun H locs hH => ?_)
  refine x_cv (w' := wM G a S T K Z (wmF S ((tS F 3 (nI 0))) T lc rc lv (numF Z lv (nd - lv) lv (nI 0)) nd 0 L) ((tS F 3 (nI 0)))) (va_runV (As := [.int (numF Z lv (nd - lv) lv (nI 0))]) (rest := []) (x_fix C hml) (c_X4_weigh l G a S T K Z L ((tS F 3 (nI 0))) (numF Z lv (nd - lv) lv (nI 0)) lv nd h4 h6 h1 hl9 hl10 hn lc rc hPQ _) (cwV 1 C.2.2.2.1 gX4_load_X4_weigh rfl rfl rfl (by decide +kernel) ⟨Nat.le_of_ble_eq_true rfl, Nat.le_of_ble_eq_true rfl⟩) (x_pv C hH rfl gM_0 rfl rfl) rfl rfl hl.1 rfl (lv_room (Nat.le_of_ble_eq_true rfl)) dX4_load_42 ⟨Nat.le_of_ble_eq_true rfl, Nat.le_of_ble_eq_true rfl⟩) hH hA (fun H locs hH => ?_)
  refine lv_iload_n C.1 C.2.1 dX4_load_45 rfl (lv_at hl 2 rfl) ?_
  refine lv_if_eq (tgt := 58) C.1 C.2.1 dX4_load_46 (by decide) (fun c_4 => ?_) (fun c_4 => ?_)
  · rw [xb_0] at c_4
    refine lv_aload_n C.1 C.2.1 dX4_load_58 rfl (lv_at hl 0 rfl) ?_
    refine x_get (C := RX4) (T := TX4) (N := 37) (v := .ref (a 24)) C inX4 hH 0 gM_0 rfl 35 (by decide) rfl rfl 4 rfl dX4_load_59 ?_
    refine lv_iload_n C.1 C.2.1 dX4_load_62 rfl (lv_at hl 1 rfl) ?_
    refine x_lald (f := (wmF S ((tS F 3 (nI 0))) T lc rc lv (numF Z lv (nd - lv) lv (nI 0)) nd 0 L) 0) (j := k) (v := (wmF S ((tS F 3 (nI 0))) T lc rc lv (numF Z lv (nd - lv) lv (nI 0)) nd 0 L) 0 k) C hH 24 gM_24 (by omega) (by decide) (rfl) dX4_load_63 ?_
    have hH := x_eqw (w' := wM G a S T K Z (wmF S (tS F 3 (nI 0)) T lc rc lv (numF Z lv (nd - lv) lv (nI 0)) nd 0 L) (tS F 3 (nI 0))) (rfl) hH
    exact hE _ _ _ _ _ hH (by first | rw [if_pos c_4] | rw [if_neg c_4]) dX4_load_64
  · rw [xb_0] at c_4
    have c_4 := Classical.not_not.mp c_4
    refine lv_aload_n C.1 C.2.1 dX4_load_49 rfl (lv_at hl 0 rfl) ?_
    refine x_get (C := RX4) (T := TX4) (N := 37) (v := .ref (a 25)) C inX4 hH 0 gM_0 rfl 36 (by decide) rfl rfl 3 rfl dX4_load_50 ?_
    refine lv_iload_n C.1 C.2.1 dX4_load_53 rfl (lv_at hl 1 rfl) ?_
    refine x_lald (f := (wmF S ((tS F 3 (nI 0))) T lc rc lv (numF Z lv (nd - lv) lv (nI 0)) nd 0 L) 1) (j := k) (v := (wmF S ((tS F 3 (nI 0))) T lc rc lv (numF Z lv (nd - lv) lv (nI 0)) nd 0 L) 1 k) C hH 25 gM_25 (by omega) (by decide) (rfl) dX4_load_54 ?_
    refine lv_goto (tgt := 64) C.1 C.2.1 dX4_load_55 (by decide) ?_
    have hH := x_eqw (w' := wM G a S T K Z (wmF S (tS F 3 (nI 0)) T lc rc lv (numF Z lv (nd - lv) lv (nI 0)) nd 0 L) (tS F 3 (nI 0))) (rfl) hH
    exact hE _ _ _ _ _ hH (by first | rw [if_pos c_4] | rw [if_neg c_4]) dX4_load_64
set_option maxHeartbeats 400000 in
set_option maxRecDepth 100000 in
theorem c_X4_load_t1 (l : Launch) (G : xG) (a : Nat → Nat) (S T K Z : Nat → Nat → Int32) (L : Nat → Nat → Int64) (F : Nat → Int32) (x : Int32) (sh : Bool) (h2 : F 2 = nI 0) : xMl l yX4_load wsX4_load { frames := 0, cells := 0, slots := 0, locals := 0 } [.ref (a 0), .int x, .int (xb (sh = true))] G (wM G a S T K Z L F) 0 (wM G a S T K Z L (tS F 3 (nI 1))) 0 0 := by
  refine x_ofl (cc := cX4_load) (maxL := 3) (by decide) rfl (Nat.le_of_ble_eq_true rfl) ?_
  intro p e s m args below meth c ls A Q C hml hA hH hl hE
  have hl : lv_has ls 3 [(0, .ref (a 0)), (1, .int x), (2, .int (xb (sh = true)))] := hl
  have inX4 : ∀ w ∈ wsX40, w ∈ wsX4_load := fun _ h => (List.mem_cons_of_mem _ (List.mem_append_right _ h))
  refine lv_aload_n C.1 C.2.1 dX4_load_0 rfl (lv_at hl 0 rfl) ?_
  refine lv_aload_n C.1 C.2.1 dX4_load_1 rfl (lv_at hl 0 rfl) ?_
  refine x_get (C := RX4) (T := TX4) (N := 37) (v := .int (F 2)) C inX4 hH 0 gM_0 rfl 13 (by decide) rfl rfl 1 rfl dX4_load_2 ?_
  refine x_toi h2 ?_
  refine lv_if_ne (tgt := 12) C.1 C.2.1 dX4_load_5 (by decide) (fun c_1 => absurd (by decide) c_1) (fun _ => ?_)
  refine lv_iconst (v := nI 1) C.1 C.2.1 dX4_load_8 (by decide) ?_
  refine lv_goto (tgt := 25) C.1 C.2.1 dX4_load_9 (by decide) ?_
  refine x_put (C := RX4) (T := TX4) (N := 37) (v := .int (nI 1)) (w' := wM G a S T K Z L ((tS F 3 (nI 1)))) C inX4 tyX4 tyX4_ok nmX4 hH 0 gM_0 rfl 0 (by decide) rfl rfl rfl rfl (Nat.le_of_ble_eq_true rfl) fM_0_0 2 rfl dX4_load_25 (fun H locs hH => ?_)
  refine lv_aload_n C.1 C.2.1 dX4_load_28 rfl (lv_at hl 0 rfl) ?_
  refine x_get (C := RX4) (T := TX4) (N := 37) (v := .int (nI 1)) C inX4 hH 0 gM_0 rfl 0 (by decide) rfl rfl 2 rfl dX4_load_29 ?_
  refine lv_if_le (tgt := 37) C.1 C.2.1 dX4_load_32 (by decide) (fun c_2 => absurd c_2 (by decide)) (fun _ => ?_)
  refine lv_lconst (v := 0) C.1 C.2.1 dX4_load_35 (by decide) ?_
  have hH := x_eqw (w' := wM G a S T K Z L (tS F 3 (nI 1))) (rfl) hH
  exact hE _ _ _ _ _ hH (rfl) dX4_load_36
set_option maxHeartbeats 400000 in
set_option maxRecDepth 100000 in
theorem c_X4_load_t2 (l : Launch) (G : xG) (a : Nat → Nat) (S T K Z : Nat → Nat → Int32) (L : Nat → Nat → Int64) (F : Nat → Int32) (x : Int32) (sh : Bool) (h2 : F 2 = nI 1) (hneg : ¬ (¬ x < 0 ∧ ¬ F 6 ≤ x)) : xMl l yX4_load wsX4_load { frames := 1, cells := 0, slots := 0, locals := 21 } [.ref (a 0), .int x, .int (xb (sh = true))] G (wM G a S T K Z L F) 0 (wM G a S T K Z L (tS F 3 (nI 2))) 0 0 := by
  refine x_ofl (cc := cX4_load) (maxL := 3) (by decide) rfl (Nat.le_of_ble_eq_true rfl) ?_
  intro p e s m args below meth c ls A Q C hml hA hH hl hE
  have hl : lv_has ls 3 [(0, .ref (a 0)), (1, .int x), (2, .int (xb (sh = true)))] := hl
  have inX4 : ∀ w ∈ wsX40, w ∈ wsX4_load := fun _ h => (List.mem_cons_of_mem _ (List.mem_append_right _ h))
  refine lv_aload_n C.1 C.2.1 dX4_load_0 rfl (lv_at hl 0 rfl) ?_
  refine lv_aload_n C.1 C.2.1 dX4_load_1 rfl (lv_at hl 0 rfl) ?_
  refine x_get (C := RX4) (T := TX4) (N := 37) (v := .int (F 2)) C inX4 hH 0 gM_0 rfl 13 (by decide) rfl rfl 1 rfl dX4_load_2 ?_
  refine x_toi h2 ?_
  refine lv_if_ne (tgt := 12) C.1 C.2.1 dX4_load_5 (by decide) (fun _ => ?_) (fun c_1 => absurd (c_1) (by decide))
  refine lv_aload_n C.1 C.2.1 dX4_load_12 rfl (lv_at hl 0 rfl) ?_
  refine lv_iload_n C.1 C.2.1 dX4_load_13 rfl (lv_at hl 1 rfl) ?_
  refine x_ci (w' := wM G a S T K Z L F) (va_runV (As := [.int x]) (rest := [.ref (a 0)]) (x_fix C hml) (c_X4_isNode l G a S T K Z L F x _) (cwV 1 C.2.2.2.1 gX4_load_X4_isNode rfl rfl rfl (by decide +kernel) ⟨Nat.le_of_ble_eq_true rfl, Nat.le_of_ble_eq_true rfl⟩) (x_pv C hH rfl gM_0 rfl rfl) rfl rfl hl.1 rfl (lv_room (Nat.le_of_ble_eq_true rfl)) dX4_load_14 ⟨Nat.le_of_ble_eq_true rfl, Nat.le_of_ble_eq_true rfl⟩) hH hA (fun H locs hH => ?_)
  refine lv_if_ne (tgt := 24) C.1 C.2.1 dX4_load_17 (by decide) (fun z8 => absurd (xb_0.mpr hneg) z8) (fun _ => ?_)
  refine lv_iconst (v := nI 2) C.1 C.2.1 dX4_load_20 (by decide) ?_
  refine lv_goto (tgt := 25) C.1 C.2.1 dX4_load_21 (by decide) ?_
  refine x_put (C := RX4) (T := TX4) (N := 37) (v := .int (nI 2)) (w' := wM G a S T K Z L ((tS F 3 (nI 2)))) C inX4 tyX4 tyX4_ok nmX4 hH 0 gM_0 rfl 0 (by decide) rfl rfl rfl rfl (Nat.le_of_ble_eq_true rfl) fM_0_0 2 rfl dX4_load_25 (fun H locs hH => ?_)
  refine lv_aload_n C.1 C.2.1 dX4_load_28 rfl (lv_at hl 0 rfl) ?_
  refine x_get (C := RX4) (T := TX4) (N := 37) (v := .int (nI 2)) C inX4 hH 0 gM_0 rfl 0 (by decide) rfl rfl 2 rfl dX4_load_29 ?_
  refine lv_if_le (tgt := 37) C.1 C.2.1 dX4_load_32 (by decide) (fun c_3 => absurd c_3 (by decide)) (fun _ => ?_)
  refine lv_lconst (v := 0) C.1 C.2.1 dX4_load_35 (by decide) ?_
  have hH := x_eqw (w' := wM G a S T K Z L (tS F 3 (nI 2))) (rfl) hH
  exact hE _ _ _ _ _ hH (rfl) dX4_load_36
set_option maxHeartbeats 400000 in
set_option maxRecDepth 100000 in
theorem c_X4_delay (l : Launch) (G : xG) (a : Nat → Nat) (S T K Z : Nat → Nat → Int32) (L : Nat → Nat → Int64) (F : Nat → Int32) (k : Nat) (lv nd : Nat) (h2 : F 2 = nI 1) (h4 : F 4 = nI lv) (h6 : F 6 = nI nd) (h1 : 1 ≤ lv) (hl9 : lv ≤ nd) (hl10 : lv ≤ 10) (hn : nd ≤ 19) (lc rc : Nat → Nat) (hPQ : ∀ i, lv ≤ i → i < nd → T 0 i = nI (lc i) ∧ T 1 i = nI (rc i) ∧ lc i < 19 ∧ rc i < 19) (po : Nat → Option Nat) (N : Nat) (hpo : ∀ k, k < 19 → T 2 k = oI (po k)) (hcn : ∀ k, k < lv → cnOk po N (some k)) (hk : k < lv) : xMl l yX4_delay wsX4_delay { frames := 1, cells := 0, slots := 0, locals := 28 } [.ref (a 0), .int (nI k)] G (wM G a S T K Z L F) (dmF (tS F 3 (nI 0)) T (wmF S (tS F 3 (nI 0)) T lc rc lv (numF Z lv (nd - lv) lv (nI 0)) nd 0 L) po lv (numF Z lv (nd - lv) lv (nI 0)) N (some k) 0) (wM G a S T K Z (wmF S (tS F 3 (nI 0)) T lc rc lv (numF Z lv (nd - lv) lv (nI 0)) nd 0 L) (tS F 3 (nI 0))) 0 0 := by
  refine x_ofl (cc := cX4_delay) (maxL := 2) (by decide) rfl (Nat.le_of_ble_eq_true rfl) ?_
  intro p e s m args below meth c ls A Q C hml hA hH hl hE
  have hl : lv_has ls 2 [(0, .ref (a 0)), (1, .int (nI k))] := hl
  have inX4 : ∀ w ∈ wsX40, w ∈ wsX4_delay := fun _ h => (List.mem_cons_of_mem _ (List.mem_append_right _ h))
  refine lv_aload_n C.1 C.2.1 dX4_delay_0 rfl (lv_at hl 0 rfl) ?_
  refine lv_aload_n C.1 C.2.1 dX4_delay_1 rfl (lv_at hl 0 rfl) ?_
  refine x_get (C := RX4) (T := TX4) (N := 37) (v := .int (F 2)) C inX4 hH 0 gM_0 rfl 13 (by decide) rfl rfl 1 rfl dX4_delay_2 ?_
  refine x_toi h2 ?_
  refine lv_if_ne (tgt := 12) C.1 C.2.1 dX4_delay_5 (by decide) (fun _ => ?_) (fun c_1 => absurd (c_1) (by decide))
  refine lv_iload_n C.1 C.2.1 dX4_delay_12 rfl (lv_at hl 1 rfl) ?_
  refine lv_if_lt (tgt := 24) C.1 C.2.1 dX4_delay_13 (by decide) (fun c_2 => absurd c_2 (nI_pos (by omega))) (fun _ => ?_)
  refine lv_iload_n C.1 C.2.1 dX4_delay_16 rfl (lv_at hl 1 rfl) ?_
  refine lv_aload_n C.1 C.2.1 dX4_delay_17 rfl (lv_at hl 0 rfl) ?_
  refine x_get (C := RX4) (T := TX4) (N := 37) (v := .int (F 4)) C inX4 hH 0 gM_0 rfl 1 (by decide) rfl rfl 2 rfl dX4_delay_18 ?_
  refine x_toi h4 ?_
  refine lv_icmp_lt (tgt := 28) C.1 C.2.1 dX4_delay_21 (by decide) (fun _ => ?_) (fun c_3 => absurd ((nI_ltI (by omega) (by omega)).mpr (by omega)) c_3)
  refine lv_iconst (v := nI 0) C.1 C.2.1 dX4_delay_28 (by decide) ?_
  refine x_put (C := RX4) (T := TX4) (N := 37) (v := .int (nI 0)) (w' := wM G a S T K Z L ((tS F 3 (nI 0)))) C inX4 tyX4 tyX4_ok nmX4 hH 0 gM_0 rfl 0 (by decide) rfl rfl rfl rfl (Nat.le_of_ble_eq_true rfl) fM_0_0 3 rfl dX4_delay_29 (fun H locs hH => ?_)
  refine lv_aload_n C.1 C.2.1 dX4_delay_32 rfl (lv_at hl 0 rfl) ?_
  refine x_get (C := RX4) (T := TX4) (N := 37) (v := .int (nI 0)) C inX4 hH 0 gM_0 rfl 0 (by decide) rfl rfl 3 rfl dX4_delay_33 ?_
  refine lv_if_le (tgt := 41) C.1 C.2.1 dX4_delay_36 (by decide) (fun _ => ?_) (fun c_4 => absurd (by decide) c_4)
  refine lv_aload_n C.1 C.2.1 dX4_delay_41 rfl (lv_at hl 0 rfl) ?_
  refine lv_aload_n C.1 C.2.1 dX4_delay_42 rfl (lv_at hl 0 rfl) ?_
  refine x_ci (w' := wM G a S T K Z L ((tS F 3 (nI 0)))) (va_runV (As := []) (rest := [.ref (a 0)]) (x_fix C hml) (c_X4_number l G a S T K Z L ((tS F 3 (nI 0))) lv nd h4 h6 h1 hl9 hl10 hn _) (cwV 0 C.2.2.2.1 gX4_delay_X4_number rfl rfl rfl (by decide +kernel) ⟨Nat.le_of_ble_eq_true rfl, Nat.le_of_ble_eq_true rfl⟩) (x_pv C hH rfl gM_0 rfl rfl) rfl rfl hl.1 rfl (lv_room (Nat.le_of_ble_eq_true rfl)) dX4_delay_43 ⟨Nat.le_of_ble_eq_true rfl, Nat.le_of_ble_eq_true rfl⟩) hH hA (fun H locs hH => ?_)
  refine x_cv (w' := wM G a S T K Z (wmF S ((tS F 3 (nI 0))) T lc rc lv (numF Z lv (nd - lv) lv (nI 0)) nd 0 L) ((tS F 3 (nI 0)))) (va_runV (As := [.int (numF Z lv (nd - lv) lv (nI 0))]) (rest := []) (x_fix C hml) (c_X4_weigh l G a S T K Z L ((tS F 3 (nI 0))) (numF Z lv (nd - lv) lv (nI 0)) lv nd h4 h6 h1 hl9 hl10 hn lc rc hPQ _) (cwV 1 C.2.2.2.1 gX4_delay_X4_weigh rfl rfl rfl (by decide +kernel) ⟨Nat.le_of_ble_eq_true rfl, Nat.le_of_ble_eq_true rfl⟩) (x_pv C hH rfl gM_0 rfl rfl) rfl rfl hl.1 rfl (lv_room (Nat.le_of_ble_eq_true rfl)) dX4_delay_46 ⟨Nat.le_of_ble_eq_true rfl, Nat.le_of_ble_eq_true rfl⟩) hH hA (fun H locs hH => ?_)
  refine lv_aload_n C.1 C.2.1 dX4_delay_49 rfl (lv_at hl 0 rfl) ?_
  refine lv_iload_n C.1 C.2.1 dX4_delay_50 rfl (lv_at hl 1 rfl) ?_
  refine lv_aload_n C.1 C.2.1 dX4_delay_51 rfl (lv_at hl 0 rfl) ?_
  refine x_ci (w' := wM G a S T K Z (wmF S ((tS F 3 (nI 0))) T lc rc lv (numF Z lv (nd - lv) lv (nI 0)) nd 0 L) ((tS F 3 (nI 0)))) (va_runV (As := []) (rest := [.int (nI k), .ref (a 0)]) (x_fix C hml) (c_X4_number l G a S T K Z (wmF S ((tS F 3 (nI 0))) T lc rc lv (numF Z lv (nd - lv) lv (nI 0)) nd 0 L) ((tS F 3 (nI 0))) lv nd h4 h6 h1 hl9 hl10 hn _) (cwV 0 C.2.2.2.1 gX4_delay_X4_number rfl rfl rfl (by decide +kernel) ⟨Nat.le_of_ble_eq_true rfl, Nat.le_of_ble_eq_true rfl⟩) (x_pv C hH rfl gM_0 rfl rfl) rfl rfl hl.1 rfl (lv_room (Nat.le_of_ble_eq_true rfl)) dX4_delay_52 ⟨Nat.le_of_ble_eq_true rfl, Nat.le_of_ble_eq_true rfl⟩) hH hA (fun H locs hH => ?_)
  refine x_cl (w' := wM G a S T K Z (wmF S ((tS F 3 (nI 0))) T lc rc lv (numF Z lv (nd - lv) lv (nI 0)) nd 0 L) ((tS F 3 (nI 0)))) (va_runV (As := [.int (nI k), .int (numF Z lv (nd - lv) lv (nI 0))]) (rest := []) (x_fix C hml) (c_X4_delayOf l G a S T K Z (wmF S ((tS F 3 (nI 0))) T lc rc lv (numF Z lv (nd - lv) lv (nI 0)) nd 0 L) ((tS F 3 (nI 0))) k (numF Z lv (nd - lv) lv (nI 0)) lv nd h4 h6 h1 hl9 hl10 hn po N hpo (hcn k (by omega)) _) (cwV 2 C.2.2.2.1 gX4_delay_X4_delayOf rfl rfl rfl (by decide +kernel) ⟨Nat.le_of_ble_eq_true rfl, Nat.le_of_ble_eq_true rfl⟩) (x_pv C hH rfl gM_0 rfl rfl) rfl rfl hl.1 rfl (lv_room (Nat.le_of_ble_eq_true rfl)) dX4_delay_55 ⟨Nat.le_of_ble_eq_true rfl, Nat.le_of_ble_eq_true rfl⟩) hH hA (fun H locs hH => ?_)
  have hH := x_eqw (w' := wM G a S T K Z (wmF S (tS F 3 (nI 0)) T lc rc lv (numF Z lv (nd - lv) lv (nI 0)) nd 0 L) (tS F 3 (nI 0))) (rfl) hH
  exact hE _ _ _ _ _ hH (rfl) dX4_delay_58
set_option maxHeartbeats 400000 in
set_option maxRecDepth 100000 in
theorem c_X4_delay_t1 (l : Launch) (G : xG) (a : Nat → Nat) (S T K Z : Nat → Nat → Int32) (L : Nat → Nat → Int64) (F : Nat → Int32) (x : Int32) (h2 : F 2 = nI 0) : xMl l yX4_delay wsX4_delay { frames := 0, cells := 0, slots := 0, locals := 0 } [.ref (a 0), .int x] G (wM G a S T K Z L F) 0 (wM G a S T K Z L (tS F 3 (nI 1))) 0 0 := by
  refine x_ofl (cc := cX4_delay) (maxL := 2) (by decide) rfl (Nat.le_of_ble_eq_true rfl) ?_
  intro p e s m args below meth c ls A Q C hml hA hH hl hE
  have hl : lv_has ls 2 [(0, .ref (a 0)), (1, .int x)] := hl
  have inX4 : ∀ w ∈ wsX40, w ∈ wsX4_delay := fun _ h => (List.mem_cons_of_mem _ (List.mem_append_right _ h))
  refine lv_aload_n C.1 C.2.1 dX4_delay_0 rfl (lv_at hl 0 rfl) ?_
  refine lv_aload_n C.1 C.2.1 dX4_delay_1 rfl (lv_at hl 0 rfl) ?_
  refine x_get (C := RX4) (T := TX4) (N := 37) (v := .int (F 2)) C inX4 hH 0 gM_0 rfl 13 (by decide) rfl rfl 1 rfl dX4_delay_2 ?_
  refine x_toi h2 ?_
  refine lv_if_ne (tgt := 12) C.1 C.2.1 dX4_delay_5 (by decide) (fun c_1 => absurd (by decide) c_1) (fun _ => ?_)
  refine lv_iconst (v := nI 1) C.1 C.2.1 dX4_delay_8 (by decide) ?_
  refine lv_goto (tgt := 29) C.1 C.2.1 dX4_delay_9 (by decide) ?_
  refine x_put (C := RX4) (T := TX4) (N := 37) (v := .int (nI 1)) (w' := wM G a S T K Z L ((tS F 3 (nI 1)))) C inX4 tyX4 tyX4_ok nmX4 hH 0 gM_0 rfl 0 (by decide) rfl rfl rfl rfl (Nat.le_of_ble_eq_true rfl) fM_0_0 3 rfl dX4_delay_29 (fun H locs hH => ?_)
  refine lv_aload_n C.1 C.2.1 dX4_delay_32 rfl (lv_at hl 0 rfl) ?_
  refine x_get (C := RX4) (T := TX4) (N := 37) (v := .int (nI 1)) C inX4 hH 0 gM_0 rfl 0 (by decide) rfl rfl 3 rfl dX4_delay_33 ?_
  refine lv_if_le (tgt := 41) C.1 C.2.1 dX4_delay_36 (by decide) (fun c_2 => absurd c_2 (by decide)) (fun _ => ?_)
  refine lv_lconst (v := 0) C.1 C.2.1 dX4_delay_39 (by decide) ?_
  have hH := x_eqw (w' := wM G a S T K Z L (tS F 3 (nI 1))) (rfl) hH
  exact hE _ _ _ _ _ hH (rfl) dX4_delay_40
set_option maxHeartbeats 400000 in
set_option maxRecDepth 100000 in
theorem c_X4_delay_t2 (l : Launch) (G : xG) (a : Nat → Nat) (S T K Z : Nat → Nat → Int32) (L : Nat → Nat → Int64) (F : Nat → Int32) (x : Int32) (h2 : F 2 = nI 1) (hneg : ¬ (¬ x < 0 ∧ x < F 4)) : xMl l yX4_delay wsX4_delay { frames := 0, cells := 0, slots := 0, locals := 0 } [.ref (a 0), .int x] G (wM G a S T K Z L F) 0 (wM G a S T K Z L (tS F 3 (nI 2))) 0 0 := by
  refine x_ofl (cc := cX4_delay) (maxL := 2) (by decide) rfl (Nat.le_of_ble_eq_true rfl) ?_
  intro p e s m args below meth c ls A Q C hml hA hH hl hE
  have hl : lv_has ls 2 [(0, .ref (a 0)), (1, .int x)] := hl
  have inX4 : ∀ w ∈ wsX40, w ∈ wsX4_delay := fun _ h => (List.mem_cons_of_mem _ (List.mem_append_right _ h))
  refine lv_aload_n C.1 C.2.1 dX4_delay_0 rfl (lv_at hl 0 rfl) ?_
  refine lv_aload_n C.1 C.2.1 dX4_delay_1 rfl (lv_at hl 0 rfl) ?_
  refine x_get (C := RX4) (T := TX4) (N := 37) (v := .int (F 2)) C inX4 hH 0 gM_0 rfl 13 (by decide) rfl rfl 1 rfl dX4_delay_2 ?_
  refine x_toi h2 ?_
  refine lv_if_ne (tgt := 12) C.1 C.2.1 dX4_delay_5 (by decide) (fun _ => ?_) (fun c_1 => absurd (c_1) (by decide))
  refine lv_iload_n C.1 C.2.1 dX4_delay_12 rfl (lv_at hl 1 rfl) ?_
  refine lv_if_lt (tgt := 24) C.1 C.2.1 dX4_delay_13 (by decide) (fun c_2 => ?_) (fun c_2 => ?_)
  · refine lv_iconst (v := nI 2) C.1 C.2.1 dX4_delay_24 (by decide) ?_
    refine lv_goto (tgt := 29) C.1 C.2.1 dX4_delay_25 (by decide) ?_
    refine x_put (C := RX4) (T := TX4) (N := 37) (v := .int (nI 2)) (w' := wM G a S T K Z L ((tS F 3 (nI 2)))) C inX4 tyX4 tyX4_ok nmX4 hH 0 gM_0 rfl 0 (by decide) rfl rfl rfl rfl (Nat.le_of_ble_eq_true rfl) fM_0_0 3 rfl dX4_delay_29 (fun H locs hH => ?_)
    refine lv_aload_n C.1 C.2.1 dX4_delay_32 rfl (lv_at hl 0 rfl) ?_
    refine x_get (C := RX4) (T := TX4) (N := 37) (v := .int (nI 2)) C inX4 hH 0 gM_0 rfl 0 (by decide) rfl rfl 3 rfl dX4_delay_33 ?_
    refine lv_if_le (tgt := 41) C.1 C.2.1 dX4_delay_36 (by decide) (fun c_3 => absurd c_3 (by decide)) (fun _ => ?_)
    refine lv_lconst (v := 0) C.1 C.2.1 dX4_delay_39 (by decide) ?_
    have hH := x_eqw (w' := wM G a S T K Z L (tS F 3 (nI 2))) (rfl) hH
    exact hE _ _ _ _ _ hH (rfl) dX4_delay_40
  · refine lv_iload_n C.1 C.2.1 dX4_delay_16 rfl (lv_at hl 1 rfl) ?_
    refine lv_aload_n C.1 C.2.1 dX4_delay_17 rfl (lv_at hl 0 rfl) ?_
    refine x_get (C := RX4) (T := TX4) (N := 37) (v := .int (F 4)) C inX4 hH 0 gM_0 rfl 1 (by decide) rfl rfl 2 rfl dX4_delay_18 ?_
    refine lv_icmp_lt (tgt := 28) C.1 C.2.1 dX4_delay_21 (by decide) (fun c_4 => ?_) (fun c_4 => ?_)
    · exact absurd ⟨c_2, c_4⟩ hneg
    · refine lv_iconst (v := nI 2) C.1 C.2.1 dX4_delay_24 (by decide) ?_
      refine lv_goto (tgt := 29) C.1 C.2.1 dX4_delay_25 (by decide) ?_
      refine x_put (C := RX4) (T := TX4) (N := 37) (v := .int (nI 2)) (w' := wM G a S T K Z L ((tS F 3 (nI 2)))) C inX4 tyX4 tyX4_ok nmX4 hH 0 gM_0 rfl 0 (by decide) rfl rfl rfl rfl (Nat.le_of_ble_eq_true rfl) fM_0_0 3 rfl dX4_delay_29 (fun H locs hH => ?_)
      refine lv_aload_n C.1 C.2.1 dX4_delay_32 rfl (lv_at hl 0 rfl) ?_
      refine x_get (C := RX4) (T := TX4) (N := 37) (v := .int (nI 2)) C inX4 hH 0 gM_0 rfl 0 (by decide) rfl rfl 3 rfl dX4_delay_33 ?_
      refine lv_if_le (tgt := 41) C.1 C.2.1 dX4_delay_36 (by decide) (fun c_5 => absurd c_5 (by decide)) (fun _ => ?_)
      refine lv_lconst (v := 0) C.1 C.2.1 dX4_delay_39 (by decide) ?_
      have hH := x_eqw (w' := wM G a S T K Z L (tS F 3 (nI 2))) (rfl) hH
      exact hE _ _ _ _ _ hH (rfl) dX4_delay_40
set_option maxHeartbeats 400000 in
set_option maxRecDepth 100000 in
theorem c_X4_slack (l : Launch) (G : xG) (a : Nat → Nat) (S T K Z : Nat → Nat → Int32) (L : Nat → Nat → Int64) (F : Nat → Int32) (lv nd : Nat) (h2 : F 2 = nI 1) (h4 : F 4 = nI lv) (h6 : F 6 = nI nd) (h1 : 1 ≤ lv) (hl9 : lv ≤ nd) (hl10 : lv ≤ 10) (hn : nd ≤ 19) (lc rc : Nat → Nat) (hPQ : ∀ i, lv ≤ i → i < nd → T 0 i = nI (lc i) ∧ T 1 i = nI (rc i) ∧ lc i < 19 ∧ rc i < 19) (po : Nat → Option Nat) (N : Nat) (hpo : ∀ k, k < 19 → T 2 k = oI (po k)) (hcn : ∀ k, k < lv → cnOk po N (some k)) : xMl l yX4_slack wsX4_slack { frames := 2, cells := 0, slots := 0, locals := 54 } [.ref (a 0)] G (wM G a S T K Z L F) (soV S (tS F 3 (nI 0)) T lc rc po lv nd N (numF Z lv (nd - lv) lv (nI 0)) L) (wM G a S T K Z (soL S (tS F 3 (nI 0)) T lc rc lv nd (numF Z lv (nd - lv) lv (nI 0)) L) (tS F 3 (nI 0))) 0 0 := by
  refine x_ofl (cc := cX4_slack) (maxL := 1) (by decide) rfl (Nat.le_of_ble_eq_true rfl) ?_
  intro p e s m args below meth c ls A Q C hml hA hH hl hE
  have hl : lv_has ls 1 [(0, .ref (a 0))] := hl
  have inX4 : ∀ w ∈ wsX40, w ∈ wsX4_slack := fun _ h => (List.mem_cons_of_mem _ (List.mem_append_right _ h))
  refine lv_aload_n C.1 C.2.1 dX4_slack_0 rfl (lv_at hl 0 rfl) ?_
  refine lv_aload_n C.1 C.2.1 dX4_slack_1 rfl (lv_at hl 0 rfl) ?_
  refine x_get (C := RX4) (T := TX4) (N := 37) (v := .int (F 2)) C inX4 hH 0 gM_0 rfl 13 (by decide) rfl rfl 1 rfl dX4_slack_2 ?_
  refine x_toi h2 ?_
  refine lv_if_eq (tgt := 12) C.1 C.2.1 dX4_slack_5 (by decide) (fun c_1 => absurd c_1 (by decide)) (fun _ => ?_)
  refine lv_iconst (v := nI 0) C.1 C.2.1 dX4_slack_8 (by decide) ?_
  refine lv_goto (tgt := 13) C.1 C.2.1 dX4_slack_9 (by decide) ?_
  refine x_put (C := RX4) (T := TX4) (N := 37) (v := .int (nI 0)) (w' := wM G a S T K Z L ((tS F 3 (nI 0)))) C inX4 tyX4 tyX4_ok nmX4 hH 0 gM_0 rfl 0 (by decide) rfl rfl rfl rfl (Nat.le_of_ble_eq_true rfl) fM_0_0 2 rfl dX4_slack_13 (fun H locs hH => ?_)
  refine lv_aload_n C.1 C.2.1 dX4_slack_16 rfl (lv_at hl 0 rfl) ?_
  refine x_get (C := RX4) (T := TX4) (N := 37) (v := .int (F 2)) C inX4 hH 0 gM_0 rfl 13 (by decide) rfl rfl 1 rfl dX4_slack_17 ?_
  refine x_toi h2 ?_
  refine lv_if_eq (tgt := 34) C.1 C.2.1 dX4_slack_20 (by decide) (fun c_2 => absurd c_2 (by decide)) (fun _ => ?_)
  refine lv_aload_n C.1 C.2.1 dX4_slack_23 rfl (lv_at hl 0 rfl) ?_
  refine lv_aload_n C.1 C.2.1 dX4_slack_24 rfl (lv_at hl 0 rfl) ?_
  refine x_ci (w' := wM G a S T K Z L ((tS F 3 (nI 0)))) (va_runV (As := []) (rest := [.ref (a 0)]) (x_fix C hml) (c_X4_number l G a S T K Z L ((tS F 3 (nI 0))) lv nd h4 h6 h1 hl9 hl10 hn _) (cwV 0 C.2.2.2.1 gX4_slack_X4_number rfl rfl rfl (by decide +kernel) ⟨Nat.le_of_ble_eq_true rfl, Nat.le_of_ble_eq_true rfl⟩) (x_pv C hH rfl gM_0 rfl rfl) rfl rfl hl.1 rfl (lv_room (Nat.le_of_ble_eq_true rfl)) dX4_slack_25 ⟨Nat.le_of_ble_eq_true rfl, Nat.le_of_ble_eq_true rfl⟩) hH hA (fun H locs hH => ?_)
  refine x_cl (w' := wM G a S T K Z (soL S ((tS F 3 (nI 0))) T lc rc lv nd (numF Z lv (nd - lv) lv (nI 0)) L) ((tS F 3 (nI 0)))) (va_runV (As := [.int (numF Z lv (nd - lv) lv (nI 0))]) (rest := []) (x_fix C hml) (c_X4_slackOf l G a S T K Z L ((tS F 3 (nI 0))) (numF Z lv (nd - lv) lv (nI 0)) lv nd h4 h6 h1 hl9 hl10 hn lc rc hPQ po N hpo hcn _) (cwV 1 C.2.2.2.1 gX4_slack_X4_slackOf rfl rfl rfl (by decide +kernel) ⟨Nat.le_of_ble_eq_true rfl, Nat.le_of_ble_eq_true rfl⟩) (x_pv C hH rfl gM_0 rfl rfl) rfl rfl hl.1 rfl (lv_room (Nat.le_of_ble_eq_true rfl)) dX4_slack_28 ⟨Nat.le_of_ble_eq_true rfl, Nat.le_of_ble_eq_true rfl⟩) hH hA (fun H locs hH => ?_)
  refine lv_goto (tgt := 35) C.1 C.2.1 dX4_slack_31 (by decide) ?_
  have hH := x_eqw (w' := wM G a S T K Z (soL S (tS F 3 (nI 0)) T lc rc lv nd (numF Z lv (nd - lv) lv (nI 0)) L) (tS F 3 (nI 0))) (rfl) hH
  exact hE _ _ _ _ _ hH (rfl) dX4_slack_35
set_option maxHeartbeats 400000 in
set_option maxRecDepth 100000 in
theorem c_X4_slack_t1 (l : Launch) (G : xG) (a : Nat → Nat) (S T K Z : Nat → Nat → Int32) (L : Nat → Nat → Int64) (F : Nat → Int32) (h2 : F 2 = nI 0) : xMl l yX4_slack wsX4_slack { frames := 0, cells := 0, slots := 0, locals := 0 } [.ref (a 0)] G (wM G a S T K Z L F) 0 (wM G a S T K Z L (tS F 3 (nI 1))) 0 0 := by
  refine x_ofl (cc := cX4_slack) (maxL := 1) (by decide) rfl (Nat.le_of_ble_eq_true rfl) ?_
  intro p e s m args below meth c ls A Q C hml hA hH hl hE
  have hl : lv_has ls 1 [(0, .ref (a 0))] := hl
  have inX4 : ∀ w ∈ wsX40, w ∈ wsX4_slack := fun _ h => (List.mem_cons_of_mem _ (List.mem_append_right _ h))
  refine lv_aload_n C.1 C.2.1 dX4_slack_0 rfl (lv_at hl 0 rfl) ?_
  refine lv_aload_n C.1 C.2.1 dX4_slack_1 rfl (lv_at hl 0 rfl) ?_
  refine x_get (C := RX4) (T := TX4) (N := 37) (v := .int (F 2)) C inX4 hH 0 gM_0 rfl 13 (by decide) rfl rfl 1 rfl dX4_slack_2 ?_
  refine x_toi h2 ?_
  refine lv_if_eq (tgt := 12) C.1 C.2.1 dX4_slack_5 (by decide) (fun _ => ?_) (fun c_1 => absurd (by decide) c_1)
  refine lv_iconst (v := nI 1) C.1 C.2.1 dX4_slack_12 (by decide) ?_
  refine x_put (C := RX4) (T := TX4) (N := 37) (v := .int (nI 1)) (w' := wM G a S T K Z L ((tS F 3 (nI 1)))) C inX4 tyX4 tyX4_ok nmX4 hH 0 gM_0 rfl 0 (by decide) rfl rfl rfl rfl (Nat.le_of_ble_eq_true rfl) fM_0_0 2 rfl dX4_slack_13 (fun H locs hH => ?_)
  refine lv_aload_n C.1 C.2.1 dX4_slack_16 rfl (lv_at hl 0 rfl) ?_
  refine x_get (C := RX4) (T := TX4) (N := 37) (v := .int (F 2)) C inX4 hH 0 gM_0 rfl 13 (by decide) rfl rfl 1 rfl dX4_slack_17 ?_
  refine x_toi h2 ?_
  refine lv_if_eq (tgt := 34) C.1 C.2.1 dX4_slack_20 (by decide) (fun _ => ?_) (fun c_2 => absurd (by decide) c_2)
  refine lv_lconst (v := 0) C.1 C.2.1 dX4_slack_34 (by decide) ?_
  have hH := x_eqw (w' := wM G a S T K Z L (tS F 3 (nI 1))) (rfl) hH
  exact hE _ _ _ _ _ hH (rfl) dX4_slack_35
set_option maxHeartbeats 400000 in
set_option maxRecDepth 100000 in
theorem c_X4_best (l : Launch) (G : xG) (a : Nat → Nat) (S T K Z : Nat → Nat → Int32) (L : Nat → Nat → Int64) (F : Nat → Int32) (lv nd : Nat) (h2 : F 2 = nI 1) (h4 : F 4 = nI lv) (h6 : F 6 = nI nd) (h1 : 1 ≤ lv) (hl9 : lv ≤ nd) (hl10 : lv ≤ 10) (hn : nd ≤ 19) (lc rc : Nat → Nat) (hPQ : ∀ i, lv ≤ i → i < nd → T 0 i = nI (lc i) ∧ T 1 i = nI (rc i) ∧ lc i < 19 ∧ rc i < 19) (po : Nat → Option Nat) (N : Nat) (hpo : ∀ k, k < 19 → T 2 k = oI (po k)) (hcn : ∀ k, k < lv → cnOk po N (some k)) (Mx : Nat) (B : Nat × Int64 × (Nat → Nat → Int64)) (hM : bitI (lv - 1) = nI Mx) (hM1 : 1 ≤ Mx) (hM2 : Mx ≤ 512) (hB : bsF S (tS F 3 (nI 0)) T lc rc po lv nd N (Mx - 1) 1 (0, soV S (tS F 3 (nI 0)) T lc rc po lv nd N (nI 0) L, soL S (tS F 3 (nI 0)) T lc rc lv nd (nI 0) L) = B) : xMl l yX4_best wsX4_best { frames := 3, cells := 0, slots := 0, locals := 80 } [.ref (a 0)] G (wM G a S T K Z L F) (soV S (tS F 3 (nI 0)) T lc rc po lv nd N (nI B.1) B.2.2) (wM G a S T K Z (soL S (tS F 3 (nI 0)) T lc rc lv nd (nI B.1) B.2.2) (tS F 3 (nI 0))) 0 0 := by
  refine x_ofl (cc := cX4_best) (maxL := 1) (by decide) rfl (Nat.le_of_ble_eq_true rfl) ?_
  intro p e s m args below meth c ls A Q C hml hA hH hl hE
  have hl : lv_has ls 1 [(0, .ref (a 0))] := hl
  have inX4 : ∀ w ∈ wsX40, w ∈ wsX4_best := fun _ h => (List.mem_cons_of_mem _ (List.mem_append_right _ h))
  refine lv_aload_n C.1 C.2.1 dX4_best_0 rfl (lv_at hl 0 rfl) ?_
  refine lv_aload_n C.1 C.2.1 dX4_best_1 rfl (lv_at hl 0 rfl) ?_
  refine x_get (C := RX4) (T := TX4) (N := 37) (v := .int (F 2)) C inX4 hH 0 gM_0 rfl 13 (by decide) rfl rfl 1 rfl dX4_best_2 ?_
  refine x_toi h2 ?_
  refine lv_if_eq (tgt := 12) C.1 C.2.1 dX4_best_5 (by decide) (fun c_1 => absurd c_1 (by decide)) (fun _ => ?_)
  refine lv_iconst (v := nI 0) C.1 C.2.1 dX4_best_8 (by decide) ?_
  refine lv_goto (tgt := 13) C.1 C.2.1 dX4_best_9 (by decide) ?_
  refine x_put (C := RX4) (T := TX4) (N := 37) (v := .int (nI 0)) (w' := wM G a S T K Z L ((tS F 3 (nI 0)))) C inX4 tyX4 tyX4_ok nmX4 hH 0 gM_0 rfl 0 (by decide) rfl rfl rfl rfl (Nat.le_of_ble_eq_true rfl) fM_0_0 2 rfl dX4_best_13 (fun H locs hH => ?_)
  refine lv_aload_n C.1 C.2.1 dX4_best_16 rfl (lv_at hl 0 rfl) ?_
  refine x_get (C := RX4) (T := TX4) (N := 37) (v := .int (F 2)) C inX4 hH 0 gM_0 rfl 13 (by decide) rfl rfl 1 rfl dX4_best_17 ?_
  refine x_toi h2 ?_
  refine lv_if_eq (tgt := 34) C.1 C.2.1 dX4_best_20 (by decide) (fun c_2 => absurd c_2 (by decide)) (fun _ => ?_)
  refine lv_aload_n C.1 C.2.1 dX4_best_23 rfl (lv_at hl 0 rfl) ?_
  refine lv_aload_n C.1 C.2.1 dX4_best_24 rfl (lv_at hl 0 rfl) ?_
  refine x_ci (w' := wM G a S T K Z B.2.2 ((tS F 3 (nI 0)))) (va_runV (As := []) (rest := [.ref (a 0)]) (x_fix C hml) (c_X4_bestSetting l G a S T K Z L ((tS F 3 (nI 0))) lv nd h4 h6 h1 hl9 hl10 hn lc rc hPQ po N hpo hcn Mx B hM hM1 hM2 hB _) (cwV 0 C.2.2.2.1 gX4_best_X4_bestSetting rfl rfl rfl (by decide +kernel) ⟨Nat.le_of_ble_eq_true rfl, Nat.le_of_ble_eq_true rfl⟩) (x_pv C hH rfl gM_0 rfl rfl) rfl rfl hl.1 rfl (lv_room (Nat.le_of_ble_eq_true rfl)) dX4_best_25 ⟨Nat.le_of_ble_eq_true rfl, Nat.le_of_ble_eq_true rfl⟩) hH hA (fun H locs hH => ?_)
  refine x_cl (w' := wM G a S T K Z (soL S ((tS F 3 (nI 0))) T lc rc lv nd (nI B.1) B.2.2) ((tS F 3 (nI 0)))) (va_runV (As := [.int (nI B.1)]) (rest := []) (x_fix C hml) (c_X4_slackOf l G a S T K Z B.2.2 ((tS F 3 (nI 0))) (nI B.1) lv nd h4 h6 h1 hl9 hl10 hn lc rc hPQ po N hpo hcn _) (cwV 1 C.2.2.2.1 gX4_best_X4_slackOf rfl rfl rfl (by decide +kernel) ⟨Nat.le_of_ble_eq_true rfl, Nat.le_of_ble_eq_true rfl⟩) (x_pv C hH rfl gM_0 rfl rfl) rfl rfl hl.1 rfl (lv_room (Nat.le_of_ble_eq_true rfl)) dX4_best_28 ⟨Nat.le_of_ble_eq_true rfl, Nat.le_of_ble_eq_true rfl⟩) hH hA (fun H locs hH => ?_)
  refine lv_goto (tgt := 35) C.1 C.2.1 dX4_best_31 (by decide) ?_
  have hH := x_eqw (w' := wM G a S T K Z (soL S (tS F 3 (nI 0)) T lc rc lv nd (nI B.1) B.2.2) (tS F 3 (nI 0))) (rfl) hH
  exact hE _ _ _ _ _ hH (rfl) dX4_best_35
set_option maxHeartbeats 400000 in
set_option maxRecDepth 100000 in
theorem c_X4_best_t1 (l : Launch) (G : xG) (a : Nat → Nat) (S T K Z : Nat → Nat → Int32) (L : Nat → Nat → Int64) (F : Nat → Int32) (h2 : F 2 = nI 0) : xMl l yX4_best wsX4_best { frames := 0, cells := 0, slots := 0, locals := 0 } [.ref (a 0)] G (wM G a S T K Z L F) 0 (wM G a S T K Z L (tS F 3 (nI 1))) 0 0 := by
  refine x_ofl (cc := cX4_best) (maxL := 1) (by decide) rfl (Nat.le_of_ble_eq_true rfl) ?_
  intro p e s m args below meth c ls A Q C hml hA hH hl hE
  have hl : lv_has ls 1 [(0, .ref (a 0))] := hl
  have inX4 : ∀ w ∈ wsX40, w ∈ wsX4_best := fun _ h => (List.mem_cons_of_mem _ (List.mem_append_right _ h))
  refine lv_aload_n C.1 C.2.1 dX4_best_0 rfl (lv_at hl 0 rfl) ?_
  refine lv_aload_n C.1 C.2.1 dX4_best_1 rfl (lv_at hl 0 rfl) ?_
  refine x_get (C := RX4) (T := TX4) (N := 37) (v := .int (F 2)) C inX4 hH 0 gM_0 rfl 13 (by decide) rfl rfl 1 rfl dX4_best_2 ?_
  refine x_toi h2 ?_
  refine lv_if_eq (tgt := 12) C.1 C.2.1 dX4_best_5 (by decide) (fun _ => ?_) (fun c_1 => absurd (by decide) c_1)
  refine lv_iconst (v := nI 1) C.1 C.2.1 dX4_best_12 (by decide) ?_
  refine x_put (C := RX4) (T := TX4) (N := 37) (v := .int (nI 1)) (w' := wM G a S T K Z L ((tS F 3 (nI 1)))) C inX4 tyX4 tyX4_ok nmX4 hH 0 gM_0 rfl 0 (by decide) rfl rfl rfl rfl (Nat.le_of_ble_eq_true rfl) fM_0_0 2 rfl dX4_best_13 (fun H locs hH => ?_)
  refine lv_aload_n C.1 C.2.1 dX4_best_16 rfl (lv_at hl 0 rfl) ?_
  refine x_get (C := RX4) (T := TX4) (N := 37) (v := .int (F 2)) C inX4 hH 0 gM_0 rfl 13 (by decide) rfl rfl 1 rfl dX4_best_17 ?_
  refine x_toi h2 ?_
  refine lv_if_eq (tgt := 34) C.1 C.2.1 dX4_best_20 (by decide) (fun _ => ?_) (fun c_2 => absurd (by decide) c_2)
  refine lv_lconst (v := 0) C.1 C.2.1 dX4_best_34 (by decide) ?_
  have hH := x_eqw (w' := wM G a S T K Z L (tS F 3 (nI 1))) (rfl) hH
  exact hE _ _ _ _ _ hH (rfl) dX4_best_35
set_option maxHeartbeats 400000 in
set_option maxRecDepth 100000 in
theorem c_X4_improve (l : Launch) (G : xG) (a : Nat → Nat) (S T K Z : Nat → Nat → Int32) (L : Nat → Nat → Int64) (F : Nat → Int32) (lv nd : Nat) (h2 : F 2 = nI 1) (h4 : F 4 = nI lv) (h6 : F 6 = nI nd) (h1 : 1 ≤ lv) (hl9 : lv ≤ nd) (hl10 : lv ≤ 10) (hn : nd ≤ 19) (lc rc : Nat → Nat) (hPQ : ∀ i, lv ≤ i → i < nd → T 0 i = nI (lc i) ∧ T 1 i = nI (rc i) ∧ lc i < 19 ∧ rc i < 19) (po : Nat → Option Nat) (N : Nat) (hpo : ∀ k, k < 19 → T 2 k = oI (po k)) (hcn : ∀ k, k < lv → cnOk po N (some k)) (Mx : Nat) (B : Nat × Int64 × (Nat → Nat → Int64)) (hM : bitI (lv - 1) = nI Mx) (hM1 : 1 ≤ Mx) (hM2 : Mx ≤ 512) (hB : bsF S (tS F 3 (nI 0)) T lc rc po lv nd N (Mx - 1) 1 (0, soV S (tS F 3 (nI 0)) T lc rc po lv nd N (nI 0) L, soL S (tS F 3 (nI 0)) T lc rc lv nd (nI 0) L) = B) : xMi l yX4_improve wsX4_improve { frames := 3, cells := 0, slots := 0, locals := 80 } [.ref (a 0)] G (wM G a S T K Z L F) (nI B.1) (wM G a S T K (imF (nI B.1) lv (nd - lv) lv Z) B.2.2 (tS F 3 (nI 0))) 0 0 := by
  refine x_ofi (cc := cX4_improve) (maxL := 3) (ty := .int) (by decide) rfl (Nat.le_of_ble_eq_true rfl) ?_
  intro p e s m args below meth c ls A Q C hml hA hH hl hE
  have hl : lv_has ls 3 [(0, .ref (a 0))] := hl
  have inX4 : ∀ w ∈ wsX40, w ∈ wsX4_improve := fun _ h => (List.mem_cons_of_mem _ (List.mem_append_right _ h))
  refine lv_aload_n C.1 C.2.1 dX4_improve_0 rfl (lv_at hl 0 rfl) ?_
  refine lv_aload_n C.1 C.2.1 dX4_improve_1 rfl (lv_at hl 0 rfl) ?_
  refine x_get (C := RX4) (T := TX4) (N := 37) (v := .int (F 2)) C inX4 hH 0 gM_0 rfl 13 (by decide) rfl rfl 1 rfl dX4_improve_2 ?_
  refine x_toi h2 ?_
  refine lv_if_eq (tgt := 12) C.1 C.2.1 dX4_improve_5 (by decide) (fun c_1 => absurd c_1 (by decide)) (fun _ => ?_)
  refine lv_iconst (v := nI 0) C.1 C.2.1 dX4_improve_8 (by decide) ?_
  refine lv_goto (tgt := 13) C.1 C.2.1 dX4_improve_9 (by decide) ?_
  refine x_put (C := RX4) (T := TX4) (N := 37) (v := .int (nI 0)) (w' := wM G a S T K Z L ((tS F 3 (nI 0)))) C inX4 tyX4 tyX4_ok nmX4 hH 0 gM_0 rfl 0 (by decide) rfl rfl rfl rfl (Nat.le_of_ble_eq_true rfl) fM_0_0 2 rfl dX4_improve_13 (fun H locs hH => ?_)
  refine lv_aload_n C.1 C.2.1 dX4_improve_16 rfl (lv_at hl 0 rfl) ?_
  refine x_get (C := RX4) (T := TX4) (N := 37) (v := .int (F 2)) C inX4 hH 0 gM_0 rfl 13 (by decide) rfl rfl 1 rfl dX4_improve_17 ?_
  refine x_toi h2 ?_
  refine lv_if_ne (tgt := 25) C.1 C.2.1 dX4_improve_20 (by decide) (fun _ => ?_) (fun c_2 => absurd (c_2) (by decide))
  refine lv_aload_n C.1 C.2.1 dX4_improve_25 rfl (lv_at hl 0 rfl) ?_
  refine x_ci (w' := wM G a S T K Z B.2.2 ((tS F 3 (nI 0)))) (va_runV (As := []) (rest := []) (x_fix C hml) (c_X4_bestSetting l G a S T K Z L ((tS F 3 (nI 0))) lv nd h4 h6 h1 hl9 hl10 hn lc rc hPQ po N hpo hcn Mx B hM hM1 hM2 hB _) (cwV 0 C.2.2.2.1 gX4_improve_X4_bestSetting rfl rfl rfl (by decide +kernel) ⟨Nat.le_of_ble_eq_true rfl, Nat.le_of_ble_eq_true rfl⟩) (x_pv C hH rfl gM_0 rfl rfl) rfl rfl hl.1 rfl (lv_room (Nat.le_of_ble_eq_true rfl)) dX4_improve_26 ⟨Nat.le_of_ble_eq_true rfl, Nat.le_of_ble_eq_true rfl⟩) hH hA (fun H locs hH => ?_)
  refine lv_istore_n (lv' := [(1, .int (nI B.1)), (0, .ref (a 0))]) C.1 C.2.1 dX4_improve_29 rfl hl (by decide) rfl (fun ls hl => ?_)
  refine lv_aload_n C.1 C.2.1 dX4_improve_30 rfl (lv_at hl 1 rfl) ?_
  refine x_get (C := RX4) (T := TX4) (N := 37) (v := .int (F 4)) C inX4 hH 0 gM_0 rfl 1 (by decide) rfl rfl 3 rfl dX4_improve_31 ?_
  refine x_toi h4 ?_
  refine lv_istore_n (lv' := [(2, .int (nI lv)), (1, .int (nI B.1)), (0, .ref (a 0))]) C.1 C.2.1 dX4_improve_34 rfl hl (by decide) rfl (fun ls hl => ?_)
  have lp : ∀ (n : Nat) (i : Nat) (Z1 : Nat → Nat → Int32) (H : Heap) (locs : List Loc) (ls : Array Slot), i + n = nd → lv ≤ i → imF (nI B.1) lv n i Z1 = imF (nI B.1) lv (nd - lv) lv Z → xH G A s.heap H locs (wM G a S T K Z1 B.2.2 ((tS F 3 (nI 0)))) → lv_has ls 3 [(0, .ref (a 0)), (1, .int (nI B.1)), (2, .int (nI i))] → W p l e ({ frames := 3, cells := 0, slots := 0, locals := 80 }) s m args below meth c H locs 0 0 Q (F0 m 35 ls []) := by
    intro n
    induction n with
    | zero =>
      intro i Z1 H locs ls hin hli hf hH hl
      refine lv_iload_n C.1 C.2.1 dX4_improve_35 rfl (lv_at hl 2 rfl) ?_
      refine lv_aload_n C.1 C.2.1 dX4_improve_36 rfl (lv_at hl 0 rfl) ?_
      refine x_get (C := RX4) (T := TX4) (N := 37) (v := .int (F 6)) C inX4 hH 0 gM_0 rfl 14 (by decide) rfl rfl 4 rfl dX4_improve_37 ?_
      refine x_toi h6 ?_
      refine lv_icmp_ge (tgt := 74) C.1 C.2.1 dX4_improve_40 (by decide) (fun _ => ?_) (fun c_3 => absurd ((nI_leI (a := nd) (b := i) (by omega) (by omega)).mpr (by omega)) c_3)
      refine lv_iload_n C.1 C.2.1 dX4_improve_74 rfl (lv_at hl 1 rfl) ?_
      have hH := x_eqw (w' := wM G a S T K (imF (nI B.1) lv (nd - lv) lv Z) B.2.2 (tS F 3 (nI 0))) (by rw [← hf]; rfl) hH
      exact hE _ _ _ _ _ hH (rfl) (rfl) dX4_improve_75
    | succ n ih35 =>
      intro i Z1 H locs ls hin hli hf hH hl
      refine lv_iload_n C.1 C.2.1 dX4_improve_35 rfl (lv_at hl 2 rfl) ?_
      refine lv_aload_n C.1 C.2.1 dX4_improve_36 rfl (lv_at hl 0 rfl) ?_
      refine x_get (C := RX4) (T := TX4) (N := 37) (v := .int (F 6)) C inX4 hH 0 gM_0 rfl 14 (by decide) rfl rfl 4 rfl dX4_improve_37 ?_
      refine x_toi h6 ?_
      refine lv_icmp_ge (tgt := 74) C.1 C.2.1 dX4_improve_40 (by decide) (fun c_4 => absurd ((nI_leI (a := nd) (b := i) (by omega) (by omega)).mp c_4) (by omega)) (fun _ => ?_)
      refine lv_aload_n C.1 C.2.1 dX4_improve_43 rfl (lv_at hl 0 rfl) ?_
      refine x_get (C := RX4) (T := TX4) (N := 37) (v := .ref (a 16)) C inX4 hH 0 gM_0 rfl 26 (by decide) rfl rfl 5 rfl dX4_improve_44 ?_
      refine lv_iload_n C.1 C.2.1 dX4_improve_47 rfl (lv_at hl 2 rfl) ?_
      refine lv_iload_n C.1 C.2.1 dX4_improve_48 rfl (lv_at hl 1 rfl) ?_
      refine lv_iload_n C.1 C.2.1 dX4_improve_49 rfl (lv_at hl 2 rfl) ?_
      refine lv_aload_n C.1 C.2.1 dX4_improve_50 rfl (lv_at hl 0 rfl) ?_
      refine x_get (C := RX4) (T := TX4) (N := 37) (v := .int (F 4)) C inX4 hH 0 gM_0 rfl 1 (by decide) rfl rfl 3 rfl dX4_improve_51 ?_
      refine x_toi h4 ?_
      refine lv_isub C.1 C.2.1 dX4_improve_54 ?_
      refine x_toi (pk_sub (a := i) (b := lv) (by omega)) ?_
      refine lv_ishr C.1 C.2.1 dX4_improve_55 ?_
      refine lv_iconst (v := nI 1) C.1 C.2.1 dX4_improve_56 (by decide) ?_
      refine lv_iand C.1 C.2.1 dX4_improve_57 ?_
      refine lv_iconst (v := nI 1) C.1 C.2.1 dX4_improve_58 (by decide) ?_
      refine x_mrg (g := F0 m 0 ls []) (pc2 := 67) (v := xb (onM (nI B.1) (i - lv) = true)) (st := [.int (nI i), .ref (a 16)]) ?_ (fun hm_6 => ?_)
      · refine x_zast (f := Z1 0) (j := i) (x := xb (onM (nI B.1) (i - lv) = true)) (w' := wM G a S T K ((tS Z1 0 (upd (Z1 0) i (xb (onM (nI B.1) (i - lv) = true))))) B.2.2 ((tS F 3 (nI 0)))) C hH 16 gM_16 (by omega) (by decide) (xb_vp) sM_16 dX4_improve_67 (fun H locs hH => ?_)
        refine lv_iinc (v := nI (i + 1)) (lv' := [(2, .int (nI (i + 1))), (0, .ref (a 0)), (1, .int (nI B.1))]) C.1 C.2.1 dX4_improve_68 hl (k := 2) rfl (nI_add i 1) (by decide) rfl (fun ls hl => ?_)
        refine lv_goto (tgt := 35) C.1 C.2.1 dX4_improve_71 (by decide) ?_
        have hH := x_eqw (w' := wM G a S T K (imZ Z1 (nI B.1) lv i) B.2.2 ((tS F 3 (nI 0)))) (rfl) hH
        exact ih35 (i + 1) (imZ Z1 (nI B.1) lv i) _ _ _ (by omega) (by omega) (hf) hH (lv_sub hl [1, 2, 0] rfl)
      · refine lv_icmp_ne (tgt := 66) C.1 C.2.1 dX4_improve_59 (by decide) (fun c_7 => ?_) (fun c_7 => ?_)
        · refine lv_iconst (v := nI 0) C.1 C.2.1 dX4_improve_66 (by decide) ?_
          exact x_toi (by first | exact xb_t (onM_t c_7) | exact xb_f (onM_f c_7)) hm_6
        · refine lv_iconst (v := nI 1) C.1 C.2.1 dX4_improve_62 (by decide) ?_
          refine lv_goto (tgt := 67) C.1 C.2.1 dX4_improve_63 (by decide) ?_
          exact x_toi (by first | exact xb_t (onM_t c_7) | exact xb_f (onM_f c_7)) hm_6
  exact lp (nd - lv) lv Z _ _ _ (by omega) (by omega) (rfl) hH (lv_sub hl [2, 1, 0] rfl)
set_option maxHeartbeats 400000 in
set_option maxRecDepth 100000 in
theorem c_X4_improve_t1 (l : Launch) (G : xG) (a : Nat → Nat) (S T K Z : Nat → Nat → Int32) (L : Nat → Nat → Int64) (F : Nat → Int32) (h2 : F 2 = nI 0) : xMi l yX4_improve wsX4_improve { frames := 0, cells := 0, slots := 0, locals := 0 } [.ref (a 0)] G (wM G a S T K Z L F) (nI 0) (wM G a S T K Z L (tS F 3 (nI 1))) 0 0 := by
  refine x_ofi (cc := cX4_improve) (maxL := 3) (ty := .int) (by decide) rfl (Nat.le_of_ble_eq_true rfl) ?_
  intro p e s m args below meth c ls A Q C hml hA hH hl hE
  have hl : lv_has ls 3 [(0, .ref (a 0))] := hl
  have inX4 : ∀ w ∈ wsX40, w ∈ wsX4_improve := fun _ h => (List.mem_cons_of_mem _ (List.mem_append_right _ h))
  refine lv_aload_n C.1 C.2.1 dX4_improve_0 rfl (lv_at hl 0 rfl) ?_
  refine lv_aload_n C.1 C.2.1 dX4_improve_1 rfl (lv_at hl 0 rfl) ?_
  refine x_get (C := RX4) (T := TX4) (N := 37) (v := .int (F 2)) C inX4 hH 0 gM_0 rfl 13 (by decide) rfl rfl 1 rfl dX4_improve_2 ?_
  refine x_toi h2 ?_
  refine lv_if_eq (tgt := 12) C.1 C.2.1 dX4_improve_5 (by decide) (fun _ => ?_) (fun c_1 => absurd (by decide) c_1)
  refine lv_iconst (v := nI 1) C.1 C.2.1 dX4_improve_12 (by decide) ?_
  refine x_put (C := RX4) (T := TX4) (N := 37) (v := .int (nI 1)) (w' := wM G a S T K Z L ((tS F 3 (nI 1)))) C inX4 tyX4 tyX4_ok nmX4 hH 0 gM_0 rfl 0 (by decide) rfl rfl rfl rfl (Nat.le_of_ble_eq_true rfl) fM_0_0 2 rfl dX4_improve_13 (fun H locs hH => ?_)
  refine lv_aload_n C.1 C.2.1 dX4_improve_16 rfl (lv_at hl 0 rfl) ?_
  refine x_get (C := RX4) (T := TX4) (N := 37) (v := .int (F 2)) C inX4 hH 0 gM_0 rfl 13 (by decide) rfl rfl 1 rfl dX4_improve_17 ?_
  refine x_toi h2 ?_
  refine lv_if_ne (tgt := 25) C.1 C.2.1 dX4_improve_20 (by decide) (fun c_2 => absurd (by decide) c_2) (fun _ => ?_)
  refine lv_iconst (v := nI 0) C.1 C.2.1 dX4_improve_23 (by decide) ?_
  have hH := x_eqw (w' := wM G a S T K Z L (tS F 3 (nI 1))) (rfl) hH
  exact hE _ _ _ _ _ hH (rfl) (rfl) dX4_improve_24
