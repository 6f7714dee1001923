set_option maxHeartbeats 400000 in
set_option maxRecDepth 100000 in
theorem c_X4_isNode (l : Launch) (G : xG) (a : Nat → Nat) (S T K Z : Nat → Nat → Int32) (L : Nat → Nat → Int64) (F : Nat → Int32) (x : Int32) : xMi l yX4_isNode wsX4_isNode { frames := 0, cells := 0, slots := 0, locals := 0 } [.ref (a 0), .int x] G (wM G a S T K Z L F) (xb (¬ x < 0 ∧ ¬ F 6 ≤ x)) (wM G a S T K Z L F) 0 0 := by
  refine x_ofi (cc := cX4_isNode) (maxL := 2) (ty := .boolean) (by decide) rfl (Nat.le_of_ble_eq_true rfl) ?_
  intro p e s m args below meth c ls A Q C hml hA hH hl hE
  have hl : lv_has ls 2 [(0, .ref (a 0)), (1, .int x)] := hl
  have inX4 : ∀ w ∈ wsX40, w ∈ wsX4_isNode := fun _ h => (List.mem_cons_of_mem _ (List.mem_append_right _ h))
  refine lv_iload_n C.1 C.2.1 dX4_isNode_0 rfl (lv_at hl 1 rfl) ?_
  refine lv_if_lt (tgt := 16) C.1 C.2.1 dX4_isNode_1 (by decide) (fun c_1 => ?_) (fun c_1 => ?_)
  · refine lv_iconst (v := nI 0) C.1 C.2.1 dX4_isNode_16 (by decide) ?_
    exact hE _ _ _ _ _ hH (by first | exact xb_f (fun h => h.1 c_1) | exact xb_f (fun h => h.2 rfl) | exact xb_t ⟨c_1, rfl⟩) (by decide) dX4_isNode_17
  · refine lv_iload_n C.1 C.2.1 dX4_isNode_4 rfl (lv_at hl 1 rfl) ?_
    refine lv_aload_n C.1 C.2.1 dX4_isNode_5 rfl (lv_at hl 0 rfl) ?_
    refine x_get (C := RX4) (T := TX4) (N := 37) (v := .int (F 6)) C inX4 hH 0 gM_0 rfl 14 (by decide) rfl rfl 1 rfl dX4_isNode_6 ?_
    refine lv_icmp_ge (tgt := 16) C.1 C.2.1 dX4_isNode_9 (by decide) (fun c_2 => ?_) (fun c_2 => ?_)
    · refine lv_iconst (v := nI 0) C.1 C.2.1 dX4_isNode_16 (by decide) ?_
      exact hE _ _ _ _ _ hH (by first | exact xb_f (fun h => h.1 c_1) | exact xb_f (fun h => h.2 c_2) | exact xb_t ⟨c_1, c_2⟩) (by decide) dX4_isNode_17
    · refine lv_iconst (v := nI 1) C.1 C.2.1 dX4_isNode_12 (by decide) ?_
      refine lv_goto (tgt := 17) C.1 C.2.1 dX4_isNode_13 (by decide) ?_
      exact hE _ _ _ _ _ hH (by first | exact xb_f (fun h => h.1 c_1) | exact xb_f (fun h => h.2 c_2) | exact xb_t ⟨c_1, c_2⟩) (by decide) dX4_isNode_17
set_option maxHeartbeats 400000 in
set_option maxRecDepth 100000 in
theorem c_X4_number (l : Launch) (G : xG) (a : Nat → Nat) (S T K Z : Nat → Nat → Int32) (L : Nat → Nat → Int64) (F : Nat → Int32) (lv nd : Nat) (h4 : F 4 = nI lv) (h6 : F 6 = nI nd) (h1 : 1 ≤ lv) (hl9 : lv ≤ nd) (hl10 : lv ≤ 10) (hn : nd ≤ 19) : xMi l yX4_number wsX4_number { frames := 0, cells := 0, slots := 0, locals := 0 } [.ref (a 0)] G (wM G a S T K Z L F) (numF Z lv (nd - lv) lv (nI 0)) (wM G a S T K Z L F) 0 0 := by
  refine x_ofi (cc := cX4_number) (maxL := 3) (ty := .int) (by decide) rfl (Nat.le_of_ble_eq_true rfl) ?_
  intro p e s m args below meth c ls A Q C hml hA hH hl hE
  have hl : lv_has ls 3 [(0, .ref (a 0))] := hl
  have inX4 : ∀ w ∈ wsX40, w ∈ wsX4_number := fun _ h => (List.mem_cons_of_mem _ (List.mem_append_right _ h))
  refine lv_iconst (v := nI 0) C.1 C.2.1 dX4_number_0 (by decide) ?_
  refine lv_istore_n (lv' := [(1, .int (nI 0)), (0, .ref (a 0))]) C.1 C.2.1 dX4_number_1 rfl hl (by decide) rfl (fun ls hl => ?_)
  refine lv_aload_n C.1 C.2.1 dX4_number_2 rfl (lv_at hl 1 rfl) ?_
  refine x_get (C := RX4) (T := TX4) (N := 37) (v := .int (F 4)) C inX4 hH 0 gM_0 rfl 1 (by decide) rfl rfl 1 rfl dX4_number_3 ?_
  refine x_toi h4 ?_
  refine lv_istore_n (lv' := [(2, .int (nI lv)), (1, .int (nI 0)), (0, .ref (a 0))]) C.1 C.2.1 dX4_number_6 rfl hl (by decide) rfl (fun ls hl => ?_)
  have lp : ∀ (n : Nat) (i : Nat) (x : Int32) (H : Heap) (locs : List Loc) (ls : Array Slot), i + n = nd → lv ≤ i → numF Z lv n i x = numF Z lv (nd - lv) lv (nI 0) → xH G A s.heap H locs (wM G a S T K Z L F) → lv_has ls 3 [(0, .ref (a 0)), (1, .int x), (2, .int (nI i))] → W p l e ({ frames := 0, cells := 0, slots := 0, locals := 0 }) s m args below meth c H locs 0 0 Q (F0 m 7 ls []) := by
    intro n
    induction n with
    | zero =>
      intro i x H locs ls hin hli hf hH hl
      refine lv_iload_n C.1 C.2.1 dX4_number_7 rfl (lv_at hl 2 rfl) ?_
      refine lv_aload_n C.1 C.2.1 dX4_number_8 rfl (lv_at hl 0 rfl) ?_
      refine x_get (C := RX4) (T := TX4) (N := 37) (v := .int (F 6)) C inX4 hH 0 gM_0 rfl 14 (by decide) rfl rfl 2 rfl dX4_number_9 ?_
      refine x_toi h6 ?_
      refine lv_icmp_ge (tgt := 45) C.1 C.2.1 dX4_number_12 (by decide) (fun _ => ?_) (fun c_1 => absurd ((nI_leI (a := nd) (b := i) (by omega) (by omega)).mpr (by omega)) c_1)
      refine lv_iload_n C.1 C.2.1 dX4_number_45 rfl (lv_at hl 1 rfl) ?_
      exact hE _ _ _ _ _ hH (hf) (rfl) dX4_number_46
    | succ n ih7 =>
      intro i x H locs ls hin hli hf hH hl
      refine lv_iload_n C.1 C.2.1 dX4_number_7 rfl (lv_at hl 2 rfl) ?_
      refine lv_aload_n C.1 C.2.1 dX4_number_8 rfl (lv_at hl 0 rfl) ?_
      refine x_get (C := RX4) (T := TX4) (N := 37) (v := .int (F 6)) C inX4 hH 0 gM_0 rfl 14 (by decide) rfl rfl 2 rfl dX4_number_9 ?_
      refine x_toi h6 ?_
      refine lv_icmp_ge (tgt := 45) C.1 C.2.1 dX4_number_12 (by decide) (fun c_2 => absurd ((nI_leI (a := nd) (b := i) (by omega) (by omega)).mp c_2) (by omega)) (fun _ => ?_)
      refine lv_aload_n C.1 C.2.1 dX4_number_15 rfl (lv_at hl 0 rfl) ?_
      refine x_get (C := RX4) (T := TX4) (N := 37) (v := .ref (a 16)) C inX4 hH 0 gM_0 rfl 26 (by decide) rfl rfl 3 rfl dX4_number_16 ?_
      refine lv_iload_n C.1 C.2.1 dX4_number_19 rfl (lv_at hl 2 rfl) ?_
      refine x_zald (f := Z 0) (j := i) (v := Z 0 i) C hH 16 gM_16 (by omega) (by decide) (rfl) dX4_number_20 ?_
      refine lv_if_eq (tgt := 37) C.1 C.2.1 dX4_number_21 (by decide) (fun c_3 => ?_) (fun c_3 => ?_)
      · refine lv_iload_n C.1 C.2.1 dX4_number_37 rfl (lv_at hl 1 rfl) ?_
        refine lv_istore_n (lv' := [(1, .int x), (0, .ref (a 0)), (2, .int (nI i))]) C.1 C.2.1 dX4_number_38 rfl hl (by decide) rfl (fun ls hl => ?_)
        refine lv_iinc (v := nI (i + 1)) (lv' := [(2, .int (nI (i + 1))), (1, .int x), (0, .ref (a 0))]) C.1 C.2.1 dX4_number_39 hl (k := 2) rfl (nI_add i 1) (by decide) rfl (fun ls hl => ?_)
        refine lv_goto (tgt := 7) C.1 C.2.1 dX4_number_42 (by decide) ?_
        exact ih7 (i + 1) x _ _ _ (by omega) (by omega) (by first | (rw [numF, if_pos c_3] at hf; exact hf) | (rw [numF, if_neg c_3] at hf; exact hf)) hH (lv_sub hl [2, 1, 0] rfl)
      · refine lv_iload_n C.1 C.2.1 dX4_number_24 rfl (lv_at hl 1 rfl) ?_
        refine lv_iconst (v := nI 1) C.1 C.2.1 dX4_number_25 (by decide) ?_
        refine lv_iload_n C.1 C.2.1 dX4_number_26 rfl (lv_at hl 2 rfl) ?_
        refine lv_aload_n C.1 C.2.1 dX4_number_27 rfl (lv_at hl 0 rfl) ?_
        refine x_get (C := RX4) (T := TX4) (N := 37) (v := .int (F 4)) C inX4 hH 0 gM_0 rfl 1 (by decide) rfl rfl 1 rfl dX4_number_28 ?_
        refine x_toi h4 ?_
        refine lv_isub C.1 C.2.1 dX4_number_31 ?_
        refine x_toi (pk_sub (a := i) (b := lv) (by omega)) ?_
        refine lv_ishl C.1 C.2.1 dX4_number_32 ?_
        refine lv_ior C.1 C.2.1 dX4_number_33 ?_
        refine lv_goto (tgt := 38) C.1 C.2.1 dX4_number_34 (by decide) ?_
        refine lv_istore_n (lv' := [(1, .int (x ||| ((nI 1) <<< ((nI (i - lv)) &&& 31)))), (0, .ref (a 0)), (2, .int (nI i))]) C.1 C.2.1 dX4_number_38 rfl hl (by decide) rfl (fun ls hl => ?_)
        refine lv_iinc (v := nI (i + 1)) (lv' := [(2, .int (nI (i + 1))), (1, .int (x ||| ((nI 1) <<< ((nI (i - lv)) &&& 31)))), (0, .ref (a 0))]) C.1 C.2.1 dX4_number_39 hl (k := 2) rfl (nI_add i 1) (by decide) rfl (fun ls hl => ?_)
        refine lv_goto (tgt := 7) C.1 C.2.1 dX4_number_42 (by decide) ?_
        exact ih7 (i + 1) (x ||| ((nI 1) <<< ((nI (i - lv)) &&& 31))) _ _ _ (by omega) (by omega) (by first | (rw [numF, if_pos c_3] at hf; exact hf) | (rw [numF, if_neg c_3] at hf; exact hf)) hH (lv_sub hl [2, 1, 0] rfl)
  exact lp (nd - lv) lv (nI 0) _ _ _ (by omega) (by omega) (rfl) hH (lv_sub hl [2, 1, 0] rfl)
set_option maxHeartbeats 400000 in
set_option maxRecDepth 100000 in
theorem c_X4_weigh (l : Launch) (G : xG) (a : Nat → Nat) (S T K Z : Nat → Nat → Int32) (L : Nat → Nat → Int64) (F : Nat → Int32) (v : Int32) (lv nd : Nat) (h4 : F 4 = nI lv) (h6 : F 6 = nI nd) (h1 : 1 ≤ lv) (hl9 : lv ≤ nd) (hl10 : lv ≤ 10) (hn : nd ≤ 19) (lc rc : Nat → Nat) (hPQ : ∀ i, lv ≤ i → i < nd → T 0 i = nI (lc i) ∧ T 1 i = nI (rc i) ∧ lc i < 19 ∧ rc i < 19) : xMv l yX4_weigh wsX4_weigh { frames := 0, cells := 0, slots := 0, locals := 0 } [.ref (a 0), .int v] G (wM G a S T K Z L F) (wM G a S T K Z (wmF S F T lc rc lv v nd 0 L) F) 0 0 := by
  refine x_ofv (cc := cX4_weigh) (maxL := 6) (by decide) rfl (Nat.le_of_ble_eq_true rfl) ?_
  intro p e s m args below meth c ls A Q C hml hA hH hl hE
  have hl : lv_has ls 6 [(0, .ref (a 0)), (1, .int v)] := hl
  have inX4 : ∀ w ∈ wsX40, w ∈ wsX4_weigh := fun _ h => (List.mem_cons_of_mem _ (List.mem_append_right _ h))
  refine lv_iconst (v := nI 0) C.1 C.2.1 dX4_weigh_0 (by decide) ?_
  refine lv_istore_n (lv' := [(2, .int (nI 0)), (0, .ref (a 0)), (1, .int v)]) C.1 C.2.1 dX4_weigh_1 rfl hl (by decide) rfl (fun ls hl => ?_)
  have lp : ∀ (n : Nat) (i : Nat) (L1 : Nat → Nat → Int64) (H : Heap) (locs : List Loc) (ls : Array Slot), i + n = nd → wmF S F T lc rc lv v n i L1 = wmF S F T lc rc lv v nd 0 L → xH G A s.heap H locs (wM G a S T K Z L1 F) → lv_has ls 6 [(0, .ref (a 0)), (1, .int v), (2, .int (nI i))] → W p l e ({ frames := 0, cells := 0, slots := 0, locals := 0 }) s m args below meth c H locs 0 0 Q (F0 m 2 ls []) := by
    intro n
    induction n with
    | zero =>
      intro i L1 H locs ls hin hf hH hl
      refine lv_iload_n C.1 C.2.1 dX4_weigh_2 rfl (lv_at hl 2 rfl) ?_
      refine lv_aload_n C.1 C.2.1 dX4_weigh_3 rfl (lv_at hl 0 rfl) ?_
      refine x_get (C := RX4) (T := TX4) (N := 37) (v := .int (F 6)) C inX4 hH 0 gM_0 rfl 14 (by decide) rfl rfl 1 rfl dX4_weigh_4 ?_
      refine x_toi h6 ?_
      refine lv_icmp_ge (tgt := 160) C.1 C.2.1 dX4_weigh_7 (by decide) (fun _ => ?_) (fun c_1 => absurd ((nI_leI (a := nd) (b := i) (by omega) (by omega)).mpr (by omega)) c_1)
      have hH := x_eqw (w' := wM G a S T K Z (wmF S F T lc rc lv v nd 0 L) F) (by rw [← hf]; rfl) hH
      exact hE _ _ _ _ hH dX4_weigh_160
    | succ n ih2 =>
      intro i L1 H locs ls hin hf hH hl
      refine lv_iload_n C.1 C.2.1 dX4_weigh_2 rfl (lv_at hl 2 rfl) ?_
      refine lv_aload_n C.1 C.2.1 dX4_weigh_3 rfl (lv_at hl 0 rfl) ?_
      refine x_get (C := RX4) (T := TX4) (N := 37) (v := .int (F 6)) C inX4 hH 0 gM_0 rfl 14 (by decide) rfl rfl 1 rfl dX4_weigh_4 ?_
      refine x_toi h6 ?_
      refine lv_icmp_ge (tgt := 160) C.1 C.2.1 dX4_weigh_7 (by decide) (fun c_2 => absurd ((nI_leI (a := nd) (b := i) (by omega) (by omega)).mp c_2) (by omega)) (fun _ => ?_)
      rcases Nat.lt_or_ge i lv with hk | hk
      · skip
        refine lv_aload_n C.1 C.2.1 dX4_weigh_10 rfl (lv_at hl 0 rfl) ?_
        refine x_get (C := RX4) (T := TX4) (N := 37) (v := .ref (a 5)) C inX4 hH 0 gM_0 rfl 15 (by decide) rfl rfl 2 rfl dX4_weigh_11 ?_
        refine lv_iload_n C.1 C.2.1 dX4_weigh_14 rfl (lv_at hl 2 rfl) ?_
        refine x_iald (f := T 0) (j := i) (v := T 0 i) C hH 5 gM_5 (by omega) (by decide) (rfl) dX4_weigh_15 ?_
        refine lv_istore_n (lv' := [(3, .int (T 0 i)), (0, .ref (a 0)), (1, .int v), (2, .int (nI i))]) C.1 C.2.1 dX4_weigh_16 rfl hl (by decide) rfl (fun ls hl => ?_)
        refine lv_aload_n C.1 C.2.1 dX4_weigh_17 rfl (lv_at hl 1 rfl) ?_
        refine x_get (C := RX4) (T := TX4) (N := 37) (v := .ref (a 6)) C inX4 hH 0 gM_0 rfl 16 (by decide) rfl rfl 3 rfl dX4_weigh_18 ?_
        refine lv_iload_n C.1 C.2.1 dX4_weigh_21 rfl (lv_at hl 3 rfl) ?_
        refine x_iald (f := T 1) (j := i) (v := T 1 i) C hH 6 gM_6 (by omega) (by decide) (rfl) dX4_weigh_22 ?_
        refine lv_istore (lv' := [(4, .int (T 1 i)), (3, .int (T 0 i)), (0, .ref (a 0)), (1, .int v), (2, .int (nI i))]) C.1 C.2.1 dX4_weigh_23 hl (by decide) rfl (fun ls hl => ?_)
        refine lv_aload_n C.1 C.2.1 dX4_weigh_25 rfl (lv_at hl 2 rfl) ?_
        refine x_get (C := RX4) (T := TX4) (N := 37) (v := .ref (a 24)) C inX4 hH 0 gM_0 rfl 35 (by decide) rfl rfl 4 rfl dX4_weigh_26 ?_
        refine lv_iload_n C.1 C.2.1 dX4_weigh_29 rfl (lv_at hl 4 rfl) ?_
        refine lv_iload_n C.1 C.2.1 dX4_weigh_30 rfl (lv_at hl 4 rfl) ?_
        refine lv_aload_n C.1 C.2.1 dX4_weigh_31 rfl (lv_at hl 2 rfl) ?_
        refine x_get (C := RX4) (T := TX4) (N := 37) (v := .int (F 4)) C inX4 hH 0 gM_0 rfl 1 (by decide) rfl rfl 5 rfl dX4_weigh_32 ?_
        refine x_toi h4 ?_
        refine lv_icmp_ge (tgt := 52) C.1 C.2.1 dX4_weigh_35 (by decide) (fun c_3 => absurd c_3 (fun z => absurd ((nI_leI (by omega) (by omega)).mp z) (by omega))) (fun _ => ?_)
        refine lv_ldc2 C.1 C.2.1 C.2.2.1 (C.2.2.2.1 _ (List.mem_of_getElem? (i := 6) rfl)) dX4_weigh_38 ?_
        refine lv_aload_n C.1 C.2.1 dX4_weigh_41 rfl (lv_at hl 2 rfl) ?_
        refine x_get (C := RX4) (T := TX4) (N := 37) (v := .ref (a 3)) C inX4 hH 0 gM_0 rfl 4 (by decide) rfl rfl 7 rfl dX4_weigh_42 ?_
        refine lv_iload_n C.1 C.2.1 dX4_weigh_45 rfl (lv_at hl 4 rfl) ?_
        refine x_iald (f := S 2) (j := i) (v := S 2 i) C hH 3 gM_3 (by omega) (by decide) (rfl) dX4_weigh_46 ?_
        refine lv_i2l C.1 C.2.1 dX4_weigh_47 rfl ?_
        refine lv_lmul C.1 C.2.1 dX4_weigh_48 ?_
        refine lv_goto (tgt := 95) C.1 C.2.1 dX4_weigh_49 (by decide) ?_
        refine x_last (f := L1 0) (j := i) (x := 1024 * ((S 2 i).toInt64)) (w' := wM G a S T K Z ((tS L1 0 (vp_updL (L1 0) i (1024 * ((S 2 i).toInt64))))) F) C hH 24 gM_24 (by omega) (by decide) sM_24 dX4_weigh_95 (fun H locs hH => ?_)
        refine lv_iload_n C.1 C.2.1 dX4_weigh_96 rfl (lv_at hl 4 rfl) ?_
        refine lv_aload_n C.1 C.2.1 dX4_weigh_97 rfl (lv_at hl 2 rfl) ?_
        refine x_get (C := RX4) (T := TX4) (N := 37) (v := .int (F 4)) C inX4 hH 0 gM_0 rfl 1 (by decide) rfl rfl 5 rfl dX4_weigh_98 ?_
        refine x_toi h4 ?_
        refine lv_icmp_lt (tgt := 122) C.1 C.2.1 dX4_weigh_101 (by decide) (fun _ => ?_) (fun c_4 => absurd ((nI_ltI (by omega) (by omega)).mpr (by omega)) c_4)
        refine lv_iconst (v := nI 0) C.1 C.2.1 dX4_weigh_122 (by decide) ?_
        refine lv_istore (lv' := [(5, .int (nI 0)), (4, .int (T 1 i)), (3, .int (T 0 i)), (0, .ref (a 0)), (1, .int v), (2, .int (nI i))]) C.1 C.2.1 dX4_weigh_123 hl (by decide) rfl (fun ls hl => ?_)
        refine lv_aload_n C.1 C.2.1 dX4_weigh_125 rfl (lv_at hl 3 rfl) ?_
        refine x_get (C := RX4) (T := TX4) (N := 37) (v := .ref (a 25)) C inX4 hH 0 gM_0 rfl 36 (by decide) rfl rfl 8 rfl dX4_weigh_126 ?_
        refine lv_iload_n C.1 C.2.1 dX4_weigh_129 rfl (lv_at hl 5 rfl) ?_
        refine lv_iload C.1 C.2.1 dX4_weigh_130 (lv_at hl 0 rfl) ?_
        refine lv_if_eq (tgt := 147) C.1 C.2.1 dX4_weigh_132 (by decide) (fun _ => ?_) (fun c_5 => absurd (by decide) c_5)
        refine lv_aload_n C.1 C.2.1 dX4_weigh_147 rfl (lv_at hl 3 rfl) ?_
        refine x_get (C := RX4) (T := TX4) (N := 37) (v := .ref (a 24)) C inX4 hH 0 gM_0 rfl 35 (by decide) rfl rfl 4 rfl dX4_weigh_148 ?_
        refine lv_iload_n C.1 C.2.1 dX4_weigh_151 rfl (lv_at hl 5 rfl) ?_
        refine x_lald (f := vp_updL (L1 0) i (1024 * ((S 2 i).toInt64))) (j := i) (v := 1024 * ((S 2 i).toInt64)) C hH 24 gM_24 (by omega) (by decide) (pk_uLs) dX4_weigh_152 ?_
        refine x_last (f := L1 1) (j := i) (x := 1024 * ((S 2 i).toInt64)) (w' := wM G a S T K Z ((tS ((tS L1 0 (vp_updL (L1 0) i (1024 * ((S 2 i).toInt64))))) 1 (vp_updL (L1 1) i (1024 * ((S 2 i).toInt64))))) F) C hH 25 gM_25 (by omega) (by decide) sM_25 dX4_weigh_153 (fun H locs hH => ?_)
        refine lv_iinc (v := nI (i + 1)) (lv' := [(2, .int (nI (i + 1))), (5, .int (nI 0)), (4, .int (T 1 i)), (3, .int (T 0 i)), (0, .ref (a 0)), (1, .int v)]) C.1 C.2.1 dX4_weigh_154 hl (k := 5) rfl (nI_add i 1) (by decide) rfl (fun ls hl => ?_)
        refine lv_goto (tgt := 2) C.1 C.2.1 dX4_weigh_157 (by decide) ?_
        have hH := x_eqw (w' := wM G a S T K Z (wmK S F T lc rc lv v L1 i) F) (by first | (rw [wmK, if_pos hk]; rfl) | (rw [wmK, if_neg (Nat.not_lt.mpr hk), if_pos (onM_t rfl)]; rfl) | (rw [wmK, if_neg (Nat.not_lt.mpr hk), if_neg (onM_f rfl)]; rfl)) hH
        exact ih2 (i + 1) (wmK S F T lc rc lv v L1 i) _ _ _ (by omega) (hf) hH (lv_sub hl [4, 5, 0] rfl)
      · have hb1 := (hPQ i hk (by omega)).2.2.1
        have hb2 := (hPQ i hk (by omega)).2.2.2
        refine lv_aload_n C.1 C.2.1 dX4_weigh_10 rfl (lv_at hl 0 rfl) ?_
        refine x_get (C := RX4) (T := TX4) (N := 37) (v := .ref (a 5)) C inX4 hH 0 gM_0 rfl 15 (by decide) rfl rfl 2 rfl dX4_weigh_11 ?_
        refine lv_iload_n C.1 C.2.1 dX4_weigh_14 rfl (lv_at hl 2 rfl) ?_
        refine x_iald (f := T 0) (j := i) (v := nI (lc i)) C hH 5 gM_5 (by omega) (by decide) ((hPQ i hk (by omega)).1) dX4_weigh_15 ?_
        refine lv_istore_n (lv' := [(3, .int (nI (lc i))), (0, .ref (a 0)), (1, .int v), (2, .int (nI i))]) C.1 C.2.1 dX4_weigh_16 rfl hl (by decide) rfl (fun ls hl => ?_)
        refine lv_aload_n C.1 C.2.1 dX4_weigh_17 rfl (lv_at hl 1 rfl) ?_
        refine x_get (C := RX4) (T := TX4) (N := 37) (v := .ref (a 6)) C inX4 hH 0 gM_0 rfl 16 (by decide) rfl rfl 3 rfl dX4_weigh_18 ?_
        refine lv_iload_n C.1 C.2.1 dX4_weigh_21 rfl (lv_at hl 3 rfl) ?_
        refine x_iald (f := T 1) (j := i) (v := nI (rc i)) C hH 6 gM_6 (by omega) (by decide) ((hPQ i hk (by omega)).2.1) dX4_weigh_22 ?_
        refine lv_istore (lv' := [(4, .int (nI (rc i))), (3, .int (nI (lc i))), (0, .ref (a 0)), (1, .int v), (2, .int (nI i))]) C.1 C.2.1 dX4_weigh_23 hl (by decide) rfl (fun ls hl => ?_)
        refine lv_aload_n C.1 C.2.1 dX4_weigh_25 rfl (lv_at hl 2 rfl) ?_
        refine x_get (C := RX4) (T := TX4) (N := 37) (v := .ref (a 24)) C inX4 hH 0 gM_0 rfl 35 (by decide) rfl rfl 4 rfl dX4_weigh_26 ?_
        refine lv_iload_n C.1 C.2.1 dX4_weigh_29 rfl (lv_at hl 4 rfl) ?_
        refine lv_iload_n C.1 C.2.1 dX4_weigh_30 rfl (lv_at hl 4 rfl) ?_
        refine lv_aload_n C.1 C.2.1 dX4_weigh_31 rfl (lv_at hl 2 rfl) ?_
        refine x_get (C := RX4) (T := TX4) (N := 37) (v := .int (F 4)) C inX4 hH 0 gM_0 rfl 1 (by decide) rfl rfl 5 rfl dX4_weigh_32 ?_
        refine x_toi h4 ?_
        refine lv_icmp_ge (tgt := 52) C.1 C.2.1 dX4_weigh_35 (by decide) (fun _ => ?_) (fun c_6 => absurd ((nI_leI (by omega) (by omega)).mpr (by omega)) c_6)
        refine lv_aload_n C.1 C.2.1 dX4_weigh_52 rfl (lv_at hl 2 rfl) ?_
        refine x_get (C := RX4) (T := TX4) (N := 37) (v := .ref (a 25)) C inX4 hH 0 gM_0 rfl 36 (by decide) rfl rfl 8 rfl dX4_weigh_53 ?_
        refine lv_iload_n C.1 C.2.1 dX4_weigh_56 rfl (lv_at hl 1 rfl) ?_
        refine x_lald (f := L1 1) (j := lc i) (v := L1 1 (lc i)) C hH 25 gM_25 (by omega) (by decide) (rfl) dX4_weigh_57 ?_
        refine lv_aload_n C.1 C.2.1 dX4_weigh_58 rfl (lv_at hl 2 rfl) ?_
        refine x_get (C := RX4) (T := TX4) (N := 37) (v := .int (F 8)) C inX4 hH 0 gM_0 rfl 9 (by decide) rfl rfl 9 rfl dX4_weigh_59 ?_
        refine lv_i2l C.1 C.2.1 dX4_weigh_62 rfl ?_
        refine lv_aload_n C.1 C.2.1 dX4_weigh_63 rfl (lv_at hl 2 rfl) ?_
        refine x_get (C := RX4) (T := TX4) (N := 37) (v := .ref (a 13)) C inX4 hH 0 gM_0 rfl 23 (by decide) rfl rfl 10 rfl dX4_weigh_64 ?_
        refine lv_iload_n C.1 C.2.1 dX4_weigh_67 rfl (lv_at hl 1 rfl) ?_
        refine x_iald (f := T 8) (j := lc i) (v := T 8 (lc i)) C hH 13 gM_13 (by omega) (by decide) (rfl) dX4_weigh_68 ?_
        refine lv_i2l C.1 C.2.1 dX4_weigh_69 rfl ?_
        refine lv_lmul C.1 C.2.1 dX4_weigh_70 ?_
        refine lv_ladd C.1 C.2.1 dX4_weigh_71 ?_
        refine lv_aload_n C.1 C.2.1 dX4_weigh_72 rfl (lv_at hl 2 rfl) ?_
        refine x_get (C := RX4) (T := TX4) (N := 37) (v := .ref (a 25)) C inX4 hH 0 gM_0 rfl 36 (by decide) rfl rfl 8 rfl dX4_weigh_73 ?_
        refine lv_iload C.1 C.2.1 dX4_weigh_76 (lv_at hl 0 rfl) ?_
        refine x_lald (f := L1 1) (j := rc i) (v := L1 1 (rc i)) C hH 25 gM_25 (by omega) (by decide) (rfl) dX4_weigh_78 ?_
        refine lv_ladd C.1 C.2.1 dX4_weigh_79 ?_
        refine lv_aload_n C.1 C.2.1 dX4_weigh_80 rfl (lv_at hl 2 rfl) ?_
        refine x_get (C := RX4) (T := TX4) (N := 37) (v := .int (F 8)) C inX4 hH 0 gM_0 rfl 9 (by decide) rfl rfl 9 rfl dX4_weigh_81 ?_
        refine lv_i2l C.1 C.2.1 dX4_weigh_84 rfl ?_
        refine lv_aload_n C.1 C.2.1 dX4_weigh_85 rfl (lv_at hl 2 rfl) ?_
        refine x_get (C := RX4) (T := TX4) (N := 37) (v := .ref (a 13)) C inX4 hH 0 gM_0 rfl 23 (by decide) rfl rfl 10 rfl dX4_weigh_86 ?_
        refine lv_iload C.1 C.2.1 dX4_weigh_89 (lv_at hl 0 rfl) ?_
        refine x_iald (f := T 8) (j := rc i) (v := T 8 (rc i)) C hH 13 gM_13 (by omega) (by decide) (rfl) dX4_weigh_91 ?_
        refine lv_i2l C.1 C.2.1 dX4_weigh_92 rfl ?_
        refine lv_lmul C.1 C.2.1 dX4_weigh_93 ?_
        refine lv_ladd C.1 C.2.1 dX4_weigh_94 ?_
        refine x_last (f := L1 0) (j := i) (x := (((L1 1 (lc i)) + (((F 8).toInt64) * ((T 8 (lc i)).toInt64))) + (L1 1 (rc i))) + (((F 8).toInt64) * ((T 8 (rc i)).toInt64))) (w' := wM G a S T K Z ((tS L1 0 (vp_updL (L1 0) i ((((L1 1 (lc i)) + (((F 8).toInt64) * ((T 8 (lc i)).toInt64))) + (L1 1 (rc i))) + (((F 8).toInt64) * ((T 8 (rc i)).toInt64)))))) F) C hH 24 gM_24 (by omega) (by decide) sM_24 dX4_weigh_95 (fun H locs hH => ?_)
        refine lv_iload_n C.1 C.2.1 dX4_weigh_96 rfl (lv_at hl 4 rfl) ?_
        refine lv_aload_n C.1 C.2.1 dX4_weigh_97 rfl (lv_at hl 2 rfl) ?_
        refine x_get (C := RX4) (T := TX4) (N := 37) (v := .int (F 4)) C inX4 hH 0 gM_0 rfl 1 (by decide) rfl rfl 5 rfl dX4_weigh_98 ?_
        refine x_toi h4 ?_
        refine lv_icmp_lt (tgt := 122) C.1 C.2.1 dX4_weigh_101 (by decide) (fun c_7 => absurd c_7 (fun z => absurd ((nI_ltI (by omega) (by omega)).mp z) (by omega))) (fun _ => ?_)
        refine lv_iload_n C.1 C.2.1 dX4_weigh_104 rfl (lv_at hl 3 rfl) ?_
        refine lv_iload_n C.1 C.2.1 dX4_weigh_105 rfl (lv_at hl 4 rfl) ?_
        refine lv_aload_n C.1 C.2.1 dX4_weigh_106 rfl (lv_at hl 2 rfl) ?_
        refine x_get (C := RX4) (T := TX4) (N := 37) (v := .int (F 4)) C inX4 hH 0 gM_0 rfl 1 (by decide) rfl rfl 5 rfl dX4_weigh_107 ?_
        refine x_toi h4 ?_
        refine lv_isub C.1 C.2.1 dX4_weigh_110 ?_
        refine x_toi (pk_sub (a := i) (b := lv) (by omega)) ?_
        refine lv_ishr C.1 C.2.1 dX4_weigh_111 ?_
        refine lv_iconst (v := nI 1) C.1 C.2.1 dX4_weigh_112 (by decide) ?_
        refine lv_iand C.1 C.2.1 dX4_weigh_113 ?_
        refine lv_iconst (v := nI 1) C.1 C.2.1 dX4_weigh_114 (by decide) ?_
        refine lv_icmp_ne (tgt := 122) C.1 C.2.1 dX4_weigh_115 (by decide) (fun c_8 => ?_) (fun c_8 => ?_)
        · refine lv_iconst (v := nI 0) C.1 C.2.1 dX4_weigh_122 (by decide) ?_
          refine lv_istore (lv' := [(5, .int (nI 0)), (4, .int (nI (rc i))), (3, .int (nI (lc i))), (0, .ref (a 0)), (1, .int v), (2, .int (nI i))]) C.1 C.2.1 dX4_weigh_123 hl (by decide) rfl (fun ls hl => ?_)
          refine lv_aload_n C.1 C.2.1 dX4_weigh_125 rfl (lv_at hl 3 rfl) ?_
          refine x_get (C := RX4) (T := TX4) (N := 37) (v := .ref (a 25)) C inX4 hH 0 gM_0 rfl 36 (by decide) rfl rfl 8 rfl dX4_weigh_126 ?_
          refine lv_iload_n C.1 C.2.1 dX4_weigh_129 rfl (lv_at hl 5 rfl) ?_
          refine lv_iload C.1 C.2.1 dX4_weigh_130 (lv_at hl 0 rfl) ?_
          refine lv_if_eq (tgt := 147) C.1 C.2.1 dX4_weigh_132 (by decide) (fun _ => ?_) (fun c_9 => absurd (by decide) c_9)
          refine lv_aload_n C.1 C.2.1 dX4_weigh_147 rfl (lv_at hl 3 rfl) ?_
          refine x_get (C := RX4) (T := TX4) (N := 37) (v := .ref (a 24)) C inX4 hH 0 gM_0 rfl 35 (by decide) rfl rfl 4 rfl dX4_weigh_148 ?_
          refine lv_iload_n C.1 C.2.1 dX4_weigh_151 rfl (lv_at hl 5 rfl) ?_
          refine x_lald (f := vp_updL (L1 0) i ((((L1 1 (lc i)) + (((F 8).toInt64) * ((T 8 (lc i)).toInt64))) + (L1 1 (rc i))) + (((F 8).toInt64) * ((T 8 (rc i)).toInt64)))) (j := i) (v := (((L1 1 (lc i)) + (((F 8).toInt64) * ((T 8 (lc i)).toInt64))) + (L1 1 (rc i))) + (((F 8).toInt64) * ((T 8 (rc i)).toInt64))) C hH 24 gM_24 (by omega) (by decide) (pk_uLs) dX4_weigh_152 ?_
          refine x_last (f := L1 1) (j := i) (x := (((L1 1 (lc i)) + (((F 8).toInt64) * ((T 8 (lc i)).toInt64))) + (L1 1 (rc i))) + (((F 8).toInt64) * ((T 8 (rc i)).toInt64))) (w' := wM G a S T K Z ((tS ((tS L1 0 (vp_updL (L1 0) i ((((L1 1 (lc i)) + (((F 8).toInt64) * ((T 8 (lc i)).toInt64))) + (L1 1 (rc i))) + (((F 8).toInt64) * ((T 8 (rc i)).toInt64)))))) 1 (vp_updL (L1 1) i ((((L1 1 (lc i)) + (((F 8).toInt64) * ((T 8 (lc i)).toInt64))) + (L1 1 (rc i))) + (((F 8).toInt64) * ((T 8 (rc i)).toInt64)))))) F) C hH 25 gM_25 (by omega) (by decide) sM_25 dX4_weigh_153 (fun H locs hH => ?_)
          refine lv_iinc (v := nI (i + 1)) (lv' := [(2, .int (nI (i + 1))), (5, .int (nI 0)), (4, .int (nI (rc i))), (3, .int (nI (lc i))), (0, .ref (a 0)), (1, .int v)]) C.1 C.2.1 dX4_weigh_154 hl (k := 5) rfl (nI_add i 1) (by decide) rfl (fun ls hl => ?_)
          refine lv_goto (tgt := 2) C.1 C.2.1 dX4_weigh_157 (by decide) ?_
          have hH := x_eqw (w' := wM G a S T K Z (wmK S F T lc rc lv v L1 i) F) (by first | (rw [wmK, if_pos hk]; rfl) | (rw [wmK, if_neg (Nat.not_lt.mpr hk), if_pos (onM_t c_8)]; rfl) | (rw [wmK, if_neg (Nat.not_lt.mpr hk), if_neg (onM_f c_8)]; rfl)) hH
          exact ih2 (i + 1) (wmK S F T lc rc lv v L1 i) _ _ _ (by omega) (hf) hH (lv_sub hl [4, 5, 0] rfl)
        · refine lv_iconst (v := nI 1) C.1 C.2.1 dX4_weigh_118 (by decide) ?_
          refine lv_goto (tgt := 123) C.1 C.2.1 dX4_weigh_119 (by decide) ?_
          refine lv_istore (lv' := [(5, .int (nI 1)), (4, .int (nI (rc i))), (3, .int (nI (lc i))), (0, .ref (a 0)), (1, .int v), (2, .int (nI i))]) C.1 C.2.1 dX4_weigh_123 hl (by decide) rfl (fun ls hl => ?_)
          refine lv_aload_n C.1 C.2.1 dX4_weigh_125 rfl (lv_at hl 3 rfl) ?_
          refine x_get (C := RX4) (T := TX4) (N := 37) (v := .ref (a 25)) C inX4 hH 0 gM_0 rfl 36 (by decide) rfl rfl 8 rfl dX4_weigh_126 ?_
          refine lv_iload_n C.1 C.2.1 dX4_weigh_129 rfl (lv_at hl 5 rfl) ?_
          refine lv_iload C.1 C.2.1 dX4_weigh_130 (lv_at hl 0 rfl) ?_
          refine lv_if_eq (tgt := 147) C.1 C.2.1 dX4_weigh_132 (by decide) (fun c_10 => absurd c_10 (by decide)) (fun _ => ?_)
          refine lv_ldc2 C.1 C.2.1 C.2.2.1 (C.2.2.2.1 _ (List.mem_of_getElem? (i := 6) rfl)) dX4_weigh_135 ?_
          refine lv_aload_n C.1 C.2.1 dX4_weigh_138 rfl (lv_at hl 3 rfl) ?_
          refine x_get (C := RX4) (T := TX4) (N := 37) (v := .int (F 9)) C inX4 hH 0 gM_0 rfl 10 (by decide) rfl rfl 11 rfl dX4_weigh_139 ?_
          refine lv_i2l C.1 C.2.1 dX4_weigh_142 rfl ?_
          refine lv_lmul C.1 C.2.1 dX4_weigh_143 ?_
          refine lv_goto (tgt := 153) C.1 C.2.1 dX4_weigh_144 (by decide) ?_
          refine x_last (f := L1 1) (j := i) (x := 1024 * ((F 9).toInt64)) (w' := wM G a S T K Z ((tS ((tS L1 0 (vp_updL (L1 0) i ((((L1 1 (lc i)) + (((F 8).toInt64) * ((T 8 (lc i)).toInt64))) + (L1 1 (rc i))) + (((F 8).toInt64) * ((T 8 (rc i)).toInt64)))))) 1 (vp_updL (L1 1) i (1024 * ((F 9).toInt64))))) F) C hH 25 gM_25 (by omega) (by decide) sM_25 dX4_weigh_153 (fun H locs hH => ?_)
          refine lv_iinc (v := nI (i + 1)) (lv' := [(2, .int (nI (i + 1))), (5, .int (nI 1)), (4, .int (nI (rc i))), (3, .int (nI (lc i))), (0, .ref (a 0)), (1, .int v)]) C.1 C.2.1 dX4_weigh_154 hl (k := 5) rfl (nI_add i 1) (by decide) rfl (fun ls hl => ?_)
          refine lv_goto (tgt := 2) C.1 C.2.1 dX4_weigh_157 (by decide) ?_
          have hH := x_eqw (w' := wM G a S T K Z (wmK S F T lc rc lv v L1 i) F) (by first | (rw [wmK, if_pos hk]; rfl) | (rw [wmK, if_neg (Nat.not_lt.mpr hk), if_pos (onM_t c_8)]; rfl) | (rw [wmK, if_neg (Nat.not_lt.mpr hk), if_neg (onM_f c_8)]; rfl)) hH
          exact ih2 (i + 1) (wmK S F T lc rc lv v L1 i) _ _ _ (by omega) (hf) hH (lv_sub hl [4, 5, 0] rfl)
  exact lp (nd) 0 L _ _ _ (by omega) (rfl) hH (lv_sub hl [1, 2, 0] rfl)
set_option maxHeartbeats 400000 in
set_option maxRecDepth 100000 in
theorem c_X4_delayOf (l : Launch) (G : xG) (a : Nat → Nat) (S T K Z : Nat → Nat → Int32) (L : Nat → Nat → Int64) (F : Nat → Int32) (k0 : Nat) (v : Int32) (lv nd : Nat) (h4 : F 4 = nI lv) (h6 : F 6 = nI nd) (h1 : 1 ≤ lv) (hl9 : lv ≤ nd) (hl10 : lv ≤ 10) (hn : nd ≤ 19) (po : Nat → Option Nat) (N : Nat) (hpo : ∀ k, k < 19 → T 2 k = oI (po k)) (hok : cnOk po N (some k0)) : xMl l yX4_delayOf wsX4_delayOf { frames := 0, cells := 0, slots := 0, locals := 0 } [.ref (a 0), .int (nI k0), .int v] G (wM G a S T K Z L F) (dmF F T L po lv v N (some k0) 0) (wM G a S T K Z L F) 0 0 := by
  refine x_ofl (cc := cX4_delayOf) (maxL := 9) (by decide) rfl (Nat.le_of_ble_eq_true rfl) ?_
  intro p e s m args below meth c ls A Q C hml hA hH hl hE
  have hl : lv_has ls 9 [(0, .ref (a 0)), (1, .int (nI k0)), (2, .int v)] := hl
  have inX4 : ∀ w ∈ wsX40, w ∈ wsX4_delayOf := fun _ h => (List.mem_cons_of_mem _ (List.mem_append_right _ h))
  refine lv_lconst (v := 0) C.1 C.2.1 dX4_delayOf_0 (by decide) ?_
  refine lv_lstore_n (lv' := [(3, .long 0), (0, .ref (a 0)), (1, .int (nI k0)), (2, .int v)]) C.1 C.2.1 dX4_delayOf_1 rfl hl (by decide) rfl (fun ls hl => ?_)
  refine lv_iload_n C.1 C.2.1 dX4_delayOf_2 rfl (lv_at hl 2 rfl) ?_
  refine lv_istore (lv' := [(5, .int (nI k0)), (3, .long 0), (0, .ref (a 0)), (1, .int (nI k0)), (2, .int v)]) C.1 C.2.1 dX4_delayOf_3 hl (by decide) rfl (fun ls hl => ?_)
  have lp : ∀ (n : Nat) (o : Option Nat) (x : Int64) (H : Heap) (locs : List Loc) (ls : Array Slot), cnOk po n o → dmF F T L po lv v n o x = dmF F T L po lv v N (some k0) 0 → xH G A s.heap H locs (wM G a S T K Z L F) → lv_has ls 9 [(0, .ref (a 0)), (1, .int (nI k0)), (2, .int v), (3, .long x), (5, .int (oI o))] → W p l e ({ frames := 0, cells := 0, slots := 0, locals := 0 }) s m args below meth c H locs 0 0 Q (F0 m 5 ls []) := by
    intro n
    induction n with
    | zero =>
      intro o x H locs ls hok hf hH hl
      have hok : o = none := hok
      subst hok
      have hf : x = _ := hf
      refine lv_iload C.1 C.2.1 dX4_delayOf_5 (lv_at hl 4 rfl) ?_
      refine lv_if_lt (tgt := 130) C.1 C.2.1 dX4_delayOf_7 (by decide) (fun _ => ?_) (fun c_1 => absurd (by decide) c_1)
      refine lv_lload_n C.1 C.2.1 dX4_delayOf_130 rfl (lv_at hl 3 rfl) ?_
      exact hE _ _ _ _ _ hH (hf) dX4_delayOf_131
    | succ n ih5 =>
      intro o x H locs ls hok hf hH hl
      rcases o with _ | k
      · have hf : x = _ := hf
        have hl : lv_has ls 9 [(0, .ref (a 0)), (1, .int (nI k0)), (2, .int v), (3, .long x), (5, .int ((-1)))] := hl
        refine lv_iload C.1 C.2.1 dX4_delayOf_5 (lv_at hl 4 rfl) ?_
        refine lv_if_lt (tgt := 130) C.1 C.2.1 dX4_delayOf_7 (by decide) (fun _ => ?_) (fun c_2 => absurd (by decide) c_2)
        refine lv_lload_n C.1 C.2.1 dX4_delayOf_130 rfl (lv_at hl 3 rfl) ?_
        exact hE _ _ _ _ _ hH (hf) dX4_delayOf_131
      · have hk : k < 19 := hok.1
        have hl : lv_has ls 9 [(0, .ref (a 0)), (1, .int (nI k0)), (2, .int v), (3, .long x), (5, .int (nI k))] := hl
        refine lv_iload C.1 C.2.1 dX4_delayOf_5 (lv_at hl 4 rfl) ?_
        refine lv_if_lt (tgt := 130) C.1 C.2.1 dX4_delayOf_7 (by decide) (fun c_3 => absurd c_3 (nI_pos (by omega))) (fun _ => ?_)
        refine lv_aload_n C.1 C.2.1 dX4_delayOf_10 rfl (lv_at hl 0 rfl) ?_
        refine x_get (C := RX4) (T := TX4) (N := 37) (v := .ref (a 13)) C inX4 hH 0 gM_0 rfl 23 (by decide) rfl rfl 1 rfl dX4_delayOf_11 ?_
        refine lv_iload C.1 C.2.1 dX4_delayOf_14 (lv_at hl 4 rfl) ?_
        refine x_iald (f := T 8) (j := k) (v := T 8 k) C hH 13 gM_13 (by omega) (by decide) (rfl) dX4_delayOf_16 ?_
        refine lv_i2l C.1 C.2.1 dX4_delayOf_17 rfl ?_
        refine lv_lstore (lv' := [(6, .long ((T 8 k).toInt64)), (0, .ref (a 0)), (1, .int (nI k0)), (2, .int v), (3, .long x), (5, .int (nI k))]) C.1 C.2.1 dX4_delayOf_18 hl (by decide) rfl (fun ls hl => ?_)
        refine lv_lload_n C.1 C.2.1 dX4_delayOf_20 rfl (lv_at hl 4 rfl) ?_
        refine lv_aload_n C.1 C.2.1 dX4_delayOf_21 rfl (lv_at hl 1 rfl) ?_
        refine x_get (C := RX4) (T := TX4) (N := 37) (v := .int (F 7)) C inX4 hH 0 gM_0 rfl 8 (by decide) rfl rfl 2 rfl dX4_delayOf_22 ?_
        refine lv_i2l C.1 C.2.1 dX4_delayOf_25 rfl ?_
        refine lv_lload C.1 C.2.1 dX4_delayOf_26 (lv_at hl 0 rfl) ?_
        refine lv_lmul C.1 C.2.1 dX4_delayOf_28 ?_
        refine lv_aload_n C.1 C.2.1 dX4_delayOf_29 rfl (lv_at hl 1 rfl) ?_
        refine x_get (C := RX4) (T := TX4) (N := 37) (v := .int (F 8)) C inX4 hH 0 gM_0 rfl 9 (by decide) rfl rfl 3 rfl dX4_delayOf_30 ?_
        refine lv_i2l C.1 C.2.1 dX4_delayOf_33 rfl ?_
        refine lv_lload C.1 C.2.1 dX4_delayOf_34 (lv_at hl 0 rfl) ?_
        refine lv_lmul C.1 C.2.1 dX4_delayOf_36 ?_
        refine lv_ldc2 C.1 C.2.1 C.2.2.1 (C.2.2.2.1 _ (List.mem_of_getElem? (i := 4) rfl)) dX4_delayOf_37 ?_
        refine lv_aload_n C.1 C.2.1 dX4_delayOf_40 rfl (lv_at hl 1 rfl) ?_
        refine x_get (C := RX4) (T := TX4) (N := 37) (v := .ref (a 25)) C inX4 hH 0 gM_0 rfl 36 (by decide) rfl rfl 5 rfl dX4_delayOf_41 ?_
        refine lv_iload C.1 C.2.1 dX4_delayOf_44 (lv_at hl 5 rfl) ?_
        refine x_lald (f := L 1) (j := k) (v := L 1 k) C hH 25 gM_25 (by omega) (by decide) (rfl) dX4_delayOf_46 ?_
        refine lv_lmul C.1 C.2.1 dX4_delayOf_47 ?_
        refine lv_ladd C.1 C.2.1 dX4_delayOf_48 ?_
        refine lv_lmul C.1 C.2.1 dX4_delayOf_49 ?_
        refine lv_ladd C.1 C.2.1 dX4_delayOf_50 ?_
        refine lv_lstore_n (lv' := [(3, .long (x + ((((F 7).toInt64) * ((T 8 k).toInt64)) * ((((F 8).toInt64) * ((T 8 k).toInt64)) + (2 * (L 1 k)))))), (6, .long ((T 8 k).toInt64)), (0, .ref (a 0)), (1, .int (nI k0)), (2, .int v), (5, .int (nI k))]) C.1 C.2.1 dX4_delayOf_51 rfl hl (by decide) rfl (fun ls hl => ?_)
        refine lv_iload C.1 C.2.1 dX4_delayOf_52 (lv_at hl 5 rfl) ?_
        refine lv_aload_n C.1 C.2.1 dX4_delayOf_54 rfl (lv_at hl 2 rfl) ?_
        refine x_get (C := RX4) (T := TX4) (N := 37) (v := .int (F 4)) C inX4 hH 0 gM_0 rfl 1 (by decide) rfl rfl 6 rfl dX4_delayOf_55 ?_
        refine x_toi h4 ?_
        refine lv_icmp_lt (tgt := 80) C.1 C.2.1 dX4_delayOf_58 (by decide) (fun c_4 => ?_) (fun c_4 => ?_)
        · rw [nI_ltI (a := k) (b := lv) (by omega) (by omega)] at c_4
          refine lv_iconst (v := nI 0) C.1 C.2.1 dX4_delayOf_80 (by decide) ?_
          refine lv_istore (lv' := [(8, .int (nI 0)), (3, .long (x + ((((F 7).toInt64) * ((T 8 k).toInt64)) * ((((F 8).toInt64) * ((T 8 k).toInt64)) + (2 * (L 1 k)))))), (6, .long ((T 8 k).toInt64)), (0, .ref (a 0)), (1, .int (nI k0)), (2, .int v), (5, .int (nI k))]) C.1 C.2.1 dX4_delayOf_81 hl (by decide) rfl (fun ls hl => ?_)
          refine lv_iload C.1 C.2.1 dX4_delayOf_83 (lv_at hl 0 rfl) ?_
          refine lv_if_eq (tgt := 116) C.1 C.2.1 dX4_delayOf_85 (by decide) (fun _ => ?_) (fun c_5 => absurd (by decide) c_5)
          refine lv_lload_n C.1 C.2.1 dX4_delayOf_116 rfl (lv_at hl 1 rfl) ?_
          refine lv_lstore_n (lv' := [(3, .long (x + ((((F 7).toInt64) * ((T 8 k).toInt64)) * ((((F 8).toInt64) * ((T 8 k).toInt64)) + (2 * (L 1 k)))))), (8, .int (nI 0)), (6, .long ((T 8 k).toInt64)), (0, .ref (a 0)), (1, .int (nI k0)), (2, .int v), (5, .int (nI k))]) C.1 C.2.1 dX4_delayOf_117 rfl hl (by decide) rfl (fun ls hl => ?_)
          refine lv_aload_n C.1 C.2.1 dX4_delayOf_118 rfl (lv_at hl 3 rfl) ?_
          refine x_get (C := RX4) (T := TX4) (N := 37) (v := .ref (a 7)) C inX4 hH 0 gM_0 rfl 17 (by decide) rfl rfl 10 rfl dX4_delayOf_119 ?_
          refine lv_iload C.1 C.2.1 dX4_delayOf_122 (lv_at hl 6 rfl) ?_
          refine x_iald (f := T 2) (j := k) (v := oI (po k)) C hH 7 gM_7 (by omega) (by decide) (hpo k (by omega)) dX4_delayOf_124 ?_
          refine lv_istore (lv' := [(5, .int (oI (po k))), (3, .long (x + ((((F 7).toInt64) * ((T 8 k).toInt64)) * ((((F 8).toInt64) * ((T 8 k).toInt64)) + (2 * (L 1 k)))))), (8, .int (nI 0)), (6, .long ((T 8 k).toInt64)), (0, .ref (a 0)), (1, .int (nI k0)), (2, .int v)]) C.1 C.2.1 dX4_delayOf_125 hl (by decide) rfl (fun ls hl => ?_)
          refine lv_goto (tgt := 5) C.1 C.2.1 dX4_delayOf_127 (by decide) ?_
          exact ih5 ((po k)) (x + ((((F 7).toInt64) * ((T 8 k).toInt64)) * ((((F 8).toInt64) * ((T 8 k).toInt64)) + (2 * (L 1 k))))) _ _ _ (hok.2) (by rw [dmF, dmK] at hf; first | (rw [if_pos ⟨by omega, onM_t c_4⟩] at hf; exact hf) | (rw [if_neg (fun z => onM_f c_4 z.2)] at hf; exact hf) | (rw [if_neg (fun z => absurd z.1 (by omega))] at hf; exact hf)) hH (lv_sub hl [4, 5, 6, 1, 0] rfl)
        · rw [nI_ltI (a := k) (b := lv) (by omega) (by omega)] at c_4
          refine lv_iload_n C.1 C.2.1 dX4_delayOf_61 rfl (lv_at hl 4 rfl) ?_
          refine lv_iload C.1 C.2.1 dX4_delayOf_62 (lv_at hl 5 rfl) ?_
          refine lv_aload_n C.1 C.2.1 dX4_delayOf_64 rfl (lv_at hl 2 rfl) ?_
          refine x_get (C := RX4) (T := TX4) (N := 37) (v := .int (F 4)) C inX4 hH 0 gM_0 rfl 1 (by decide) rfl rfl 6 rfl dX4_delayOf_65 ?_
          refine x_toi h4 ?_
          refine lv_isub C.1 C.2.1 dX4_delayOf_68 ?_
          refine x_toi (pk_sub (a := k) (b := lv) (by omega)) ?_
          refine lv_ishr C.1 C.2.1 dX4_delayOf_69 ?_
          refine lv_iconst (v := nI 1) C.1 C.2.1 dX4_delayOf_70 (by decide) ?_
          refine lv_iand C.1 C.2.1 dX4_delayOf_71 ?_
          refine lv_iconst (v := nI 1) C.1 C.2.1 dX4_delayOf_72 (by decide) ?_
          refine lv_icmp_ne (tgt := 80) C.1 C.2.1 dX4_delayOf_73 (by decide) (fun c_6 => ?_) (fun c_6 => ?_)
          · refine lv_iconst (v := nI 0) C.1 C.2.1 dX4_delayOf_80 (by decide) ?_
            refine lv_istore (lv' := [(8, .int (nI 0)), (3, .long (x + ((((F 7).toInt64) * ((T 8 k).toInt64)) * ((((F 8).toInt64) * ((T 8 k).toInt64)) + (2 * (L 1 k)))))), (6, .long ((T 8 k).toInt64)), (0, .ref (a 0)), (1, .int (nI k0)), (2, .int v), (5, .int (nI k))]) C.1 C.2.1 dX4_delayOf_81 hl (by decide) rfl (fun ls hl => ?_)
            refine lv_iload C.1 C.2.1 dX4_delayOf_83 (lv_at hl 0 rfl) ?_
            refine lv_if_eq (tgt := 116) C.1 C.2.1 dX4_delayOf_85 (by decide) (fun _ => ?_) (fun c_7 => absurd (by decide) c_7)
            refine lv_lload_n C.1 C.2.1 dX4_delayOf_116 rfl (lv_at hl 1 rfl) ?_
            refine lv_lstore_n (lv' := [(3, .long (x + ((((F 7).toInt64) * ((T 8 k).toInt64)) * ((((F 8).toInt64) * ((T 8 k).toInt64)) + (2 * (L 1 k)))))), (8, .int (nI 0)), (6, .long ((T 8 k).toInt64)), (0, .ref (a 0)), (1, .int (nI k0)), (2, .int v), (5, .int (nI k))]) C.1 C.2.1 dX4_delayOf_117 rfl hl (by decide) rfl (fun ls hl => ?_)
            refine lv_aload_n C.1 C.2.1 dX4_delayOf_118 rfl (lv_at hl 3 rfl) ?_
            refine x_get (C := RX4) (T := TX4) (N := 37) (v := .ref (a 7)) C inX4 hH 0 gM_0 rfl 17 (by decide) rfl rfl 10 rfl dX4_delayOf_119 ?_
            refine lv_iload C.1 C.2.1 dX4_delayOf_122 (lv_at hl 6 rfl) ?_
            refine x_iald (f := T 2) (j := k) (v := oI (po k)) C hH 7 gM_7 (by omega) (by decide) (hpo k (by omega)) dX4_delayOf_124 ?_
            refine lv_istore (lv' := [(5, .int (oI (po k))), (3, .long (x + ((((F 7).toInt64) * ((T 8 k).toInt64)) * ((((F 8).toInt64) * ((T 8 k).toInt64)) + (2 * (L 1 k)))))), (8, .int (nI 0)), (6, .long ((T 8 k).toInt64)), (0, .ref (a 0)), (1, .int (nI k0)), (2, .int v)]) C.1 C.2.1 dX4_delayOf_125 hl (by decide) rfl (fun ls hl => ?_)
            refine lv_goto (tgt := 5) C.1 C.2.1 dX4_delayOf_127 (by decide) ?_
            exact ih5 ((po k)) (x + ((((F 7).toInt64) * ((T 8 k).toInt64)) * ((((F 8).toInt64) * ((T 8 k).toInt64)) + (2 * (L 1 k))))) _ _ _ (hok.2) (by rw [dmF, dmK] at hf; first | (rw [if_pos ⟨by omega, onM_t c_6⟩] at hf; exact hf) | (rw [if_neg (fun z => onM_f c_6 z.2)] at hf; exact hf) | (rw [if_neg (fun z => absurd z.1 (by omega))] at hf; exact hf)) hH (lv_sub hl [4, 5, 6, 1, 0] rfl)
          · refine lv_iconst (v := nI 1) C.1 C.2.1 dX4_delayOf_76 (by decide) ?_
            refine lv_goto (tgt := 81) C.1 C.2.1 dX4_delayOf_77 (by decide) ?_
            refine lv_istore (lv' := [(8, .int (nI 1)), (3, .long (x + ((((F 7).toInt64) * ((T 8 k).toInt64)) * ((((F 8).toInt64) * ((T 8 k).toInt64)) + (2 * (L 1 k)))))), (6, .long ((T 8 k).toInt64)), (0, .ref (a 0)), (1, .int (nI k0)), (2, .int v), (5, .int (nI k))]) C.1 C.2.1 dX4_delayOf_81 hl (by decide) rfl (fun ls hl => ?_)
            refine lv_iload C.1 C.2.1 dX4_delayOf_83 (lv_at hl 0 rfl) ?_
            refine lv_if_eq (tgt := 116) C.1 C.2.1 dX4_delayOf_85 (by decide) (fun c_8 => absurd c_8 (by decide)) (fun _ => ?_)
            refine lv_lload_n C.1 C.2.1 dX4_delayOf_88 rfl (lv_at hl 1 rfl) ?_
            refine lv_aload_n C.1 C.2.1 dX4_delayOf_89 rfl (lv_at hl 3 rfl) ?_
            refine x_get (C := RX4) (T := TX4) (N := 37) (v := .int (F 11)) C inX4 hH 0 gM_0 rfl 12 (by decide) rfl rfl 7 rfl dX4_delayOf_90 ?_
            refine lv_i2l C.1 C.2.1 dX4_delayOf_93 rfl ?_
            refine lv_ladd C.1 C.2.1 dX4_delayOf_94 ?_
            refine lv_ldc2 C.1 C.2.1 C.2.2.1 (C.2.2.2.1 _ (List.mem_of_getElem? (i := 4) rfl)) dX4_delayOf_95 ?_
            refine lv_aload_n C.1 C.2.1 dX4_delayOf_98 rfl (lv_at hl 3 rfl) ?_
            refine x_get (C := RX4) (T := TX4) (N := 37) (v := .int (F 10)) C inX4 hH 0 gM_0 rfl 11 (by decide) rfl rfl 8 rfl dX4_delayOf_99 ?_
            refine lv_i2l C.1 C.2.1 dX4_delayOf_102 rfl ?_
            refine lv_lmul C.1 C.2.1 dX4_delayOf_103 ?_
            refine lv_aload_n C.1 C.2.1 dX4_delayOf_104 rfl (lv_at hl 3 rfl) ?_
            refine x_get (C := RX4) (T := TX4) (N := 37) (v := .ref (a 24)) C inX4 hH 0 gM_0 rfl 35 (by decide) rfl rfl 9 rfl dX4_delayOf_105 ?_
            refine lv_iload C.1 C.2.1 dX4_delayOf_108 (lv_at hl 6 rfl) ?_
            refine x_lald (f := L 0) (j := k) (v := L 0 k) C hH 24 gM_24 (by omega) (by decide) (rfl) dX4_delayOf_110 ?_
            refine lv_lmul C.1 C.2.1 dX4_delayOf_111 ?_
            refine lv_ladd C.1 C.2.1 dX4_delayOf_112 ?_
            refine lv_goto (tgt := 117) C.1 C.2.1 dX4_delayOf_113 (by decide) ?_
            refine lv_lstore_n (lv' := [(3, .long (((x + ((((F 7).toInt64) * ((T 8 k).toInt64)) * ((((F 8).toInt64) * ((T 8 k).toInt64)) + (2 * (L 1 k))))) + ((F 11).toInt64)) + ((2 * ((F 10).toInt64)) * (L 0 k)))), (8, .int (nI 1)), (6, .long ((T 8 k).toInt64)), (0, .ref (a 0)), (1, .int (nI k0)), (2, .int v), (5, .int (nI k))]) C.1 C.2.1 dX4_delayOf_117 rfl hl (by decide) rfl (fun ls hl => ?_)
            refine lv_aload_n C.1 C.2.1 dX4_delayOf_118 rfl (lv_at hl 3 rfl) ?_
            refine x_get (C := RX4) (T := TX4) (N := 37) (v := .ref (a 7)) C inX4 hH 0 gM_0 rfl 17 (by decide) rfl rfl 10 rfl dX4_delayOf_119 ?_
            refine lv_iload C.1 C.2.1 dX4_delayOf_122 (lv_at hl 6 rfl) ?_
            refine x_iald (f := T 2) (j := k) (v := oI (po k)) C hH 7 gM_7 (by omega) (by decide) (hpo k (by omega)) dX4_delayOf_124 ?_
            refine lv_istore (lv' := [(5, .int (oI (po k))), (3, .long (((x + ((((F 7).toInt64) * ((T 8 k).toInt64)) * ((((F 8).toInt64) * ((T 8 k).toInt64)) + (2 * (L 1 k))))) + ((F 11).toInt64)) + ((2 * ((F 10).toInt64)) * (L 0 k)))), (8, .int (nI 1)), (6, .long ((T 8 k).toInt64)), (0, .ref (a 0)), (1, .int (nI k0)), (2, .int v)]) C.1 C.2.1 dX4_delayOf_125 hl (by decide) rfl (fun ls hl => ?_)
            refine lv_goto (tgt := 5) C.1 C.2.1 dX4_delayOf_127 (by decide) ?_
            exact ih5 ((po k)) (((x + ((((F 7).toInt64) * ((T 8 k).toInt64)) * ((((F 8).toInt64) * ((T 8 k).toInt64)) + (2 * (L 1 k))))) + ((F 11).toInt64)) + ((2 * ((F 10).toInt64)) * (L 0 k))) _ _ _ (hok.2) (by rw [dmF, dmK] at hf; first | (rw [if_pos ⟨by omega, onM_t c_6⟩] at hf; exact hf) | (rw [if_neg (fun z => onM_f c_6 z.2)] at hf; exact hf) | (rw [if_neg (fun z => absurd z.1 (by omega))] at hf; exact hf)) hH (lv_sub hl [4, 5, 6, 1, 0] rfl)
  exact lp (N) (some k0) 0 _ _ _ (hok) (rfl) hH (lv_sub hl [2, 3, 4, 1, 0] rfl)
set_option maxHeartbeats 400000 in
set_option maxRecDepth 100000 in
theorem c_X4_slackOf (l : Launch) (G : xG) (a : Nat → Nat) (S T K Z : Nat → Nat → Int32) (L : Nat → Nat → Int64) (F : Nat → Int32) (v : Int32) (lv nd : Nat) (h4 : F 4 = nI lv) (h6 : F 6 = nI nd) (h1 : 1 ≤ lv) (hl9 : lv ≤ nd) (hl10 : lv ≤ 10) (hn : nd ≤ 19) (lc rc : Nat → Nat) (hPQ : ∀ i, lv ≤ i → i < nd → T 0 i = nI (lc i) ∧ T 1 i = nI (rc i) ∧ lc i < 19 ∧ rc i < 19) (po : Nat → Option Nat) (N : Nat) (hpo : ∀ k, k < 19 → T 2 k = oI (po k)) (hcn : ∀ k, k < lv → cnOk po N (some k)) : xMl l yX4_slackOf wsX4_slackOf { frames := 1, cells := 0, slots := 0, locals := 28 } [.ref (a 0), .int v] G (wM G a S T K Z L F) (soV S F T lc rc po lv nd N v L) (wM G a S T K Z (soL S F T lc rc lv nd v L) F) 0 0 := by
  refine x_ofl (cc := cX4_slackOf) (maxL := 7) (by decide) rfl (Nat.le_of_ble_eq_true rfl) ?_
  intro p e s m args below meth c ls A Q C hml hA hH hl hE
  have hl : lv_has ls 7 [(0, .ref (a 0)), (1, .int v)] := hl
  have inX4 : ∀ w ∈ wsX40, w ∈ wsX4_slackOf := fun _ h => (List.mem_cons_of_mem _ (List.mem_append_right _ h))
  refine lv_aload_n C.1 C.2.1 dX4_slackOf_0 rfl (lv_at hl 0 rfl) ?_
  refine lv_iload_n C.1 C.2.1 dX4_slackOf_1 rfl (lv_at hl 1 rfl) ?_
  refine x_cv (w' := wM G a S T K Z (wmF S F T lc rc lv v nd 0 L) F) (va_runV (As := [.int v]) (rest := []) (x_fix C hml) (c_X4_weigh l G a S T K Z L F v lv nd h4 h6 h1 hl9 hl10 hn lc rc hPQ _) (cwV 1 C.2.2.2.1 gX4_slackOf_X4_weigh rfl rfl rfl (by decide +kernel) ⟨Nat.le_of_ble_eq_true rfl, Nat.le_of_ble_eq_true rfl⟩) (x_pv C hH rfl gM_0 rfl rfl) rfl rfl hl.1 rfl (lv_room (Nat.le_of_ble_eq_true rfl)) dX4_slackOf_2 ⟨Nat.le_of_ble_eq_true rfl, Nat.le_of_ble_eq_true rfl⟩) hH hA (fun H locs hH => ?_)
  refine lv_lconst (v := 0) C.1 C.2.1 dX4_slackOf_5 (by decide) ?_
  refine lv_lstore_n (lv' := [(2, .long 0), (0, .ref (a 0)), (1, .int v)]) C.1 C.2.1 dX4_slackOf_6 rfl hl (by decide) rfl (fun ls hl => ?_)
  refine lv_iconst (v := nI 0) C.1 C.2.1 dX4_slackOf_7 (by decide) ?_
  refine lv_istore (lv' := [(4, .int (nI 0)), (2, .long 0), (0, .ref (a 0)), (1, .int v)]) C.1 C.2.1 dX4_slackOf_8 hl (by decide) rfl (fun ls hl => ?_)
  have lp : ∀ (n : Nat) (i : Nat) (x : Int64) (H : Heap) (locs : List Loc) (ls : Array Slot), i + n = lv → sfM S F T (soL S F T lc rc lv nd v L) po lv N v n i x = soV S F T lc rc po lv nd N v L → xH G A s.heap H locs (wM G a S T K Z (wmF S F T lc rc lv v nd 0 L) F) → lv_has ls 7 [(0, .ref (a 0)), (1, .int v), (2, .long x), (4, .int (nI i))] → W p l e ({ frames := 1, cells := 0, slots := 0, locals := 28 }) s m args below meth c H locs 0 0 Q (F0 m 10 ls []) := by
    intro n
    induction n with
    | zero =>
      intro i x H locs ls hin hf hH hl
      refine lv_iload C.1 C.2.1 dX4_slackOf_10 (lv_at hl 3 rfl) ?_
      refine lv_aload_n C.1 C.2.1 dX4_slackOf_12 rfl (lv_at hl 0 rfl) ?_
      refine x_get (C := RX4) (T := TX4) (N := 37) (v := .int (F 4)) C inX4 hH 0 gM_0 rfl 1 (by decide) rfl rfl 1 rfl dX4_slackOf_13 ?_
      refine x_toi h4 ?_
      refine lv_icmp_ge (tgt := 66) C.1 C.2.1 dX4_slackOf_16 (by decide) (fun _ => ?_) (fun c_1 => absurd ((nI_leI (a := lv) (b := i) (by omega) (by omega)).mpr (by omega)) c_1)
      refine lv_lload_n C.1 C.2.1 dX4_slackOf_66 rfl (lv_at hl 2 rfl) ?_
      have hH := x_eqw (w' := wM G a S T K Z (soL S F T lc rc lv nd v L) F) (rfl) hH
      exact hE _ _ _ _ _ hH (hf) dX4_slackOf_67
    | succ n ih10 =>
      intro i x H locs ls hin hf hH hl
      refine lv_iload C.1 C.2.1 dX4_slackOf_10 (lv_at hl 3 rfl) ?_
      refine lv_aload_n C.1 C.2.1 dX4_slackOf_12 rfl (lv_at hl 0 rfl) ?_
      refine x_get (C := RX4) (T := TX4) (N := 37) (v := .int (F 4)) C inX4 hH 0 gM_0 rfl 1 (by decide) rfl rfl 1 rfl dX4_slackOf_13 ?_
      refine x_toi h4 ?_
      refine lv_icmp_ge (tgt := 66) C.1 C.2.1 dX4_slackOf_16 (by decide) (fun c_2 => absurd ((nI_leI (a := lv) (b := i) (by omega) (by omega)).mp c_2) (by omega)) (fun _ => ?_)
      refine lv_ldc2 C.1 C.2.1 C.2.2.1 (C.2.2.2.1 _ (List.mem_of_getElem? (i := 2) rfl)) dX4_slackOf_19 ?_
      refine lv_aload_n C.1 C.2.1 dX4_slackOf_22 rfl (lv_at hl 0 rfl) ?_
      refine x_get (C := RX4) (T := TX4) (N := 37) (v := .ref (a 4)) C inX4 hH 0 gM_0 rfl 5 (by decide) rfl rfl 3 rfl dX4_slackOf_23 ?_
      refine lv_iload C.1 C.2.1 dX4_slackOf_26 (lv_at hl 3 rfl) ?_
      refine x_iald (f := S 3) (j := i) (v := S 3 i) C hH 4 gM_4 (by omega) (by decide) (rfl) dX4_slackOf_28 ?_
      refine lv_i2l C.1 C.2.1 dX4_slackOf_29 rfl ?_
      refine lv_lmul C.1 C.2.1 dX4_slackOf_30 ?_
      refine lv_aload_n C.1 C.2.1 dX4_slackOf_31 rfl (lv_at hl 0 rfl) ?_
      refine lv_iload C.1 C.2.1 dX4_slackOf_32 (lv_at hl 3 rfl) ?_
      refine lv_iload_n C.1 C.2.1 dX4_slackOf_34 rfl (lv_at hl 1 rfl) ?_
      refine x_cl (w' := wM G a S T K Z (wmF S F T lc rc lv v nd 0 L) F) (va_runV (As := [.int (nI i), .int v]) (rest := [.long (1048576 * ((S 3 i).toInt64))]) (x_fix C hml) (c_X4_delayOf l G a S T K Z (wmF S F T lc rc lv v nd 0 L) F i v lv nd h4 h6 h1 hl9 hl10 hn po N hpo (hcn i (by omega)) _) (cwV 2 C.2.2.2.1 gX4_slackOf_X4_delayOf rfl rfl rfl (by decide +kernel) ⟨Nat.le_of_ble_eq_true rfl, Nat.le_of_ble_eq_true rfl⟩) (x_pv C hH rfl gM_0 rfl rfl) rfl rfl hl.1 rfl (lv_room (Nat.le_of_ble_eq_true rfl)) dX4_slackOf_35 ⟨Nat.le_of_ble_eq_true rfl, Nat.le_of_ble_eq_true rfl⟩) hH hA (fun H locs hH => ?_)
      refine lv_lsub C.1 C.2.1 dX4_slackOf_38 ?_
      refine lv_lstore (lv' := [(5, .long ((1048576 * ((S 3 i).toInt64)) - (dmF F T (wmF S F T lc rc lv v nd 0 L) po lv v N (some i) 0))), (0, .ref (a 0)), (1, .int v), (2, .long x), (4, .int (nI i))]) C.1 C.2.1 dX4_slackOf_39 hl (by decide) rfl (fun ls hl => ?_)
      refine lv_iload C.1 C.2.1 dX4_slackOf_41 (lv_at hl 4 rfl) ?_
      refine lv_if_eq (tgt := 53) C.1 C.2.1 dX4_slackOf_43 (by decide) (fun c_3 => ?_) (fun c_3 => ?_)
      · rw [xn_eq0 (n := i) (by omega)] at c_3
        refine lv_lload C.1 C.2.1 dX4_slackOf_53 (lv_at hl 0 rfl) ?_
        refine lv_goto (tgt := 59) C.1 C.2.1 dX4_slackOf_55 (by decide) ?_
        refine lv_lstore_n (lv' := [(2, .long ((1048576 * ((S 3 i).toInt64)) - (dmF F T (wmF S F T lc rc lv v nd 0 L) po lv v N (some i) 0))), (5, .long ((1048576 * ((S 3 i).toInt64)) - (dmF F T (wmF S F T lc rc lv v nd 0 L) po lv v N (some i) 0))), (0, .ref (a 0)), (1, .int v), (4, .int (nI i))]) C.1 C.2.1 dX4_slackOf_59 rfl hl (by decide) rfl (fun ls hl => ?_)
        refine lv_iinc (v := nI (i + 1)) (lv' := [(4, .int (nI (i + 1))), (2, .long ((1048576 * ((S 3 i).toInt64)) - (dmF F T (wmF S F T lc rc lv v nd 0 L) po lv v N (some i) 0))), (5, .long ((1048576 * ((S 3 i).toInt64)) - (dmF F T (wmF S F T lc rc lv v nd 0 L) po lv v N (some i) 0))), (0, .ref (a 0)), (1, .int v)]) C.1 C.2.1 dX4_slackOf_60 hl (k := 4) rfl (nI_add i 1) (by decide) rfl (fun ls hl => ?_)
        refine lv_goto (tgt := 10) C.1 C.2.1 dX4_slackOf_63 (by decide) ?_
        exact ih10 (i + 1) ((1048576 * ((S 3 i).toInt64)) - (dmF F T (wmF S F T lc rc lv v nd 0 L) po lv v N (some i) 0)) _ _ _ (by omega) (by rw [sfM] at hf; first | (rw [if_pos (show i = 0 ∨ dsM S F T (soL S F T lc rc lv nd v L) po lv N v i < x from Or.inl c_3)] at hf; exact hf) | (rw [if_pos (show i = 0 ∨ dsM S F T (soL S F T lc rc lv nd v L) po lv N v i < x from Or.inr c_3)] at hf; exact hf) | (rw [if_neg (show ¬ (i = 0 ∨ dsM S F T (soL S F T lc rc lv nd v L) po lv N v i < x) from fun z => z.elim c_3 c_3)] at hf; exact hf)) hH (lv_sub hl [3, 4, 1, 0] rfl)
      · rw [xn_eq0 (n := i) (by omega)] at c_3
        refine lv_lload C.1 C.2.1 dX4_slackOf_46 (lv_at hl 0 rfl) ?_
        refine lv_lload_n C.1 C.2.1 dX4_slackOf_48 rfl (lv_at hl 3 rfl) ?_
        refine x_lcmp_ge (tgt := 58) C.1 C.2.1 dX4_slackOf_49 dX4_slackOf_50 (by decide) (fun c_4 => ?_) (fun c_4 => ?_)
        · refine lv_lload_n C.1 C.2.1 dX4_slackOf_58 rfl (lv_at hl 3 rfl) ?_
          refine lv_lstore_n (lv' := [(2, .long x), (5, .long ((1048576 * ((S 3 i).toInt64)) - (dmF F T (wmF S F T lc rc lv v nd 0 L) po lv v N (some i) 0))), (0, .ref (a 0)), (1, .int v), (4, .int (nI i))]) C.1 C.2.1 dX4_slackOf_59 rfl hl (by decide) rfl (fun ls hl => ?_)
          refine lv_iinc (v := nI (i + 1)) (lv' := [(4, .int (nI (i + 1))), (2, .long x), (5, .long ((1048576 * ((S 3 i).toInt64)) - (dmF F T (wmF S F T lc rc lv v nd 0 L) po lv v N (some i) 0))), (0, .ref (a 0)), (1, .int v)]) C.1 C.2.1 dX4_slackOf_60 hl (k := 4) rfl (nI_add i 1) (by decide) rfl (fun ls hl => ?_)
          refine lv_goto (tgt := 10) C.1 C.2.1 dX4_slackOf_63 (by decide) ?_
          exact ih10 (i + 1) x _ _ _ (by omega) (by rw [sfM] at hf; first | (rw [if_pos (show i = 0 ∨ dsM S F T (soL S F T lc rc lv nd v L) po lv N v i < x from Or.inl c_3)] at hf; exact hf) | (rw [if_pos (show i = 0 ∨ dsM S F T (soL S F T lc rc lv nd v L) po lv N v i < x from Or.inr c_4)] at hf; exact hf) | (rw [if_neg (show ¬ (i = 0 ∨ dsM S F T (soL S F T lc rc lv nd v L) po lv N v i < x) from fun z => z.elim c_3 c_4)] at hf; exact hf)) hH (lv_sub hl [3, 4, 1, 0] rfl)
        · refine lv_lload C.1 C.2.1 dX4_slackOf_53 (lv_at hl 0 rfl) ?_
          refine lv_goto (tgt := 59) C.1 C.2.1 dX4_slackOf_55 (by decide) ?_
          refine lv_lstore_n (lv' := [(2, .long ((1048576 * ((S 3 i).toInt64)) - (dmF F T (wmF S F T lc rc lv v nd 0 L) po lv v N (some i) 0))), (5, .long ((1048576 * ((S 3 i).toInt64)) - (dmF F T (wmF S F T lc rc lv v nd 0 L) po lv v N (some i) 0))), (0, .ref (a 0)), (1, .int v), (4, .int (nI i))]) C.1 C.2.1 dX4_slackOf_59 rfl hl (by decide) rfl (fun ls hl => ?_)
          refine lv_iinc (v := nI (i + 1)) (lv' := [(4, .int (nI (i + 1))), (2, .long ((1048576 * ((S 3 i).toInt64)) - (dmF F T (wmF S F T lc rc lv v nd 0 L) po lv v N (some i) 0))), (5, .long ((1048576 * ((S 3 i).toInt64)) - (dmF F T (wmF S F T lc rc lv v nd 0 L) po lv v N (some i) 0))), (0, .ref (a 0)), (1, .int v)]) C.1 C.2.1 dX4_slackOf_60 hl (k := 4) rfl (nI_add i 1) (by decide) rfl (fun ls hl => ?_)
          refine lv_goto (tgt := 10) C.1 C.2.1 dX4_slackOf_63 (by decide) ?_
          exact ih10 (i + 1) ((1048576 * ((S 3 i).toInt64)) - (dmF F T (wmF S F T lc rc lv v nd 0 L) po lv v N (some i) 0)) _ _ _ (by omega) (by rw [sfM] at hf; first | (rw [if_pos (show i = 0 ∨ dsM S F T (soL S F T lc rc lv nd v L) po lv N v i < x from Or.inl c_3)] at hf; exact hf) | (rw [if_pos (show i = 0 ∨ dsM S F T (soL S F T lc rc lv nd v L) po lv N v i < x from Or.inr c_4)] at hf; exact hf) | (rw [if_neg (show ¬ (i = 0 ∨ dsM S F T (soL S F T lc rc lv nd v L) po lv N v i < x) from fun z => z.elim c_3 c_4)] at hf; exact hf)) hH (lv_sub hl [3, 4, 1, 0] rfl)
  exact lp (lv) 0 0 _ _ _ (by omega) (rfl) hH (lv_sub hl [2, 3, 1, 0] rfl)
set_option maxHeartbeats 400000 in
set_option maxRecDepth 100000 in
theorem c_X4_bestSetting (l : Launch) (G : xG) (a : Nat → Nat) (S T K Z : Nat → Nat → Int32) (L : Nat → Nat → Int64) (F : Nat → Int32) (lv nd : Nat) (h4 : F 4 = nI lv) (h6 : F 6 = nI nd) (h1 : 1 ≤ lv) (hl9 : lv ≤ nd) (hl10 : lv ≤ 10) (hn : nd ≤ 19) (lc rc : Nat → Nat) (hPQ : ∀ i, lv ≤ i → i < nd → T 0 i = nI (lc i) ∧ T 1 i = nI (rc i) ∧ lc i < 19 ∧ rc i < 19) (po : Nat → Option Nat) (N : Nat) (hpo : ∀ k, k < 19 → T 2 k = oI (po k)) (hcn : ∀ k, k < lv → cnOk po N (some k)) (Mx : Nat) (B : Nat × Int64 × (Nat → Nat → Int64)) (hM : bitI (lv - 1) = nI Mx) (hM1 : 1 ≤ Mx) (hM2 : Mx ≤ 512) (hB : bsF S F T lc rc po lv nd N (Mx - 1) 1 (0, soV S F T lc rc po lv nd N (nI 0) L, soL S F T lc rc lv nd (nI 0) L) = B) : xMi l yX4_bestSetting wsX4_bestSetting { frames := 2, cells := 0, slots := 0, locals := 54 } [.ref (a 0)] G (wM G a S T K Z L F) (nI B.1) (wM G a S T K Z B.2.2 F) 0 0 := by
  refine x_ofi (cc := cX4_bestSetting) (maxL := 7) (ty := .int) (by decide) rfl (Nat.le_of_ble_eq_true rfl) ?_
  intro p e s m args below meth c ls A Q C hml hA hH hl hE
  have hl : lv_has ls 7 [(0, .ref (a 0))] := hl
  have inX4 : ∀ w ∈ wsX40, w ∈ wsX4_bestSetting := fun _ h => (List.mem_cons_of_mem _ (List.mem_append_right _ h))
  refine lv_iconst (v := nI 0) C.1 C.2.1 dX4_bestSetting_0 (by decide) ?_
  refine lv_istore_n (lv' := [(1, .int (nI 0)), (0, .ref (a 0))]) C.1 C.2.1 dX4_bestSetting_1 rfl hl (by decide) rfl (fun ls hl => ?_)
  refine lv_aload_n C.1 C.2.1 dX4_bestSetting_2 rfl (lv_at hl 1 rfl) ?_
  refine lv_iconst (v := nI 0) C.1 C.2.1 dX4_bestSetting_3 (by decide) ?_
  refine x_cl (w' := wM G a S T K Z (soL S F T lc rc lv nd (nI 0) L) F) (va_runV (As := [.int (nI 0)]) (rest := []) (x_fix C hml) (c_X4_slackOf l G a S T K Z L F (nI 0) lv nd h4 h6 h1 hl9 hl10 hn lc rc hPQ po N hpo hcn _) (cwV 1 C.2.2.2.1 gX4_bestSetting_X4_slackOf rfl rfl rfl (by decide +kernel) ⟨Nat.le_of_ble_eq_true rfl, Nat.le_of_ble_eq_true rfl⟩) (x_pv C hH rfl gM_0 rfl rfl) rfl rfl hl.1 rfl (lv_room (Nat.le_of_ble_eq_true rfl)) dX4_bestSetting_4 ⟨Nat.le_of_ble_eq_true rfl, Nat.le_of_ble_eq_true rfl⟩) hH hA (fun H locs hH => ?_)
  refine lv_lstore_n (lv' := [(2, .long (soV S F T lc rc po lv nd N (nI 0) L)), (1, .int (nI 0)), (0, .ref (a 0))]) C.1 C.2.1 dX4_bestSetting_7 rfl hl (by decide) rfl (fun ls hl => ?_)
  refine lv_iconst (v := nI 1) C.1 C.2.1 dX4_bestSetting_8 (by decide) ?_
  refine lv_istore (lv' := [(4, .int (nI 1)), (2, .long (soV S F T lc rc po lv nd N (nI 0) L)), (1, .int (nI 0)), (0, .ref (a 0))]) C.1 C.2.1 dX4_bestSetting_9 hl (by decide) rfl (fun ls hl => ?_)
  have lp : ∀ (n : Nat) (i : Nat) (b : Nat) (x : Int64) (L1 : Nat → Nat → Int64) (H : Heap) (locs : List Loc) (ls : Array Slot), i + n = Mx → bsF S F T lc rc po lv nd N n i (b, x, L1) = B → xH G A s.heap H locs (wM G a S T K Z L1 F) → lv_has ls 7 [(0, .ref (a 0)), (1, .int (nI b)), (2, .long x), (4, .int (nI i))] → W p l e ({ frames := 2, cells := 0, slots := 0, locals := 54 }) s m args below meth c H locs 0 0 Q (F0 m 11 ls []) := by
    intro n
    induction n with
    | zero =>
      intro i b x L1 H locs ls hin hf hH hl
      refine lv_iload C.1 C.2.1 dX4_bestSetting_11 (lv_at hl 3 rfl) ?_
      refine lv_iconst (v := nI 1) C.1 C.2.1 dX4_bestSetting_13 (by decide) ?_
      refine lv_aload_n C.1 C.2.1 dX4_bestSetting_14 rfl (lv_at hl 0 rfl) ?_
      refine x_get (C := RX4) (T := TX4) (N := 37) (v := .int (F 4)) C inX4 hH 0 gM_0 rfl 1 (by decide) rfl rfl 1 rfl dX4_bestSetting_15 ?_
      refine x_toi h4 ?_
      refine lv_iconst (v := nI 1) C.1 C.2.1 dX4_bestSetting_18 (by decide) ?_
      refine lv_isub C.1 C.2.1 dX4_bestSetting_19 ?_
      refine x_toi (pk_sub (a := lv) (b := 1) (by omega)) ?_
      refine lv_ishl C.1 C.2.1 dX4_bestSetting_20 ?_
      refine x_toi (hM) ?_
      refine lv_icmp_ge (tgt := 51) C.1 C.2.1 dX4_bestSetting_21 (by decide) (fun _ => ?_) (fun c_1 => absurd ((nI_leI (a := Mx) (b := i) (by omega) (by omega)).mpr (by omega)) c_1)
      refine lv_iload_n C.1 C.2.1 dX4_bestSetting_51 rfl (lv_at hl 1 rfl) ?_
      have hH := x_eqw (w' := wM G a S T K Z B.2.2 F) (by rw [← hf]; rfl) hH
      exact hE _ _ _ _ _ hH (by rw [← hf]; rfl) (rfl) dX4_bestSetting_52
    | succ n ih11 =>
      intro i b x L1 H locs ls hin hf hH hl
      refine lv_iload C.1 C.2.1 dX4_bestSetting_11 (lv_at hl 3 rfl) ?_
      refine lv_iconst (v := nI 1) C.1 C.2.1 dX4_bestSetting_13 (by decide) ?_
      refine lv_aload_n C.1 C.2.1 dX4_bestSetting_14 rfl (lv_at hl 0 rfl) ?_
      refine x_get (C := RX4) (T := TX4) (N := 37) (v := .int (F 4)) C inX4 hH 0 gM_0 rfl 1 (by decide) rfl rfl 1 rfl dX4_bestSetting_15 ?_
      refine x_toi h4 ?_
      refine lv_iconst (v := nI 1) C.1 C.2.1 dX4_bestSetting_18 (by decide) ?_
      refine lv_isub C.1 C.2.1 dX4_bestSetting_19 ?_
      refine x_toi (pk_sub (a := lv) (b := 1) (by omega)) ?_
      refine lv_ishl C.1 C.2.1 dX4_bestSetting_20 ?_
      refine x_toi (hM) ?_
      refine lv_icmp_ge (tgt := 51) C.1 C.2.1 dX4_bestSetting_21 (by decide) (fun c_2 => absurd ((nI_leI (a := Mx) (b := i) (by omega) (by omega)).mp c_2) (by omega)) (fun _ => ?_)
      refine lv_aload_n C.1 C.2.1 dX4_bestSetting_24 rfl (lv_at hl 0 rfl) ?_
      refine lv_iload C.1 C.2.1 dX4_bestSetting_25 (lv_at hl 3 rfl) ?_
      refine x_cl (w' := wM G a S T K Z (soL S F T lc rc lv nd (nI i) L1) F) (va_runV (As := [.int (nI i)]) (rest := []) (x_fix C hml) (c_X4_slackOf l G a S T K Z L1 F (nI i) lv nd h4 h6 h1 hl9 hl10 hn lc rc hPQ po N hpo hcn _) (cwV 1 C.2.2.2.1 gX4_bestSetting_X4_slackOf rfl rfl rfl (by decide +kernel) ⟨Nat.le_of_ble_eq_true rfl, Nat.le_of_ble_eq_true rfl⟩) (x_pv C hH rfl gM_0 rfl rfl) rfl rfl hl.1 rfl (lv_room (Nat.le_of_ble_eq_true rfl)) dX4_bestSetting_27 ⟨Nat.le_of_ble_eq_true rfl, Nat.le_of_ble_eq_true rfl⟩) hH hA (fun H locs hH => ?_)
      refine lv_lstore (lv' := [(5, .long (soV S F T lc rc po lv nd N (nI i) L1)), (0, .ref (a 0)), (1, .int (nI b)), (2, .long x), (4, .int (nI i))]) C.1 C.2.1 dX4_bestSetting_30 hl (by decide) rfl (fun ls hl => ?_)
      refine lv_lload C.1 C.2.1 dX4_bestSetting_32 (lv_at hl 0 rfl) ?_
      refine lv_lload_n C.1 C.2.1 dX4_bestSetting_34 rfl (lv_at hl 3 rfl) ?_
      refine x_lcmp_le (tgt := 45) C.1 C.2.1 dX4_bestSetting_35 dX4_bestSetting_36 (by decide) (fun c_3 => ?_) (fun c_3 => ?_)
      · refine lv_iinc (v := nI (i + 1)) (lv' := [(4, .int (nI (i + 1))), (5, .long (soV S F T lc rc po lv nd N (nI i) L1)), (0, .ref (a 0)), (1, .int (nI b)), (2, .long x)]) C.1 C.2.1 dX4_bestSetting_45 hl (k := 4) rfl (nI_add i 1) (by decide) rfl (fun ls hl => ?_)
        refine lv_goto (tgt := 11) C.1 C.2.1 dX4_bestSetting_48 (by decide) ?_
        exact ih11 (i + 1) b x (soL S F T lc rc lv nd (nI i) L1) _ _ _ (by omega) (by first | (rw [bsF, if_pos c_3] at hf; exact hf) | (rw [bsF, if_neg c_3] at hf; exact hf)) hH (lv_sub hl [2, 3, 4, 0] rfl)
      · refine lv_lload C.1 C.2.1 dX4_bestSetting_39 (lv_at hl 0 rfl) ?_
        refine lv_lstore_n (lv' := [(2, .long (soV S F T lc rc po lv nd N (nI i) L1)), (5, .long (soV S F T lc rc po lv nd N (nI i) L1)), (0, .ref (a 0)), (1, .int (nI b)), (4, .int (nI i))]) C.1 C.2.1 dX4_bestSetting_41 rfl hl (by decide) rfl (fun ls hl => ?_)
        refine lv_iload C.1 C.2.1 dX4_bestSetting_42 (lv_at hl 4 rfl) ?_
        refine lv_istore_n (lv' := [(1, .int (nI i)), (2, .long (soV S F T lc rc po lv nd N (nI i) L1)), (5, .long (soV S F T lc rc po lv nd N (nI i) L1)), (0, .ref (a 0)), (4, .int (nI i))]) C.1 C.2.1 dX4_bestSetting_44 rfl hl (by decide) rfl (fun ls hl => ?_)
        refine lv_iinc (v := nI (i + 1)) (lv' := [(4, .int (nI (i + 1))), (1, .int (nI i)), (2, .long (soV S F T lc rc po lv nd N (nI i) L1)), (5, .long (soV S F T lc rc po lv nd N (nI i) L1)), (0, .ref (a 0))]) C.1 C.2.1 dX4_bestSetting_45 hl (k := 4) rfl (nI_add i 1) (by decide) rfl (fun ls hl => ?_)
        refine lv_goto (tgt := 11) C.1 C.2.1 dX4_bestSetting_48 (by decide) ?_
        exact ih11 (i + 1) i (soV S F T lc rc po lv nd N (nI i) L1) (soL S F T lc rc lv nd (nI i) L1) _ _ _ (by omega) (by first | (rw [bsF, if_pos c_3] at hf; exact hf) | (rw [bsF, if_neg c_3] at hf; exact hf)) hH (lv_sub hl [4, 1, 2, 0] rfl)
  exact lp (Mx - 1) 1 0 (soV S F T lc rc po lv nd N (nI 0) L) (soL S F T lc rc lv nd (nI 0) L) _ _ _ (by omega) (hB) hH (lv_sub hl [3, 2, 1, 0] rfl)
