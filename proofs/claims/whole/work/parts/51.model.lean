set_option maxHeartbeats 400000 in
set_option maxRecDepth 100000 in
theorem c_X4_joinNearest (l : Launch) (G : xG) (a : Nat → Nat) (S T K Z : Nat → Nat → Int32) (L : Nat → Nat → Int64) (F : Nat → Int32) (nd i0 j0 : Nat) (hn : nd < 19) (hsel : mOut T Z nd 0 none = some (i0, j0)) : xMv l yX4_joinNearest wsX4_joinNearest { frames := 4, cells := 0, slots := 0, locals := 94 } [.ref (a 0)] G (wM G a S T K Z L ((tS F 6 (nI nd)))) (wM G a S (joinT T nd i0 j0) K (joinZ Z nd i0 j0) L ((tS F 6 (nI (nd + 1))))) 0 0 := by
  refine x_ofv (cc := cX4_joinNearest) (maxL := 6) (by decide) rfl (Nat.le_of_ble_eq_true rfl) ?_
  intro p e s m args below meth c ls A Q C hml hA hH hl hE
  have hl : lv_has ls 6 [(0, .ref (a 0))] := hl
  have inX4 : ∀ w ∈ wsX40, w ∈ wsX4_joinNearest := fun _ h => (List.mem_cons_of_mem _ (List.mem_append_right _ h))
  refine lv_iconst (v := (-1)) C.1 C.2.1 dX4_joinNearest_0 (by decide) ?_
  refine lv_istore_n (lv' := [(1, .int ((-1))), (0, .ref (a 0))]) C.1 C.2.1 dX4_joinNearest_1 rfl hl (by decide) rfl (fun ls hl => ?_)
  refine lv_iconst (v := (-1)) C.1 C.2.1 dX4_joinNearest_2 (by decide) ?_
  refine lv_istore_n (lv' := [(2, .int ((-1))), (1, .int ((-1))), (0, .ref (a 0))]) C.1 C.2.1 dX4_joinNearest_3 rfl hl (by decide) rfl (fun ls hl => ?_)
  refine lv_iconst (v := nI 0) C.1 C.2.1 dX4_joinNearest_4 (by decide) ?_
  refine lv_istore_n (lv' := [(3, .int (nI 0)), (2, .int ((-1))), (1, .int ((-1))), (0, .ref (a 0))]) C.1 C.2.1 dX4_joinNearest_5 rfl hl (by decide) rfl (fun ls hl => ?_)
  have lp : ∀ (n : Nat) (i : Nat) (u : Option (Nat × Nat)) (H : Heap) (locs : List Loc) (ls : Array Slot), i + n = nd → mOk u → mOut T Z n i u = some (i0, j0) → xH G A s.heap H locs (wM G a S T K Z L ((tS F 6 (nI nd)))) → lv_has ls 6 [(0, .ref (a 0)), (1, .int (oA u)), (2, .int (oB u)), (3, .int (nI i))] → W p l e ({ frames := 4, cells := 0, slots := 0, locals := 94 }) s m args below meth c H locs 0 0 Q (F0 m 6 ls []) := by
    intro n
    induction n with
    | zero =>
      intro i u H locs ls hin hu hf hH hl
      have hf : u = some (i0, j0) := hf
      subst hf
      have hb := hu _ rfl
      refine lv_iload_n C.1 C.2.1 dX4_joinNearest_6 rfl (lv_at hl 3 rfl) ?_
      refine lv_aload_n C.1 C.2.1 dX4_joinNearest_7 rfl (lv_at hl 0 rfl) ?_
      refine x_get (C := RX4) (T := TX4) (N := 37) (v := .int (nI nd)) C inX4 hH 0 gM_0 rfl 14 (by decide) rfl rfl 1 rfl dX4_joinNearest_8 ?_
      refine lv_icmp_ge (tgt := 96) C.1 C.2.1 dX4_joinNearest_11 (by decide) (fun _ => ?_) (fun c_1 => absurd ((nI_leI (a := nd) (b := i) (by omega) (by omega)).mpr (by omega)) c_1)
      have hb1 : i0 < 19 := hb.1
      have hb2 : j0 < 19 := hb.2
      refine lv_aload_n C.1 C.2.1 dX4_joinNearest_96 rfl (lv_at hl 0 rfl) ?_
      refine lv_iload_n C.1 C.2.1 dX4_joinNearest_97 rfl (lv_at hl 1 rfl) ?_
      refine lv_iload_n C.1 C.2.1 dX4_joinNearest_98 rfl (lv_at hl 2 rfl) ?_
      refine x_ci (w' := wM G a S (joinT T nd i0 j0) K (joinZ Z nd i0 j0) L ((tS F 6 (nI (nd + 1))))) (va_runV (As := [.int (nI i0), .int (nI j0)]) (rest := []) (x_fix C hml) (c_X4_join l G a S T K Z L ((tS F 6 (nI nd))) i0 j0 nd rfl (by omega) (by omega) (by omega) _) (cwV 2 C.2.2.2.1 gX4_joinNearest_X4_join rfl rfl rfl (by decide +kernel) ⟨Nat.le_of_ble_eq_true rfl, Nat.le_of_ble_eq_true rfl⟩) (x_pv C hH rfl gM_0 rfl rfl) rfl rfl hl.1 rfl (lv_room (Nat.le_of_ble_eq_true rfl)) dX4_joinNearest_99 ⟨Nat.le_of_ble_eq_true rfl, Nat.le_of_ble_eq_true rfl⟩) hH hA (fun H locs hH => ?_)
      refine lv_pop C.1 C.2.1 dX4_joinNearest_102 rfl ?_
      exact hE _ _ _ _ hH dX4_joinNearest_103
    | succ n ih6 =>
      intro i u H locs ls hin hu hf hH hl
      refine lv_iload_n C.1 C.2.1 dX4_joinNearest_6 rfl (lv_at hl 3 rfl) ?_
      refine lv_aload_n C.1 C.2.1 dX4_joinNearest_7 rfl (lv_at hl 0 rfl) ?_
      refine x_get (C := RX4) (T := TX4) (N := 37) (v := .int (nI nd)) C inX4 hH 0 gM_0 rfl 14 (by decide) rfl rfl 1 rfl dX4_joinNearest_8 ?_
      refine lv_icmp_ge (tgt := 96) C.1 C.2.1 dX4_joinNearest_11 (by decide) (fun c_2 => absurd ((nI_leI (a := nd) (b := i) (by omega) (by omega)).mp c_2) (by omega)) (fun _ => ?_)
      refine lv_iload_n C.1 C.2.1 dX4_joinNearest_14 rfl (lv_at hl 3 rfl) ?_
      refine lv_iconst (v := nI 1) C.1 C.2.1 dX4_joinNearest_15 (by decide) ?_
      refine lv_iadd C.1 C.2.1 dX4_joinNearest_16 ?_
      refine x_toi (nI_add i 1) ?_
      refine lv_istore (lv' := [(4, .int (nI (i + 1))), (0, .ref (a 0)), (1, .int (oA u)), (2, .int (oB u)), (3, .int (nI i))]) C.1 C.2.1 dX4_joinNearest_17 hl (by decide) rfl (fun ls hl => ?_)
      have lq : ∀ (k9 : Nat) (j : Nat) (v : Option (Nat × Nat)) (H : Heap) (locs : List Loc) (ls : Array Slot), j + k9 = nd → mOk v → mIn T Z i k9 j v = mIn T Z i n (i + 1) u → xH G A s.heap H locs (wM G a S T K Z L ((tS F 6 (nI nd)))) → lv_has ls 6 [(0, .ref (a 0)), (1, .int (oA v)), (2, .int (oB v)), (3, .int (nI i)), (4, .int (nI j))] → W p l e ({ frames := 4, cells := 0, slots := 0, locals := 94 }) s m args below meth c H locs 0 0 Q (F0 m 19 ls []) := by
        intro k9
        induction k9 with
        | zero =>
          intro j v H locs ls hj hv hc hH hl
          refine lv_iload C.1 C.2.1 dX4_joinNearest_19 (lv_at hl 4 rfl) ?_
          refine lv_aload_n C.1 C.2.1 dX4_joinNearest_21 rfl (lv_at hl 0 rfl) ?_
          refine x_get (C := RX4) (T := TX4) (N := 37) (v := .int (nI nd)) C inX4 hH 0 gM_0 rfl 14 (by decide) rfl rfl 1 rfl dX4_joinNearest_22 ?_
          refine lv_icmp_ge (tgt := 90) C.1 C.2.1 dX4_joinNearest_25 (by decide) (fun _ => ?_) (fun c_3 => absurd ((nI_leI (a := nd) (b := j) (by omega) (by omega)).mpr (by omega)) c_3)
          refine lv_iinc (v := nI (i + 1)) (lv' := [(3, .int (nI (i + 1))), (0, .ref (a 0)), (1, .int (oA v)), (2, .int (oB v)), (4, .int (nI j))]) C.1 C.2.1 dX4_joinNearest_90 hl (k := 3) rfl (nI_add i 1) (by decide) rfl (fun ls hl => ?_)
          refine lv_goto (tgt := 6) C.1 C.2.1 dX4_joinNearest_93 (by decide) ?_
          exact ih6 (i + 1) v _ _ _ (by omega) (hv) (by rw [show v = mIn T Z i n (i + 1) u from hc]; exact hf) hH (lv_sub hl [1, 2, 3, 0] rfl)
        | succ k9 ih19 =>
          intro j v H locs ls hj hv hc hH hl
          refine lv_iload C.1 C.2.1 dX4_joinNearest_19 (lv_at hl 4 rfl) ?_
          refine lv_aload_n C.1 C.2.1 dX4_joinNearest_21 rfl (lv_at hl 0 rfl) ?_
          refine x_get (C := RX4) (T := TX4) (N := 37) (v := .int (nI nd)) C inX4 hH 0 gM_0 rfl 14 (by decide) rfl rfl 1 rfl dX4_joinNearest_22 ?_
          refine lv_icmp_ge (tgt := 90) C.1 C.2.1 dX4_joinNearest_25 (by decide) (fun c_4 => absurd ((nI_leI (a := nd) (b := j) (by omega) (by omega)).mp c_4) (by omega)) (fun _ => ?_)
          refine lv_aload_n C.1 C.2.1 dX4_joinNearest_28 rfl (lv_at hl 0 rfl) ?_
          refine x_get (C := RX4) (T := TX4) (N := 37) (v := .ref (a 17)) C inX4 hH 0 gM_0 rfl 27 (by decide) rfl rfl 2 rfl dX4_joinNearest_29 ?_
          refine lv_iload_n C.1 C.2.1 dX4_joinNearest_32 rfl (lv_at hl 3 rfl) ?_
          refine x_zald (f := Z 1) (j := i) (v := Z 1 i) C hH 17 gM_17 (by omega) (by decide) (rfl) dX4_joinNearest_33 ?_
          refine lv_if_ne (tgt := 51) C.1 C.2.1 dX4_joinNearest_34 (by decide) (fun c_5 => ?_) (fun c_5 => ?_)
          · refine lv_iconst (v := nI 0) C.1 C.2.1 dX4_joinNearest_51 (by decide) ?_
            refine lv_istore (lv' := [(5, .int (nI 0)), (0, .ref (a 0)), (1, .int (oA v)), (2, .int (oB v)), (3, .int (nI i)), (4, .int (nI j))]) C.1 C.2.1 dX4_joinNearest_52 hl (by decide) rfl (fun ls hl => ?_)
            refine lv_iload C.1 C.2.1 dX4_joinNearest_54 (lv_at hl 0 rfl) ?_
            refine lv_if_eq (tgt := 84) C.1 C.2.1 dX4_joinNearest_56 (by decide) (fun _ => ?_) (fun c_6 => absurd (by decide) c_6)
            refine lv_iinc (v := nI (j + 1)) (lv' := [(4, .int (nI (j + 1))), (5, .int (nI 0)), (0, .ref (a 0)), (1, .int (oA v)), (2, .int (oB v)), (3, .int (nI i))]) C.1 C.2.1 dX4_joinNearest_84 hl (k := 5) rfl (nI_add j 1) (by decide) rfl (fun ls hl => ?_)
            refine lv_goto (tgt := 19) C.1 C.2.1 dX4_joinNearest_87 (by decide) ?_
            exact ih19 (j + 1) v _ _ _ (by omega) (by first | exact hv | exact mOk_some (by omega) (by omega)) (by (try simp only [← Int32.not_lt, ← Nat.not_lt, Classical.not_not] at c_5); rw [mIn] at hc; simp only [mBet, decide_eq_true_eq, c_5, and_self, and_true, true_and, and_false, false_and, or_true, true_or, or_false, false_or, not_true_eq_false, not_false_eq_true, Classical.not_not, if_true, if_false, reduceIte] at hc; exact hc) hH (lv_sub hl [2, 3, 4, 5, 0] rfl)
          · refine lv_aload_n C.1 C.2.1 dX4_joinNearest_37 rfl (lv_at hl 0 rfl) ?_
            refine x_get (C := RX4) (T := TX4) (N := 37) (v := .ref (a 17)) C inX4 hH 0 gM_0 rfl 27 (by decide) rfl rfl 2 rfl dX4_joinNearest_38 ?_
            refine lv_iload C.1 C.2.1 dX4_joinNearest_41 (lv_at hl 4 rfl) ?_
            refine x_zald (f := Z 1) (j := j) (v := Z 1 j) C hH 17 gM_17 (by omega) (by decide) (rfl) dX4_joinNearest_43 ?_
            refine lv_if_ne (tgt := 51) C.1 C.2.1 dX4_joinNearest_44 (by decide) (fun c_7 => ?_) (fun c_7 => ?_)
            · refine lv_iconst (v := nI 0) C.1 C.2.1 dX4_joinNearest_51 (by decide) ?_
              refine lv_istore (lv' := [(5, .int (nI 0)), (0, .ref (a 0)), (1, .int (oA v)), (2, .int (oB v)), (3, .int (nI i)), (4, .int (nI j))]) C.1 C.2.1 dX4_joinNearest_52 hl (by decide) rfl (fun ls hl => ?_)
              refine lv_iload C.1 C.2.1 dX4_joinNearest_54 (lv_at hl 0 rfl) ?_
              refine lv_if_eq (tgt := 84) C.1 C.2.1 dX4_joinNearest_56 (by decide) (fun _ => ?_) (fun c_8 => absurd (by decide) c_8)
              refine lv_iinc (v := nI (j + 1)) (lv' := [(4, .int (nI (j + 1))), (5, .int (nI 0)), (0, .ref (a 0)), (1, .int (oA v)), (2, .int (oB v)), (3, .int (nI i))]) C.1 C.2.1 dX4_joinNearest_84 hl (k := 5) rfl (nI_add j 1) (by decide) rfl (fun ls hl => ?_)
              refine lv_goto (tgt := 19) C.1 C.2.1 dX4_joinNearest_87 (by decide) ?_
              exact ih19 (j + 1) v _ _ _ (by omega) (by first | exact hv | exact mOk_some (by omega) (by omega)) (by (try simp only [← Int32.not_lt, ← Nat.not_lt, Classical.not_not] at c_5); (try simp only [← Int32.not_lt, ← Nat.not_lt, Classical.not_not] at c_7); rw [mIn] at hc; simp only [mBet, decide_eq_true_eq, c_5, c_7, and_self, and_true, true_and, and_false, false_and, or_true, true_or, or_false, false_or, not_true_eq_false, not_false_eq_true, Classical.not_not, if_true, if_false, reduceIte] at hc; exact hc) hH (lv_sub hl [2, 3, 4, 5, 0] rfl)
            · refine lv_iconst (v := nI 1) C.1 C.2.1 dX4_joinNearest_47 (by decide) ?_
              refine lv_goto (tgt := 52) C.1 C.2.1 dX4_joinNearest_48 (by decide) ?_
              refine lv_istore (lv' := [(5, .int (nI 1)), (0, .ref (a 0)), (1, .int (oA v)), (2, .int (oB v)), (3, .int (nI i)), (4, .int (nI j))]) C.1 C.2.1 dX4_joinNearest_52 hl (by decide) rfl (fun ls hl => ?_)
              refine lv_iload C.1 C.2.1 dX4_joinNearest_54 (lv_at hl 0 rfl) ?_
              refine lv_if_eq (tgt := 84) C.1 C.2.1 dX4_joinNearest_56 (by decide) (fun c_9 => absurd c_9 (by decide)) (fun _ => ?_)
              rcases v with _ | ⟨p9, q9⟩
              · skip
                have hl : lv_has ls 6 [(5, .int (nI 1)), (0, .ref (a 0)), (1, .int ((-1))), (2, .int ((-1))), (3, .int (nI i)), (4, .int (nI j))] := hl
                refine lv_iload_n C.1 C.2.1 dX4_joinNearest_59 rfl (lv_at hl 2 rfl) ?_
                refine lv_if_lt (tgt := 79) C.1 C.2.1 dX4_joinNearest_60 (by decide) (fun _ => ?_) (fun c_10 => absurd (by decide) c_10)
                refine lv_iload_n C.1 C.2.1 dX4_joinNearest_79 rfl (lv_at hl 4 rfl) ?_
                refine lv_istore_n (lv' := [(1, .int (nI i)), (5, .int (nI 1)), (0, .ref (a 0)), (2, .int ((-1))), (3, .int (nI i)), (4, .int (nI j))]) C.1 C.2.1 dX4_joinNearest_80 rfl hl (by decide) rfl (fun ls hl => ?_)
                refine lv_iload C.1 C.2.1 dX4_joinNearest_81 (lv_at hl 5 rfl) ?_
                refine lv_istore_n (lv' := [(2, .int (nI j)), (1, .int (nI i)), (5, .int (nI 1)), (0, .ref (a 0)), (3, .int (nI i)), (4, .int (nI j))]) C.1 C.2.1 dX4_joinNearest_83 rfl hl (by decide) rfl (fun ls hl => ?_)
                refine lv_iinc (v := nI (j + 1)) (lv' := [(4, .int (nI (j + 1))), (2, .int (nI j)), (1, .int (nI i)), (5, .int (nI 1)), (0, .ref (a 0)), (3, .int (nI i))]) C.1 C.2.1 dX4_joinNearest_84 hl (k := 5) rfl (nI_add j 1) (by decide) rfl (fun ls hl => ?_)
                refine lv_goto (tgt := 19) C.1 C.2.1 dX4_joinNearest_87 (by decide) ?_
                exact ih19 (j + 1) (some (i, j)) _ _ _ (by omega) (by first | exact hv | exact mOk_some (by omega) (by omega)) (by (try simp only [← Int32.not_lt, ← Nat.not_lt, Classical.not_not] at c_5); (try simp only [← Int32.not_lt, ← Nat.not_lt, Classical.not_not] at c_7); rw [mIn] at hc; simp only [mBet, decide_eq_true_eq, c_5, c_7, and_self, and_true, true_and, and_false, false_and, or_true, true_or, or_false, false_or, not_true_eq_false, not_false_eq_true, Classical.not_not, if_true, if_false, reduceIte] at hc; exact hc) hH (lv_sub hl [4, 2, 1, 5, 0] rfl)
              · have hb := hv _ rfl
                have hb1 : p9 < 19 := hb.1
                have hb2 : q9 < 19 := hb.2
                have hl : lv_has ls 6 [(5, .int (nI 1)), (0, .ref (a 0)), (1, .int (nI p9)), (2, .int (nI q9)), (3, .int (nI i)), (4, .int (nI j))] := hl
                refine lv_iload_n C.1 C.2.1 dX4_joinNearest_59 rfl (lv_at hl 2 rfl) ?_
                refine lv_if_lt (tgt := 79) C.1 C.2.1 dX4_joinNearest_60 (by decide) (fun c_11 => absurd c_11 (nI_pos (by omega))) (fun _ => ?_)
                refine lv_aload_n C.1 C.2.1 dX4_joinNearest_63 rfl (lv_at hl 1 rfl) ?_
                refine lv_iload_n C.1 C.2.1 dX4_joinNearest_64 rfl (lv_at hl 4 rfl) ?_
                refine lv_iload C.1 C.2.1 dX4_joinNearest_65 (lv_at hl 5 rfl) ?_
                refine x_ci (w' := wM G a S T K Z L ((tS F 6 (nI nd)))) (va_runV (As := [.int (nI i), .int (nI j)]) (rest := []) (x_fix C hml) (c_X4_distance l G a S T K Z L ((tS F 6 (nI nd))) i j (by omega) (by omega) _) (cwV 2 C.2.2.2.1 gX4_joinNearest_X4_distance rfl rfl rfl (by decide +kernel) ⟨Nat.le_of_ble_eq_true rfl, Nat.le_of_ble_eq_true rfl⟩) (x_pv C hH rfl gM_0 rfl rfl) rfl rfl hl.1 rfl (lv_room (Nat.le_of_ble_eq_true rfl)) dX4_joinNearest_67 ⟨Nat.le_of_ble_eq_true rfl, Nat.le_of_ble_eq_true rfl⟩) hH hA (fun H locs hH => ?_)
                refine lv_aload_n C.1 C.2.1 dX4_joinNearest_70 rfl (lv_at hl 1 rfl) ?_
                refine lv_iload_n C.1 C.2.1 dX4_joinNearest_71 rfl (lv_at hl 2 rfl) ?_
                refine lv_iload_n C.1 C.2.1 dX4_joinNearest_72 rfl (lv_at hl 3 rfl) ?_
                refine x_ci (w' := wM G a S T K Z L ((tS F 6 (nI nd)))) (va_runV (As := [.int (nI p9), .int (nI q9)]) (rest := [.int (dist T i j)]) (x_fix C hml) (c_X4_distance l G a S T K Z L ((tS F 6 (nI nd))) p9 q9 (by omega) (by omega) _) (cwV 2 C.2.2.2.1 gX4_joinNearest_X4_distance rfl rfl rfl (by decide +kernel) ⟨Nat.le_of_ble_eq_true rfl, Nat.le_of_ble_eq_true rfl⟩) (x_pv C hH rfl gM_0 rfl rfl) rfl rfl hl.1 rfl (lv_room (Nat.le_of_ble_eq_true rfl)) dX4_joinNearest_73 ⟨Nat.le_of_ble_eq_true rfl, Nat.le_of_ble_eq_true rfl⟩) hH hA (fun H locs hH => ?_)
                refine lv_icmp_ge (tgt := 84) C.1 C.2.1 dX4_joinNearest_76 (by decide) (fun c_12 => ?_) (fun c_12 => ?_)
                · refine lv_iinc (v := nI (j + 1)) (lv' := [(4, .int (nI (j + 1))), (5, .int (nI 1)), (0, .ref (a 0)), (1, .int (nI p9)), (2, .int (nI q9)), (3, .int (nI i))]) C.1 C.2.1 dX4_joinNearest_84 hl (k := 5) rfl (nI_add j 1) (by decide) rfl (fun ls hl => ?_)
                  refine lv_goto (tgt := 19) C.1 C.2.1 dX4_joinNearest_87 (by decide) ?_
                  exact ih19 (j + 1) (some (p9, q9)) _ _ _ (by omega) (by first | exact hv | exact mOk_some (by omega) (by omega)) (by (try simp only [← Int32.not_lt, ← Nat.not_lt, Classical.not_not] at c_5); (try simp only [← Int32.not_lt, ← Nat.not_lt, Classical.not_not] at c_7); (try simp only [← Int32.not_lt, ← Nat.not_lt, Classical.not_not] at c_12); rw [mIn] at hc; simp only [mBet, decide_eq_true_eq, c_5, c_7, c_12, and_self, and_true, true_and, and_false, false_and, or_true, true_or, or_false, false_or, not_true_eq_false, not_false_eq_true, Classical.not_not, if_true, if_false, reduceIte] at hc; exact hc) hH (lv_sub hl [2, 3, 4, 5, 0] rfl)
                · refine lv_iload_n C.1 C.2.1 dX4_joinNearest_79 rfl (lv_at hl 4 rfl) ?_
                  refine lv_istore_n (lv' := [(1, .int (nI i)), (5, .int (nI 1)), (0, .ref (a 0)), (2, .int (nI q9)), (3, .int (nI i)), (4, .int (nI j))]) C.1 C.2.1 dX4_joinNearest_80 rfl hl (by decide) rfl (fun ls hl => ?_)
                  refine lv_iload C.1 C.2.1 dX4_joinNearest_81 (lv_at hl 5 rfl) ?_
                  refine lv_istore_n (lv' := [(2, .int (nI j)), (1, .int (nI i)), (5, .int (nI 1)), (0, .ref (a 0)), (3, .int (nI i)), (4, .int (nI j))]) C.1 C.2.1 dX4_joinNearest_83 rfl hl (by decide) rfl (fun ls hl => ?_)
                  refine lv_iinc (v := nI (j + 1)) (lv' := [(4, .int (nI (j + 1))), (2, .int (nI j)), (1, .int (nI i)), (5, .int (nI 1)), (0, .ref (a 0)), (3, .int (nI i))]) C.1 C.2.1 dX4_joinNearest_84 hl (k := 5) rfl (nI_add j 1) (by decide) rfl (fun ls hl => ?_)
                  refine lv_goto (tgt := 19) C.1 C.2.1 dX4_joinNearest_87 (by decide) ?_
                  exact ih19 (j + 1) (some (i, j)) _ _ _ (by omega) (by first | exact hv | exact mOk_some (by omega) (by omega)) (by (try simp only [← Int32.not_lt, ← Nat.not_lt, Classical.not_not] at c_5); (try simp only [← Int32.not_lt, ← Nat.not_lt, Classical.not_not] at c_7); (try simp only [← Int32.not_lt, ← Nat.not_lt, Classical.not_not] at c_12); rw [mIn] at hc; simp only [mBet, decide_eq_true_eq, c_5, c_7, c_12, and_self, and_true, true_and, and_false, false_and, or_true, true_or, or_false, false_or, not_true_eq_false, not_false_eq_true, Classical.not_not, if_true, if_false, reduceIte] at hc; exact hc) hH (lv_sub hl [4, 2, 1, 5, 0] rfl)
      exact lq (n) (i + 1) u _ _ _ (by omega) (hu) (rfl) hH (lv_sub hl [1, 2, 3, 4, 0] rfl)
  exact lp (nd) 0 none _ _ _ (by omega) (mOk_none) (hsel) hH (lv_sub hl [3, 2, 1, 0] rfl)
set_option maxHeartbeats 400000 in
set_option maxRecDepth 100000 in
theorem c_X4_isBefore (l : Launch) (G : xG) (a : Nat → Nat) (S T K Z : Nat → Nat → Int32) (L : Nat → Nat → Int64) (F : Nat → Int32) (i j : Nat) (bx : Bool) (hi : i < 10) (hj : j < 10) : xMi l yX4_isBefore wsX4_isBefore { frames := 0, cells := 0, slots := 0, locals := 0 } [.ref (a 0), .int (nI i), .int (nI j), .int (xb (bx = true))] G (wM G a S T K Z L F) (xb (befM (kA S bx) (kB S bx) i j = true)) (wM G a S T K Z L F) 0 0 := by
  refine x_ofi (cc := cX4_isBefore) (maxL := 6) (ty := .boolean) (by decide) rfl (Nat.le_of_ble_eq_true rfl) ?_
  intro p e s m args below meth c ls A Q C hml hA hH hl hE
  have hl : lv_has ls 6 [(0, .ref (a 0)), (1, .int (nI i)), (2, .int (nI j)), (3, .int (xb (bx = true)))] := hl
  have inX4 : ∀ w ∈ wsX40, w ∈ wsX4_isBefore := fun _ h => (List.mem_cons_of_mem _ (List.mem_append_right _ h))
  refine lv_iload_n C.1 C.2.1 dX4_isBefore_0 rfl (lv_at hl 3 rfl) ?_
  refine lv_if_eq (tgt := 20) C.1 C.2.1 dX4_isBefore_1 (by decide) (fun c_1 => ?_) (fun c_1 => ?_)
  · rw [xb_0] at c_1
    refine lv_aload_n C.1 C.2.1 dX4_isBefore_20 rfl (lv_at hl 0 rfl) ?_
    refine x_get (C := RX4) (T := TX4) (N := 37) (v := .ref (a 2)) C inX4 hH 0 gM_0 rfl 3 (by decide) rfl rfl 2 rfl dX4_isBefore_21 ?_
    refine lv_iload_n C.1 C.2.1 dX4_isBefore_24 rfl (lv_at hl 1 rfl) ?_
    refine x_iald (f := S 1) (j := i) (v := S 1 i) C hH 2 gM_2 (by omega) (by decide) (rfl) dX4_isBefore_25 ?_
    refine lv_aload_n C.1 C.2.1 dX4_isBefore_26 rfl (lv_at hl 0 rfl) ?_
    refine x_get (C := RX4) (T := TX4) (N := 37) (v := .ref (a 2)) C inX4 hH 0 gM_0 rfl 3 (by decide) rfl rfl 2 rfl dX4_isBefore_27 ?_
    refine lv_iload_n C.1 C.2.1 dX4_isBefore_30 rfl (lv_at hl 2 rfl) ?_
    refine x_iald (f := S 1) (j := j) (v := S 1 j) C hH 2 gM_2 (by omega) (by decide) (rfl) dX4_isBefore_31 ?_
    refine lv_isub C.1 C.2.1 dX4_isBefore_32 ?_
    refine lv_istore (lv' := [(4, .int ((S 1 i) - (S 1 j))), (0, .ref (a 0)), (1, .int (nI i)), (2, .int (nI j)), (3, .int (xb (bx = true)))]) C.1 C.2.1 dX4_isBefore_33 hl (by decide) rfl (fun ls hl => ?_)
    refine lv_iload_n C.1 C.2.1 dX4_isBefore_35 rfl (lv_at hl 4 rfl) ?_
    refine lv_if_eq (tgt := 55) C.1 C.2.1 dX4_isBefore_36 (by decide) (fun _ => ?_) (fun z8 => absurd (xb_0.mpr c_1) z8)
    refine lv_aload_n C.1 C.2.1 dX4_isBefore_55 rfl (lv_at hl 1 rfl) ?_
    refine x_get (C := RX4) (T := TX4) (N := 37) (v := .ref (a 1)) C inX4 hH 0 gM_0 rfl 2 (by decide) rfl rfl 1 rfl dX4_isBefore_56 ?_
    refine lv_iload_n C.1 C.2.1 dX4_isBefore_59 rfl (lv_at hl 2 rfl) ?_
    refine x_iald (f := S 0) (j := i) (v := S 0 i) C hH 1 gM_1 (by omega) (by decide) (rfl) dX4_isBefore_60 ?_
    refine lv_aload_n C.1 C.2.1 dX4_isBefore_61 rfl (lv_at hl 1 rfl) ?_
    refine x_get (C := RX4) (T := TX4) (N := 37) (v := .ref (a 1)) C inX4 hH 0 gM_0 rfl 2 (by decide) rfl rfl 1 rfl dX4_isBefore_62 ?_
    refine lv_iload_n C.1 C.2.1 dX4_isBefore_65 rfl (lv_at hl 3 rfl) ?_
    refine x_iald (f := S 0) (j := j) (v := S 0 j) C hH 1 gM_1 (by omega) (by decide) (rfl) dX4_isBefore_66 ?_
    refine lv_isub C.1 C.2.1 dX4_isBefore_67 ?_
    refine lv_istore (lv' := [(5, .int ((S 0 i) - (S 0 j))), (4, .int ((S 1 i) - (S 1 j))), (0, .ref (a 0)), (1, .int (nI i)), (2, .int (nI j)), (3, .int (xb (bx = true)))]) C.1 C.2.1 dX4_isBefore_68 hl (by decide) rfl (fun ls hl => ?_)
    refine lv_iload C.1 C.2.1 dX4_isBefore_70 (lv_at hl 1 rfl) ?_
    refine lv_if_eq (tgt := 88) C.1 C.2.1 dX4_isBefore_72 (by decide) (fun c_3 => ?_) (fun c_3 => ?_)
    · refine lv_iload C.1 C.2.1 dX4_isBefore_88 (lv_at hl 0 rfl) ?_
      refine lv_if_eq (tgt := 106) C.1 C.2.1 dX4_isBefore_90 (by decide) (fun c_4 => ?_) (fun c_4 => ?_)
      · refine lv_iload_n C.1 C.2.1 dX4_isBefore_106 rfl (lv_at hl 3 rfl) ?_
        refine lv_iload_n C.1 C.2.1 dX4_isBefore_107 rfl (lv_at hl 4 rfl) ?_
        refine lv_icmp_ge (tgt := 115) C.1 C.2.1 dX4_isBefore_108 (by decide) (fun c_5 => ?_) (fun c_5 => ?_)
        · rw [nI_leI (a := j) (b := i) (by omega) (by omega)] at c_5
          refine lv_iconst (v := nI 0) C.1 C.2.1 dX4_isBefore_115 (by decide) ?_
          exact hE _ _ _ _ _ hH (by (try simp only [← Int32.not_lt, ← Nat.not_lt, Classical.not_not] at c_1); (try simp only [← Int32.not_lt, ← Nat.not_lt, Classical.not_not] at c_3); (try simp only [← Int32.not_lt, ← Nat.not_lt, Classical.not_not] at c_4); (try simp only [← Int32.not_lt, ← Nat.not_lt, Classical.not_not] at c_5); simp only [xb, befM, kA, kB, decide_true, decide_false, decide_not, Bool.false_eq_true, Bool.not_true, Bool.not_false, c_1, c_3, c_4, c_5, and_self, and_true, true_and, and_false, false_and, or_true, true_or, or_false, false_or, not_true_eq_false, not_false_eq_true, Classical.not_not, if_true, if_false, reduceIte]) (by decide) dX4_isBefore_116
        · rw [nI_leI (a := j) (b := i) (by omega) (by omega)] at c_5
          refine lv_iconst (v := nI 1) C.1 C.2.1 dX4_isBefore_111 (by decide) ?_
          refine lv_goto (tgt := 116) C.1 C.2.1 dX4_isBefore_112 (by decide) ?_
          exact hE _ _ _ _ _ hH (by (try simp only [← Int32.not_lt, ← Nat.not_lt, Classical.not_not] at c_1); (try simp only [← Int32.not_lt, ← Nat.not_lt, Classical.not_not] at c_3); (try simp only [← Int32.not_lt, ← Nat.not_lt, Classical.not_not] at c_4); (try simp only [← Int32.not_lt, ← Nat.not_lt, Classical.not_not] at c_5); simp only [xb, befM, kA, kB, decide_true, decide_false, decide_not, Bool.false_eq_true, Bool.not_true, Bool.not_false, c_1, c_3, c_4, c_5, and_self, and_true, true_and, and_false, false_and, or_true, true_or, or_false, false_or, not_true_eq_false, not_false_eq_true, Classical.not_not, if_true, if_false, reduceIte]) (by decide) dX4_isBefore_116
      · refine lv_iload C.1 C.2.1 dX4_isBefore_93 (lv_at hl 0 rfl) ?_
        refine lv_if_ge (tgt := 102) C.1 C.2.1 dX4_isBefore_95 (by decide) (fun c_6 => ?_) (fun c_6 => ?_)
        · refine lv_iconst (v := nI 0) C.1 C.2.1 dX4_isBefore_102 (by decide) ?_
          refine lv_goto (tgt := 116) C.1 C.2.1 dX4_isBefore_103 (by decide) ?_
          exact hE _ _ _ _ _ hH (by (try simp only [← Int32.not_lt, ← Nat.not_lt, Classical.not_not] at c_1); (try simp only [← Int32.not_lt, ← Nat.not_lt, Classical.not_not] at c_3); (try simp only [← Int32.not_lt, ← Nat.not_lt, Classical.not_not] at c_4); (try simp only [← Int32.not_lt, ← Nat.not_lt, Classical.not_not] at c_6); simp only [xb, befM, kA, kB, decide_true, decide_false, decide_not, Bool.false_eq_true, Bool.not_true, Bool.not_false, c_1, c_3, c_4, c_6, and_self, and_true, true_and, and_false, false_and, or_true, true_or, or_false, false_or, not_true_eq_false, not_false_eq_true, Classical.not_not, if_true, if_false, reduceIte]) (by decide) dX4_isBefore_116
        · refine lv_iconst (v := nI 1) C.1 C.2.1 dX4_isBefore_98 (by decide) ?_
          refine lv_goto (tgt := 116) C.1 C.2.1 dX4_isBefore_99 (by decide) ?_
          exact hE _ _ _ _ _ hH (by (try simp only [← Int32.not_lt, ← Nat.not_lt, Classical.not_not] at c_1); (try simp only [← Int32.not_lt, ← Nat.not_lt, Classical.not_not] at c_3); (try simp only [← Int32.not_lt, ← Nat.not_lt, Classical.not_not] at c_4); (try simp only [← Int32.not_lt, ← Nat.not_lt, Classical.not_not] at c_6); simp only [xb, befM, kA, kB, decide_true, decide_false, decide_not, Bool.false_eq_true, Bool.not_true, Bool.not_false, c_1, c_3, c_4, c_6, and_self, and_true, true_and, and_false, false_and, or_true, true_or, or_false, false_or, not_true_eq_false, not_false_eq_true, Classical.not_not, if_true, if_false, reduceIte]) (by decide) dX4_isBefore_116
    · refine lv_iload C.1 C.2.1 dX4_isBefore_75 (lv_at hl 1 rfl) ?_
      refine lv_if_ge (tgt := 84) C.1 C.2.1 dX4_isBefore_77 (by decide) (fun c_7 => ?_) (fun c_7 => ?_)
      · refine lv_iconst (v := nI 0) C.1 C.2.1 dX4_isBefore_84 (by decide) ?_
        refine lv_goto (tgt := 116) C.1 C.2.1 dX4_isBefore_85 (by decide) ?_
        exact hE _ _ _ _ _ hH (by (try simp only [← Int32.not_lt, ← Nat.not_lt, Classical.not_not] at c_1); (try simp only [← Int32.not_lt, ← Nat.not_lt, Classical.not_not] at c_3); (try simp only [← Int32.not_lt, ← Nat.not_lt, Classical.not_not] at c_7); simp only [xb, befM, kA, kB, decide_true, decide_false, decide_not, Bool.false_eq_true, Bool.not_true, Bool.not_false, c_1, c_3, c_7, and_self, and_true, true_and, and_false, false_and, or_true, true_or, or_false, false_or, not_true_eq_false, not_false_eq_true, Classical.not_not, if_true, if_false, reduceIte]) (by decide) dX4_isBefore_116
      · refine lv_iconst (v := nI 1) C.1 C.2.1 dX4_isBefore_80 (by decide) ?_
        refine lv_goto (tgt := 116) C.1 C.2.1 dX4_isBefore_81 (by decide) ?_
        exact hE _ _ _ _ _ hH (by (try simp only [← Int32.not_lt, ← Nat.not_lt, Classical.not_not] at c_1); (try simp only [← Int32.not_lt, ← Nat.not_lt, Classical.not_not] at c_3); (try simp only [← Int32.not_lt, ← Nat.not_lt, Classical.not_not] at c_7); simp only [xb, befM, kA, kB, decide_true, decide_false, decide_not, Bool.false_eq_true, Bool.not_true, Bool.not_false, c_1, c_3, c_7, and_self, and_true, true_and, and_false, false_and, or_true, true_or, or_false, false_or, not_true_eq_false, not_false_eq_true, Classical.not_not, if_true, if_false, reduceIte]) (by decide) dX4_isBefore_116
  · rw [xb_0] at c_1
    have c_1 := Classical.not_not.mp c_1
    refine lv_aload_n C.1 C.2.1 dX4_isBefore_4 rfl (lv_at hl 0 rfl) ?_
    refine x_get (C := RX4) (T := TX4) (N := 37) (v := .ref (a 1)) C inX4 hH 0 gM_0 rfl 2 (by decide) rfl rfl 1 rfl dX4_isBefore_5 ?_
    refine lv_iload_n C.1 C.2.1 dX4_isBefore_8 rfl (lv_at hl 1 rfl) ?_
    refine x_iald (f := S 0) (j := i) (v := S 0 i) C hH 1 gM_1 (by omega) (by decide) (rfl) dX4_isBefore_9 ?_
    refine lv_aload_n C.1 C.2.1 dX4_isBefore_10 rfl (lv_at hl 0 rfl) ?_
    refine x_get (C := RX4) (T := TX4) (N := 37) (v := .ref (a 1)) C inX4 hH 0 gM_0 rfl 2 (by decide) rfl rfl 1 rfl dX4_isBefore_11 ?_
    refine lv_iload_n C.1 C.2.1 dX4_isBefore_14 rfl (lv_at hl 2 rfl) ?_
    refine x_iald (f := S 0) (j := j) (v := S 0 j) C hH 1 gM_1 (by omega) (by decide) (rfl) dX4_isBefore_15 ?_
    refine lv_isub C.1 C.2.1 dX4_isBefore_16 ?_
    refine lv_goto (tgt := 33) C.1 C.2.1 dX4_isBefore_17 (by decide) ?_
    refine lv_istore (lv' := [(4, .int ((S 0 i) - (S 0 j))), (0, .ref (a 0)), (1, .int (nI i)), (2, .int (nI j)), (3, .int (xb (bx = true)))]) C.1 C.2.1 dX4_isBefore_33 hl (by decide) rfl (fun ls hl => ?_)
    refine lv_iload_n C.1 C.2.1 dX4_isBefore_35 rfl (lv_at hl 4 rfl) ?_
    refine lv_if_eq (tgt := 55) C.1 C.2.1 dX4_isBefore_36 (by decide) (fun z8 => absurd z8 (fun z9 => xb_0.mp z9 c_1)) (fun _ => ?_)
    refine lv_aload_n C.1 C.2.1 dX4_isBefore_39 rfl (lv_at hl 1 rfl) ?_
    refine x_get (C := RX4) (T := TX4) (N := 37) (v := .ref (a 2)) C inX4 hH 0 gM_0 rfl 3 (by decide) rfl rfl 2 rfl dX4_isBefore_40 ?_
    refine lv_iload_n C.1 C.2.1 dX4_isBefore_43 rfl (lv_at hl 2 rfl) ?_
    refine x_iald (f := S 1) (j := i) (v := S 1 i) C hH 2 gM_2 (by omega) (by decide) (rfl) dX4_isBefore_44 ?_
    refine lv_aload_n C.1 C.2.1 dX4_isBefore_45 rfl (lv_at hl 1 rfl) ?_
    refine x_get (C := RX4) (T := TX4) (N := 37) (v := .ref (a 2)) C inX4 hH 0 gM_0 rfl 3 (by decide) rfl rfl 2 rfl dX4_isBefore_46 ?_
    refine lv_iload_n C.1 C.2.1 dX4_isBefore_49 rfl (lv_at hl 3 rfl) ?_
    refine x_iald (f := S 1) (j := j) (v := S 1 j) C hH 2 gM_2 (by omega) (by decide) (rfl) dX4_isBefore_50 ?_
    refine lv_isub C.1 C.2.1 dX4_isBefore_51 ?_
    refine lv_goto (tgt := 68) C.1 C.2.1 dX4_isBefore_52 (by decide) ?_
    refine lv_istore (lv' := [(5, .int ((S 1 i) - (S 1 j))), (4, .int ((S 0 i) - (S 0 j))), (0, .ref (a 0)), (1, .int (nI i)), (2, .int (nI j)), (3, .int (xb (bx = true)))]) C.1 C.2.1 dX4_isBefore_68 hl (by decide) rfl (fun ls hl => ?_)
    refine lv_iload C.1 C.2.1 dX4_isBefore_70 (lv_at hl 1 rfl) ?_
    refine lv_if_eq (tgt := 88) C.1 C.2.1 dX4_isBefore_72 (by decide) (fun c_9 => ?_) (fun c_9 => ?_)
    · refine lv_iload C.1 C.2.1 dX4_isBefore_88 (lv_at hl 0 rfl) ?_
      refine lv_if_eq (tgt := 106) C.1 C.2.1 dX4_isBefore_90 (by decide) (fun c_10 => ?_) (fun c_10 => ?_)
      · refine lv_iload_n C.1 C.2.1 dX4_isBefore_106 rfl (lv_at hl 3 rfl) ?_
        refine lv_iload_n C.1 C.2.1 dX4_isBefore_107 rfl (lv_at hl 4 rfl) ?_
        refine lv_icmp_ge (tgt := 115) C.1 C.2.1 dX4_isBefore_108 (by decide) (fun c_11 => ?_) (fun c_11 => ?_)
        · rw [nI_leI (a := j) (b := i) (by omega) (by omega)] at c_11
          refine lv_iconst (v := nI 0) C.1 C.2.1 dX4_isBefore_115 (by decide) ?_
          exact hE _ _ _ _ _ hH (by (try simp only [← Int32.not_lt, ← Nat.not_lt, Classical.not_not] at c_1); (try simp only [← Int32.not_lt, ← Nat.not_lt, Classical.not_not] at c_9); (try simp only [← Int32.not_lt, ← Nat.not_lt, Classical.not_not] at c_10); (try simp only [← Int32.not_lt, ← Nat.not_lt, Classical.not_not] at c_11); simp only [xb, befM, kA, kB, decide_true, decide_false, decide_not, Bool.false_eq_true, Bool.not_true, Bool.not_false, c_1, c_9, c_10, c_11, and_self, and_true, true_and, and_false, false_and, or_true, true_or, or_false, false_or, not_true_eq_false, not_false_eq_true, Classical.not_not, if_true, if_false, reduceIte]) (by decide) dX4_isBefore_116
        · rw [nI_leI (a := j) (b := i) (by omega) (by omega)] at c_11
          refine lv_iconst (v := nI 1) C.1 C.2.1 dX4_isBefore_111 (by decide) ?_
          refine lv_goto (tgt := 116) C.1 C.2.1 dX4_isBefore_112 (by decide) ?_
          exact hE _ _ _ _ _ hH (by (try simp only [← Int32.not_lt, ← Nat.not_lt, Classical.not_not] at c_1); (try simp only [← Int32.not_lt, ← Nat.not_lt, Classical.not_not] at c_9); (try simp only [← Int32.not_lt, ← Nat.not_lt, Classical.not_not] at c_10); (try simp only [← Int32.not_lt, ← Nat.not_lt, Classical.not_not] at c_11); simp only [xb, befM, kA, kB, decide_true, decide_false, decide_not, Bool.false_eq_true, Bool.not_true, Bool.not_false, c_1, c_9, c_10, c_11, and_self, and_true, true_and, and_false, false_and, or_true, true_or, or_false, false_or, not_true_eq_false, not_false_eq_true, Classical.not_not, if_true, if_false, reduceIte]) (by decide) dX4_isBefore_116
      · refine lv_iload C.1 C.2.1 dX4_isBefore_93 (lv_at hl 0 rfl) ?_
        refine lv_if_ge (tgt := 102) C.1 C.2.1 dX4_isBefore_95 (by decide) (fun c_12 => ?_) (fun c_12 => ?_)
        · refine lv_iconst (v := nI 0) C.1 C.2.1 dX4_isBefore_102 (by decide) ?_
          refine lv_goto (tgt := 116) C.1 C.2.1 dX4_isBefore_103 (by decide) ?_
          exact hE _ _ _ _ _ hH (by (try simp only [← Int32.not_lt, ← Nat.not_lt, Classical.not_not] at c_1); (try simp only [← Int32.not_lt, ← Nat.not_lt, Classical.not_not] at c_9); (try simp only [← Int32.not_lt, ← Nat.not_lt, Classical.not_not] at c_10); (try simp only [← Int32.not_lt, ← Nat.not_lt, Classical.not_not] at c_12); simp only [xb, befM, kA, kB, decide_true, decide_false, decide_not, Bool.false_eq_true, Bool.not_true, Bool.not_false, c_1, c_9, c_10, c_12, and_self, and_true, true_and, and_false, false_and, or_true, true_or, or_false, false_or, not_true_eq_false, not_false_eq_true, Classical.not_not, if_true, if_false, reduceIte]) (by decide) dX4_isBefore_116
        · refine lv_iconst (v := nI 1) C.1 C.2.1 dX4_isBefore_98 (by decide) ?_
          refine lv_goto (tgt := 116) C.1 C.2.1 dX4_isBefore_99 (by decide) ?_
          exact hE _ _ _ _ _ hH (by (try simp only [← Int32.not_lt, ← Nat.not_lt, Classical.not_not] at c_1); (try simp only [← Int32.not_lt, ← Nat.not_lt, Classical.not_not] at c_9); (try simp only [← Int32.not_lt, ← Nat.not_lt, Classical.not_not] at c_10); (try simp only [← Int32.not_lt, ← Nat.not_lt, Classical.not_not] at c_12); simp only [xb, befM, kA, kB, decide_true, decide_false, decide_not, Bool.false_eq_true, Bool.not_true, Bool.not_false, c_1, c_9, c_10, c_12, and_self, and_true, true_and, and_false, false_and, or_true, true_or, or_false, false_or, not_true_eq_false, not_false_eq_true, Classical.not_not, if_true, if_false, reduceIte]) (by decide) dX4_isBefore_116
    · refine lv_iload C.1 C.2.1 dX4_isBefore_75 (lv_at hl 1 rfl) ?_
      refine lv_if_ge (tgt := 84) C.1 C.2.1 dX4_isBefore_77 (by decide) (fun c_13 => ?_) (fun c_13 => ?_)
      · refine lv_iconst (v := nI 0) C.1 C.2.1 dX4_isBefore_84 (by decide) ?_
        refine lv_goto (tgt := 116) C.1 C.2.1 dX4_isBefore_85 (by decide) ?_
        exact hE _ _ _ _ _ hH (by (try simp only [← Int32.not_lt, ← Nat.not_lt, Classical.not_not] at c_1); (try simp only [← Int32.not_lt, ← Nat.not_lt, Classical.not_not] at c_9); (try simp only [← Int32.not_lt, ← Nat.not_lt, Classical.not_not] at c_13); simp only [xb, befM, kA, kB, decide_true, decide_false, decide_not, Bool.false_eq_true, Bool.not_true, Bool.not_false, c_1, c_9, c_13, and_self, and_true, true_and, and_false, false_and, or_true, true_or, or_false, false_or, not_true_eq_false, not_false_eq_true, Classical.not_not, if_true, if_false, reduceIte]) (by decide) dX4_isBefore_116
      · refine lv_iconst (v := nI 1) C.1 C.2.1 dX4_isBefore_80 (by decide) ?_
        refine lv_goto (tgt := 116) C.1 C.2.1 dX4_isBefore_81 (by decide) ?_
        exact hE _ _ _ _ _ hH (by (try simp only [← Int32.not_lt, ← Nat.not_lt, Classical.not_not] at c_1); (try simp only [← Int32.not_lt, ← Nat.not_lt, Classical.not_not] at c_9); (try simp only [← Int32.not_lt, ← Nat.not_lt, Classical.not_not] at c_13); simp only [xb, befM, kA, kB, decide_true, decide_false, decide_not, Bool.false_eq_true, Bool.not_true, Bool.not_false, c_1, c_9, c_13, and_self, and_true, true_and, and_false, false_and, or_true, true_or, or_false, false_or, not_true_eq_false, not_false_eq_true, Classical.not_not, if_true, if_false, reduceIte]) (by decide) dX4_isBefore_116
set_option maxHeartbeats 400000 in
set_option maxRecDepth 100000 in
theorem c_X4_sort (l : Launch) (G : xG) (a : Nat → Nat) (S T K Z : Nat → Nat → Int32) (L : Nat → Nat → Int64) (F : Nat → Int32) (g : Nat → Nat) (f t : Nat) (bx : Bool) (hg0 : ∀ k, g k < 10) (hft : f < t) (ht : t ≤ 10) : xMv l yX4_sort wsX4_sort { frames := 1, cells := 0, slots := 0, locals := 25 } [.ref (a 0), .int (nI f), .int (nI t), .int (xb (bx = true))] G (wM G a S ((tS T 11 (rw g))) K Z L F) (wM G a S ((tS T 11 (rw (srtF (befM (kA S bx) (kB S bx)) f (t - (f + 1)) (f + 1) g)))) K Z L F) 0 0 := by
  refine x_ofv (cc := cX4_sort) (maxL := 7) (by decide) rfl (Nat.le_of_ble_eq_true rfl) ?_
  intro p e s m args below meth c ls A Q C hml hA hH hl hE
  have hl : lv_has ls 7 [(0, .ref (a 0)), (1, .int (nI f)), (2, .int (nI t)), (3, .int (xb (bx = true)))] := hl
  have inX4 : ∀ w ∈ wsX40, w ∈ wsX4_sort := fun _ h => (List.mem_cons_of_mem _ (List.mem_append_right _ h))
  refine lv_iload_n C.1 C.2.1 dX4_sort_0 rfl (lv_at hl 1 rfl) ?_
  refine lv_iconst (v := nI 1) C.1 C.2.1 dX4_sort_1 (by decide) ?_
  refine lv_iadd C.1 C.2.1 dX4_sort_2 ?_
  refine x_toi (nI_add f 1) ?_
  refine lv_istore (lv' := [(4, .int (nI (f + 1))), (0, .ref (a 0)), (1, .int (nI f)), (2, .int (nI t)), (3, .int (xb (bx = true)))]) C.1 C.2.1 dX4_sort_3 hl (by decide) rfl (fun ls hl => ?_)
  have lp : ∀ (n : Nat) (i : Nat) (g1 : Nat → Nat) (H : Heap) (locs : List Loc) (ls : Array Slot), i + n = t → f < i → (∀ k, g1 k < 10) → srtF (befM (kA S bx) (kB S bx)) f n i g1 = srtF (befM (kA S bx) (kB S bx)) f (t - (f + 1)) (f + 1) g → xH G A s.heap H locs (wM G a S ((tS T 11 (rw g1))) K Z L F) → lv_has ls 7 [(0, .ref (a 0)), (1, .int (nI f)), (2, .int (nI t)), (3, .int (xb (bx = true))), (4, .int (nI i))] → W p l e ({ frames := 1, cells := 0, slots := 0, locals := 25 }) s m args below meth c H locs 0 0 Q (F0 m 5 ls []) := by
    intro n
    induction n with
    | zero =>
      intro i g1 H locs ls hin hfi hg hf hH hl
      refine lv_iload C.1 C.2.1 dX4_sort_5 (lv_at hl 4 rfl) ?_
      refine lv_iload_n C.1 C.2.1 dX4_sort_7 rfl (lv_at hl 2 rfl) ?_
      refine lv_icmp_ge (tgt := 86) C.1 C.2.1 dX4_sort_8 (by decide) (fun _ => ?_) (fun c_1 => absurd ((nI_leI (a := t) (b := i) (by omega) (by omega)).mpr (by omega)) c_1)
      have hH := x_eqw (w' := wM G a S ((tS T 11 (rw (srtF (befM (kA S bx) (kB S bx)) f (t - (f + 1)) (f + 1) g)))) K Z L F) (by rw [← hf]; rfl) hH
      exact hE _ _ _ _ hH dX4_sort_86
    | succ n ih5 =>
      intro i g1 H locs ls hin hfi hg hf hH hl
      refine lv_iload C.1 C.2.1 dX4_sort_5 (lv_at hl 4 rfl) ?_
      refine lv_iload_n C.1 C.2.1 dX4_sort_7 rfl (lv_at hl 2 rfl) ?_
      refine lv_icmp_ge (tgt := 86) C.1 C.2.1 dX4_sort_8 (by decide) (fun c_2 => absurd ((nI_leI (a := t) (b := i) (by omega) (by omega)).mp c_2) (by omega)) (fun _ => ?_)
      refine lv_aload_n C.1 C.2.1 dX4_sort_11 rfl (lv_at hl 0 rfl) ?_
      refine x_get (C := RX4) (T := TX4) (N := 37) (v := .ref (a 18)) C inX4 hH 0 gM_0 rfl 28 (by decide) rfl rfl 1 rfl dX4_sort_12 ?_
      refine lv_iload C.1 C.2.1 dX4_sort_15 (lv_at hl 4 rfl) ?_
      refine x_iald (f := rw g1) (j := i) (v := nI (g1 i)) C hH 18 gM_18 (by omega) (by decide) (rfl) dX4_sort_17 ?_
      refine lv_istore (lv' := [(5, .int (nI (g1 i))), (0, .ref (a 0)), (1, .int (nI f)), (2, .int (nI t)), (3, .int (xb (bx = true))), (4, .int (nI i))]) C.1 C.2.1 dX4_sort_18 hl (by decide) rfl (fun ls hl => ?_)
      refine lv_iload C.1 C.2.1 dX4_sort_20 (lv_at hl 5 rfl) ?_
      refine lv_istore (lv' := [(6, .int (nI i)), (5, .int (nI (g1 i))), (0, .ref (a 0)), (1, .int (nI f)), (2, .int (nI t)), (3, .int (xb (bx = true))), (4, .int (nI i))]) C.1 C.2.1 dX4_sort_22 hl (by decide) rfl (fun ls hl => ?_)
      have lq : ∀ (n : Nat) (g2 : Nat → Nat) (H : Heap) (locs : List Loc) (ls : Array Slot), n ≤ i → (∀ k, g2 k < 10) → insF (befM (kA S bx) (kB S bx)) (g1 i) f n g2 = insF (befM (kA S bx) (kB S bx)) (g1 i) f i g1 → xH G A s.heap H locs (wM G a S ((tS T 11 (rw g2))) K Z L F) → lv_has ls 7 [(0, .ref (a 0)), (1, .int (nI f)), (2, .int (nI t)), (3, .int (xb (bx = true))), (4, .int (nI i)), (5, .int (nI (g1 i))), (6, .int (nI n))] → W p l e ({ frames := 1, cells := 0, slots := 0, locals := 25 }) s m args below meth c H locs 0 0 Q (F0 m 24 ls []) := by
        intro n
        induction n with
        | zero =>
          intro g2 H locs ls hq hg2 hi2 hH hl
          refine lv_iload C.1 C.2.1 dX4_sort_24 (lv_at hl 6 rfl) ?_
          refine lv_iload_n C.1 C.2.1 dX4_sort_26 rfl (lv_at hl 1 rfl) ?_
          refine lv_icmp_le (tgt := 71) C.1 C.2.1 dX4_sort_27 (by decide) (fun _ => ?_) (fun c_3 => absurd ((nI_leI (a := 0) (b := f) (by omega) (by omega)).mpr (by omega)) c_3)
          refine lv_aload_n C.1 C.2.1 dX4_sort_71 rfl (lv_at hl 0 rfl) ?_
          refine x_get (C := RX4) (T := TX4) (N := 37) (v := .ref (a 18)) C inX4 hH 0 gM_0 rfl 28 (by decide) rfl rfl 1 rfl dX4_sort_72 ?_
          refine lv_iload C.1 C.2.1 dX4_sort_75 (lv_at hl 6 rfl) ?_
          refine lv_iload C.1 C.2.1 dX4_sort_77 (lv_at hl 5 rfl) ?_
          refine x_iast (f := rw g2) (j := 0) (x := nI (g1 i)) (w' := wM G a S ((tS T 11 (upd (rw g2) 0 (nI (g1 i))))) K Z L F) C hH 18 gM_18 (by omega) (by decide) sM_18 dX4_sort_79 (fun H locs hH => ?_)
          have hH := x_eqw (w' := wM G a S ((tS T 11 (rw (updN g2 0 (g1 i))))) K Z L F) (by rw [upd_rw]) hH
          refine lv_iinc (v := nI (i + 1)) (lv' := [(4, .int (nI (i + 1))), (0, .ref (a 0)), (1, .int (nI f)), (2, .int (nI t)), (3, .int (xb (bx = true))), (5, .int (nI (g1 i))), (6, .int (nI 0))]) C.1 C.2.1 dX4_sort_80 hl (k := 4) rfl (nI_add i 1) (by decide) rfl (fun ls hl => ?_)
          refine lv_goto (tgt := 5) C.1 C.2.1 dX4_sort_83 (by decide) ?_
          have hH := x_eqw (w' := wM G a S ((tS T 11 (rw (insF (befM (kA S bx) (kB S bx)) (g1 i) f i g1)))) K Z L F) (by rw [← hi2]; first | done | rfl) hH
          exact ih5 (i + 1) (insF (befM (kA S bx) (kB S bx)) (g1 i) f i g1) _ _ _ (by omega) (by omega) (insF_lt hg (hg _)) (hf) hH (lv_sub hl [1, 2, 3, 4, 0] rfl)
        | succ n ih24 =>
          intro g2 H locs ls hq hg2 hi2 hH hl
          refine lv_iload C.1 C.2.1 dX4_sort_24 (lv_at hl 6 rfl) ?_
          refine lv_iload_n C.1 C.2.1 dX4_sort_26 rfl (lv_at hl 1 rfl) ?_
          refine lv_icmp_le (tgt := 71) C.1 C.2.1 dX4_sort_27 (by decide) (fun c_4 => ?_) (fun c_4 => ?_)
          · rw [nI_leI (a := n + 1) (b := f) (by omega) (by omega)] at c_4
            rw [insF, if_neg (show ¬ (f < n + 1 ∧ (befM (kA S bx) (kB S bx)) (g1 i) (g2 n) = true) from fun h9 => absurd h9.1 (by omega))] at hi2
            refine lv_aload_n C.1 C.2.1 dX4_sort_71 rfl (lv_at hl 0 rfl) ?_
            refine x_get (C := RX4) (T := TX4) (N := 37) (v := .ref (a 18)) C inX4 hH 0 gM_0 rfl 28 (by decide) rfl rfl 1 rfl dX4_sort_72 ?_
            refine lv_iload C.1 C.2.1 dX4_sort_75 (lv_at hl 6 rfl) ?_
            refine lv_iload C.1 C.2.1 dX4_sort_77 (lv_at hl 5 rfl) ?_
            refine x_iast (f := rw g2) (j := n + 1) (x := nI (g1 i)) (w' := wM G a S ((tS T 11 (upd (rw g2) (n + 1) (nI (g1 i))))) K Z L F) C hH 18 gM_18 (by omega) (by decide) sM_18 dX4_sort_79 (fun H locs hH => ?_)
            have hH := x_eqw (w' := wM G a S ((tS T 11 (rw (updN g2 (n + 1) (g1 i))))) K Z L F) (by rw [upd_rw]) hH
            refine lv_iinc (v := nI (i + 1)) (lv' := [(4, .int (nI (i + 1))), (0, .ref (a 0)), (1, .int (nI f)), (2, .int (nI t)), (3, .int (xb (bx = true))), (5, .int (nI (g1 i))), (6, .int (nI (n + 1)))]) C.1 C.2.1 dX4_sort_80 hl (k := 4) rfl (nI_add i 1) (by decide) rfl (fun ls hl => ?_)
            refine lv_goto (tgt := 5) C.1 C.2.1 dX4_sort_83 (by decide) ?_
            have hH := x_eqw (w' := wM G a S ((tS T 11 (rw (insF (befM (kA S bx) (kB S bx)) (g1 i) f i g1)))) K Z L F) (by rw [← hi2]; first | done | rfl) hH
            exact ih5 (i + 1) (insF (befM (kA S bx) (kB S bx)) (g1 i) f i g1) _ _ _ (by omega) (by omega) (insF_lt hg (hg _)) (hf) hH (lv_sub hl [1, 2, 3, 4, 0] rfl)
          · rw [nI_leI (a := n + 1) (b := f) (by omega) (by omega)] at c_4
            have hb1 := hg i
            have hb2 := hg2 n
            refine lv_aload_n C.1 C.2.1 dX4_sort_30 rfl (lv_at hl 0 rfl) ?_
            refine lv_iload C.1 C.2.1 dX4_sort_31 (lv_at hl 5 rfl) ?_
            refine lv_aload_n C.1 C.2.1 dX4_sort_33 rfl (lv_at hl 0 rfl) ?_
            refine x_get (C := RX4) (T := TX4) (N := 37) (v := .ref (a 18)) C inX4 hH 0 gM_0 rfl 28 (by decide) rfl rfl 1 rfl dX4_sort_34 ?_
            refine lv_iload C.1 C.2.1 dX4_sort_37 (lv_at hl 6 rfl) ?_
            refine lv_iconst (v := nI 1) C.1 C.2.1 dX4_sort_39 (by decide) ?_
            refine lv_isub C.1 C.2.1 dX4_sort_40 ?_
            refine x_toi (pk_sub (a := n + 1) (b := 1) (by omega)) ?_
            refine x_iald (f := rw g2) (j := n) (v := nI (g2 n)) C hH 18 gM_18 (by omega) (by decide) (rfl) dX4_sort_41 ?_
            refine lv_iload_n C.1 C.2.1 dX4_sort_42 rfl (lv_at hl 3 rfl) ?_
            refine x_ci (w' := wM G a S ((tS T 11 (rw g2))) K Z L F) (va_runV (As := [.int (nI (g1 i)), .int (nI (g2 n)), .int (xb (bx = true))]) (rest := []) (x_fix C hml) (c_X4_isBefore l G a S ((tS T 11 (rw g2))) K Z L F (g1 i) (g2 n) bx (by omega) (by omega) _) (cwV 3 C.2.2.2.1 gX4_sort_X4_isBefore rfl rfl rfl (by decide +kernel) ⟨Nat.le_of_ble_eq_true rfl, Nat.le_of_ble_eq_true rfl⟩) (x_pv C hH rfl gM_0 rfl rfl) rfl rfl hl.1 rfl (lv_room (Nat.le_of_ble_eq_true rfl)) dX4_sort_43 ⟨Nat.le_of_ble_eq_true rfl, Nat.le_of_ble_eq_true rfl⟩) hH hA (fun H locs hH => ?_)
            refine lv_if_eq (tgt := 71) C.1 C.2.1 dX4_sort_46 (by decide) (fun c_5 => ?_) (fun c_5 => ?_)
            · rw [xb_0] at c_5
              rw [insF, if_neg (show ¬ (f < n + 1 ∧ (befM (kA S bx) (kB S bx)) (g1 i) (g2 n) = true) from fun h9 => c_5 h9.2)] at hi2
              refine lv_aload_n C.1 C.2.1 dX4_sort_71 rfl (lv_at hl 0 rfl) ?_
              refine x_get (C := RX4) (T := TX4) (N := 37) (v := .ref (a 18)) C inX4 hH 0 gM_0 rfl 28 (by decide) rfl rfl 1 rfl dX4_sort_72 ?_
              refine lv_iload C.1 C.2.1 dX4_sort_75 (lv_at hl 6 rfl) ?_
              refine lv_iload C.1 C.2.1 dX4_sort_77 (lv_at hl 5 rfl) ?_
              refine x_iast (f := rw g2) (j := n + 1) (x := nI (g1 i)) (w' := wM G a S ((tS T 11 (upd (rw g2) (n + 1) (nI (g1 i))))) K Z L F) C hH 18 gM_18 (by omega) (by decide) sM_18 dX4_sort_79 (fun H locs hH => ?_)
              have hH := x_eqw (w' := wM G a S ((tS T 11 (rw (updN g2 (n + 1) (g1 i))))) K Z L F) (by rw [upd_rw]) hH
              refine lv_iinc (v := nI (i + 1)) (lv' := [(4, .int (nI (i + 1))), (0, .ref (a 0)), (1, .int (nI f)), (2, .int (nI t)), (3, .int (xb (bx = true))), (5, .int (nI (g1 i))), (6, .int (nI (n + 1)))]) C.1 C.2.1 dX4_sort_80 hl (k := 4) rfl (nI_add i 1) (by decide) rfl (fun ls hl => ?_)
              refine lv_goto (tgt := 5) C.1 C.2.1 dX4_sort_83 (by decide) ?_
              have hH := x_eqw (w' := wM G a S ((tS T 11 (rw (insF (befM (kA S bx) (kB S bx)) (g1 i) f i g1)))) K Z L F) (by rw [← hi2]; first | done | rfl) hH
              exact ih5 (i + 1) (insF (befM (kA S bx) (kB S bx)) (g1 i) f i g1) _ _ _ (by omega) (by omega) (insF_lt hg (hg _)) (hf) hH (lv_sub hl [1, 2, 3, 4, 0] rfl)
            · rw [xb_0] at c_5
              have c_5 := Classical.not_not.mp c_5
              have c_B := c_5
              refine lv_aload_n C.1 C.2.1 dX4_sort_49 rfl (lv_at hl 0 rfl) ?_
              refine x_get (C := RX4) (T := TX4) (N := 37) (v := .ref (a 18)) C inX4 hH 0 gM_0 rfl 28 (by decide) rfl rfl 1 rfl dX4_sort_50 ?_
              refine lv_iload C.1 C.2.1 dX4_sort_53 (lv_at hl 6 rfl) ?_
              refine lv_aload_n C.1 C.2.1 dX4_sort_55 rfl (lv_at hl 0 rfl) ?_
              refine x_get (C := RX4) (T := TX4) (N := 37) (v := .ref (a 18)) C inX4 hH 0 gM_0 rfl 28 (by decide) rfl rfl 1 rfl dX4_sort_56 ?_
              refine lv_iload C.1 C.2.1 dX4_sort_59 (lv_at hl 6 rfl) ?_
              refine lv_iconst (v := nI 1) C.1 C.2.1 dX4_sort_61 (by decide) ?_
              refine lv_isub C.1 C.2.1 dX4_sort_62 ?_
              refine x_toi (pk_sub (a := n + 1) (b := 1) (by omega)) ?_
              refine x_iald (f := rw g2) (j := n) (v := nI (g2 n)) C hH 18 gM_18 (by omega) (by decide) (rfl) dX4_sort_63 ?_
              refine x_iast (f := rw g2) (j := n + 1) (x := nI (g2 n)) (w' := wM G a S ((tS T 11 (upd (rw g2) (n + 1) (nI (g2 n))))) K Z L F) C hH 18 gM_18 (by omega) (by decide) sM_18 dX4_sort_64 (fun H locs hH => ?_)
              have hH := x_eqw (w' := wM G a S ((tS T 11 (rw (updN g2 (n + 1) (g2 n))))) K Z L F) (by rw [upd_rw]) hH
              refine lv_iinc (v := nI n) (lv' := [(6, .int (nI n)), (0, .ref (a 0)), (1, .int (nI f)), (2, .int (nI t)), (3, .int (xb (bx = true))), (4, .int (nI i)), (5, .int (nI (g1 i)))]) C.1 C.2.1 dX4_sort_65 hl (k := 6) rfl (pk_m1 n) (by decide) rfl (fun ls hl => ?_)
              refine lv_goto (tgt := 24) C.1 C.2.1 dX4_sort_68 (by decide) ?_
              exact ih24 (updN g2 (n + 1) (g2 n)) _ _ _ (by omega) (fun k => by unfold updN; split; exact hg2 _; exact hg2 _) (by rw [insF, if_pos (show f < n + 1 ∧ (befM (kA S bx) (kB S bx)) (g1 i) (g2 n) = true from ⟨by omega, c_B⟩)] at hi2; exact hi2) hH (lv_sub hl [1, 2, 3, 4, 5, 6, 0] rfl)
      exact lq (i) g1 _ _ _ (by omega) (hg) (rfl) hH (lv_sub hl [2, 3, 4, 5, 6, 1, 0] rfl)
  exact lp (t - (f + 1)) (f + 1) g _ _ _ (by omega) (by omega) (hg0) (rfl) hH (lv_sub hl [1, 2, 3, 4, 0] rfl)
set_option maxHeartbeats 400000 in
set_option maxRecDepth 100000 in
theorem c_X4_push (l : Launch) (G : xG) (a : Nat → Nat) (S T Z : Nat → Nat → Int32) (L : Nat → Nat → Int64) (F : Nat → Int32) (q : Nat → Nat → Nat) (x y z tp : Nat) (h : tp < 12) : xMv l yX4_push wsX4_push { frames := 0, cells := 0, slots := 0, locals := 0 } [.ref (a 0), .int (nI x), .int (nI y), .int (nI z)] G (wM G a S T (kw q) Z L ((tS F 5 (nI tp)))) (wM G a S T (kw (pushK q tp x y z)) Z L ((tS F 5 (nI (tp + 1))))) 0 0 := by
  refine x_ofv (cc := cX4_push) (maxL := 4) (by decide) rfl (Nat.le_of_ble_eq_true rfl) ?_
  intro p e s m args below meth c ls A Q C hml hA hH hl hE
  have hl : lv_has ls 4 [(0, .ref (a 0)), (1, .int (nI x)), (2, .int (nI y)), (3, .int (nI z))] := hl
  have inX4 : ∀ w ∈ wsX40, w ∈ wsX4_push := fun _ h => (List.mem_cons_of_mem _ (List.mem_append_right _ h))
  refine lv_aload_n C.1 C.2.1 dX4_push_0 rfl (lv_at hl 0 rfl) ?_
  refine x_get (C := RX4) (T := TX4) (N := 37) (v := .ref (a 19)) C inX4 hH 0 gM_0 rfl 30 (by decide) rfl rfl 1 rfl dX4_push_1 ?_
  refine lv_aload_n C.1 C.2.1 dX4_push_4 rfl (lv_at hl 0 rfl) ?_
  refine x_get (C := RX4) (T := TX4) (N := 37) (v := .int (nI tp)) C inX4 hH 0 gM_0 rfl 29 (by decide) rfl rfl 2 rfl dX4_push_5 ?_
  refine lv_iload_n C.1 C.2.1 dX4_push_8 rfl (lv_at hl 1 rfl) ?_
  refine x_iast (f := (kw q) 0) (j := tp) (x := nI x) (w' := wM G a S T ((tS (kw q) 0 (upd ((kw q) 0) tp (nI x)))) Z L ((tS F 5 (nI tp)))) C hH 19 gM_19 (by omega) (by decide) sM_19 dX4_push_9 (fun H locs hH => ?_)
  have hH := x_eqw (w' := wM G a S T (kw (tS q 0 (updN (q 0) tp x))) Z L ((tS F 5 (nI tp)))) (by rw [kw_up]) hH
  refine lv_aload_n C.1 C.2.1 dX4_push_10 rfl (lv_at hl 0 rfl) ?_
  refine x_get (C := RX4) (T := TX4) (N := 37) (v := .ref (a 20)) C inX4 hH 0 gM_0 rfl 31 (by decide) rfl rfl 3 rfl dX4_push_11 ?_
  refine lv_aload_n C.1 C.2.1 dX4_push_14 rfl (lv_at hl 0 rfl) ?_
  refine x_get (C := RX4) (T := TX4) (N := 37) (v := .int (nI tp)) C inX4 hH 0 gM_0 rfl 29 (by decide) rfl rfl 2 rfl dX4_push_15 ?_
  refine lv_iload_n C.1 C.2.1 dX4_push_18 rfl (lv_at hl 2 rfl) ?_
  refine x_iast (f := (kw (tS q 0 (updN (q 0) tp x))) 1) (j := tp) (x := nI y) (w' := wM G a S T ((tS (kw (tS q 0 (updN (q 0) tp x))) 1 (upd ((kw (tS q 0 (updN (q 0) tp x))) 1) tp (nI y)))) Z L ((tS F 5 (nI tp)))) C hH 20 gM_20 (by omega) (by decide) sM_20 dX4_push_19 (fun H locs hH => ?_)
  have hH := x_eqw (w' := wM G a S T (kw (tS (tS q 0 (updN (q 0) tp x)) 1 (updN ((tS q 0 (updN (q 0) tp x)) 1) tp y))) Z L ((tS F 5 (nI tp)))) (by rw [kw_up]) hH
  refine lv_aload_n C.1 C.2.1 dX4_push_20 rfl (lv_at hl 0 rfl) ?_
  refine x_get (C := RX4) (T := TX4) (N := 37) (v := .ref (a 21)) C inX4 hH 0 gM_0 rfl 32 (by decide) rfl rfl 4 rfl dX4_push_21 ?_
  refine lv_aload_n C.1 C.2.1 dX4_push_24 rfl (lv_at hl 0 rfl) ?_
  refine x_get (C := RX4) (T := TX4) (N := 37) (v := .int (nI tp)) C inX4 hH 0 gM_0 rfl 29 (by decide) rfl rfl 2 rfl dX4_push_25 ?_
  refine lv_iload_n C.1 C.2.1 dX4_push_28 rfl (lv_at hl 3 rfl) ?_
  refine x_iast (f := (kw (tS (tS q 0 (updN (q 0) tp x)) 1 (updN ((tS q 0 (updN (q 0) tp x)) 1) tp y))) 2) (j := tp) (x := nI z) (w' := wM G a S T ((tS (kw (tS (tS q 0 (updN (q 0) tp x)) 1 (updN ((tS q 0 (updN (q 0) tp x)) 1) tp y))) 2 (upd ((kw (tS (tS q 0 (updN (q 0) tp x)) 1 (updN ((tS q 0 (updN (q 0) tp x)) 1) tp y))) 2) tp (nI z)))) Z L ((tS F 5 (nI tp)))) C hH 21 gM_21 (by omega) (by decide) sM_21 dX4_push_29 (fun H locs hH => ?_)
  have hH := x_eqw (w' := wM G a S T (kw (tS (tS (tS q 0 (updN (q 0) tp x)) 1 (updN ((tS q 0 (updN (q 0) tp x)) 1) tp y)) 2 (updN ((tS (tS q 0 (updN (q 0) tp x)) 1 (updN ((tS q 0 (updN (q 0) tp x)) 1) tp y)) 2) tp z))) Z L ((tS F 5 (nI tp)))) (by rw [kw_up]) hH
  refine lv_aload_n C.1 C.2.1 dX4_push_30 rfl (lv_at hl 0 rfl) ?_
  refine x_get (C := RX4) (T := TX4) (N := 37) (v := .ref (a 22)) C inX4 hH 0 gM_0 rfl 33 (by decide) rfl rfl 5 rfl dX4_push_31 ?_
  refine lv_aload_n C.1 C.2.1 dX4_push_34 rfl (lv_at hl 0 rfl) ?_
  refine x_get (C := RX4) (T := TX4) (N := 37) (v := .int (nI tp)) C inX4 hH 0 gM_0 rfl 29 (by decide) rfl rfl 2 rfl dX4_push_35 ?_
  refine lv_iconst (v := nI 0) C.1 C.2.1 dX4_push_38 (by decide) ?_
  refine x_iast (f := (kw (tS (tS (tS q 0 (updN (q 0) tp x)) 1 (updN ((tS q 0 (updN (q 0) tp x)) 1) tp y)) 2 (updN ((tS (tS q 0 (updN (q 0) tp x)) 1 (updN ((tS q 0 (updN (q 0) tp x)) 1) tp y)) 2) tp z))) 3) (j := tp) (x := nI 0) (w' := wM G a S T ((tS (kw (tS (tS (tS q 0 (updN (q 0) tp x)) 1 (updN ((tS q 0 (updN (q 0) tp x)) 1) tp y)) 2 (updN ((tS (tS q 0 (updN (q 0) tp x)) 1 (updN ((tS q 0 (updN (q 0) tp x)) 1) tp y)) 2) tp z))) 3 (upd ((kw (tS (tS (tS q 0 (updN (q 0) tp x)) 1 (updN ((tS q 0 (updN (q 0) tp x)) 1) tp y)) 2 (updN ((tS (tS q 0 (updN (q 0) tp x)) 1 (updN ((tS q 0 (updN (q 0) tp x)) 1) tp y)) 2) tp z))) 3) tp (nI 0)))) Z L ((tS F 5 (nI tp)))) C hH 22 gM_22 (by omega) (by decide) sM_22 dX4_push_39 (fun H locs hH => ?_)
  have hH := x_eqw (w' := wM G a S T (kw (tS (tS (tS (tS q 0 (updN (q 0) tp x)) 1 (updN ((tS q 0 (updN (q 0) tp x)) 1) tp y)) 2 (updN ((tS (tS q 0 (updN (q 0) tp x)) 1 (updN ((tS q 0 (updN (q 0) tp x)) 1) tp y)) 2) tp z)) 3 (updN ((tS (tS (tS q 0 (updN (q 0) tp x)) 1 (updN ((tS q 0 (updN (q 0) tp x)) 1) tp y)) 2 (updN ((tS (tS q 0 (updN (q 0) tp x)) 1 (updN ((tS q 0 (updN (q 0) tp x)) 1) tp y)) 2) tp z)) 3) tp 0))) Z L ((tS F 5 (nI tp)))) (by rw [kw_up]) hH
  refine lv_aload_n C.1 C.2.1 dX4_push_40 rfl (lv_at hl 0 rfl) ?_
  refine lv_dup C.1 C.2.1 dX4_push_41 rfl ?_
  refine x_get (C := RX4) (T := TX4) (N := 37) (v := .int (nI tp)) C inX4 hH 0 gM_0 rfl 29 (by decide) rfl rfl 2 rfl dX4_push_42 ?_
  refine lv_iconst (v := nI 1) C.1 C.2.1 dX4_push_45 (by decide) ?_
  refine lv_iadd C.1 C.2.1 dX4_push_46 ?_
  refine x_toi (nI_add tp 1) ?_
  refine x_put (C := RX4) (T := TX4) (N := 37) (v := .int (nI (tp + 1))) (w' := wM G a S T (kw (tS (tS (tS (tS q 0 (updN (q 0) tp x)) 1 (updN ((tS q 0 (updN (q 0) tp x)) 1) tp y)) 2 (updN ((tS (tS q 0 (updN (q 0) tp x)) 1 (updN ((tS q 0 (updN (q 0) tp x)) 1) tp y)) 2) tp z)) 3 (updN ((tS (tS (tS q 0 (updN (q 0) tp x)) 1 (updN ((tS q 0 (updN (q 0) tp x)) 1) tp y)) 2 (updN ((tS (tS q 0 (updN (q 0) tp x)) 1 (updN ((tS q 0 (updN (q 0) tp x)) 1) tp y)) 2) tp z)) 3) tp 0))) Z L ((tS F 5 (nI (tp + 1))))) C inX4 tyX4 tyX4_ok nmX4 hH 0 gM_0 rfl 29 (by decide) rfl rfl rfl rfl (Nat.le_of_ble_eq_true rfl) fM_0_29 2 rfl dX4_push_47 (fun H locs hH => ?_)
  have hH := x_eqw (w' := wM G a S T (kw (pushK q tp x y z)) Z L ((tS F 5 (nI (tp + 1))))) (rfl) hH
  exact hE _ _ _ _ hH dX4_push_50
