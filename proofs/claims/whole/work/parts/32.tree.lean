set_option maxHeartbeats 400000 in
set_option maxRecDepth 100000 in
theorem c_X1_append (l : Launch) (G : xG) (a : Nat → Nat) (S T : Nat → Nat → Int32) (L : Nat → Nat → Int64) (F : Nat → Int32) (bs : Int64) (x y z u : Int32) (ct : Nat) (hF4 : F 4 = nI ct) (hc : ct < 10) : xMi l yX1_append wsX1_append { frames := 0, cells := 0, slots := 0, locals := 0 } [.ref (a 1), .int x, .int y, .int z, .int u] G (wX G a S T L F bs) (nI ct) (wX G a (appS S ct x y z u) T L (tS F 4 (nI (ct + 1))) bs) 0 0 := by
  refine x_ofi (cc := cX1_append) (maxL := 6) (ty := .int) (by decide) rfl (Nat.le_of_ble_eq_true rfl) ?_
  intro p e s m args below meth c ls A Q C hml hA hH hl hE
  have hl : lv_has ls 6 [(0, .ref (a 1)), (1, .int x), (2, .int y), (3, .int z), (4, .int u)] := hl
  have inX1 : ∀ w ∈ wsX10, w ∈ wsX1_append := fun _ h => (List.mem_cons_of_mem _ (List.mem_append_right _ h))
  refine lv_aload_n C.1 C.2.1 dX1_append_0 rfl (lv_at hl 0 rfl) ?_
  refine x_get (C := RX1) (T := TX1) (N := 5) (v := .int (F 4)) C inX1 hH 1 gX_1 rfl 4 (by decide) rfl rfl 1 rfl dX1_append_1 ?_
  refine x_toi hF4 ?_
  refine lv_istore (lv' := [(5, .int (nI ct)), (0, .ref (a 1)), (1, .int x), (2, .int y), (3, .int z), (4, .int u)]) C.1 C.2.1 dX1_append_4 hl (by decide) rfl (fun ls hl => ?_)
  refine lv_aload_n C.1 C.2.1 dX1_append_6 rfl (lv_at hl 1 rfl) ?_
  refine x_get (C := RX1) (T := TX1) (N := 5) (v := .ref (a 2)) C inX1 hH 1 gX_1 rfl 0 (by decide) rfl rfl 2 rfl dX1_append_7 ?_
  refine lv_iload C.1 C.2.1 dX1_append_10 (lv_at hl 0 rfl) ?_
  refine lv_iload_n C.1 C.2.1 dX1_append_12 rfl (lv_at hl 2 rfl) ?_
  refine x_iast (f := S 0) (j := ct) (x := x) (w' := wX G a ((tS S 0 (upd (S 0) ct x))) T L F bs) C hH 2 gX_2 (by omega) (by decide) sX_2 dX1_append_13 (fun H locs hH => ?_)
  refine lv_aload_n C.1 C.2.1 dX1_append_14 rfl (lv_at hl 1 rfl) ?_
  refine x_get (C := RX1) (T := TX1) (N := 5) (v := .ref (a 3)) C inX1 hH 1 gX_1 rfl 1 (by decide) rfl rfl 3 rfl dX1_append_15 ?_
  refine lv_iload C.1 C.2.1 dX1_append_18 (lv_at hl 0 rfl) ?_
  refine lv_iload_n C.1 C.2.1 dX1_append_20 rfl (lv_at hl 3 rfl) ?_
  refine x_iast (f := S 1) (j := ct) (x := y) (w' := wX G a ((tS ((tS S 0 (upd (S 0) ct x))) 1 (upd (S 1) ct y))) T L F bs) C hH 3 gX_3 (by omega) (by decide) sX_3 dX1_append_21 (fun H locs hH => ?_)
  refine lv_aload_n C.1 C.2.1 dX1_append_22 rfl (lv_at hl 1 rfl) ?_
  refine x_get (C := RX1) (T := TX1) (N := 5) (v := .ref (a 4)) C inX1 hH 1 gX_1 rfl 2 (by decide) rfl rfl 4 rfl dX1_append_23 ?_
  refine lv_iload C.1 C.2.1 dX1_append_26 (lv_at hl 0 rfl) ?_
  refine lv_iload_n C.1 C.2.1 dX1_append_28 rfl (lv_at hl 4 rfl) ?_
  refine x_iast (f := S 2) (j := ct) (x := z) (w' := wX G a ((tS ((tS ((tS S 0 (upd (S 0) ct x))) 1 (upd (S 1) ct y))) 2 (upd (S 2) ct z))) T L F bs) C hH 4 gX_4 (by omega) (by decide) sX_4 dX1_append_29 (fun H locs hH => ?_)
  refine lv_aload_n C.1 C.2.1 dX1_append_30 rfl (lv_at hl 1 rfl) ?_
  refine x_get (C := RX1) (T := TX1) (N := 5) (v := .ref (a 5)) C inX1 hH 1 gX_1 rfl 3 (by decide) rfl rfl 5 rfl dX1_append_31 ?_
  refine lv_iload C.1 C.2.1 dX1_append_34 (lv_at hl 0 rfl) ?_
  refine lv_iload C.1 C.2.1 dX1_append_36 (lv_at hl 5 rfl) ?_
  refine x_iast (f := S 3) (j := ct) (x := u) (w' := wX G a ((tS ((tS ((tS ((tS S 0 (upd (S 0) ct x))) 1 (upd (S 1) ct y))) 2 (upd (S 2) ct z))) 3 (upd (S 3) ct u))) T L F bs) C hH 5 gX_5 (by omega) (by decide) sX_5 dX1_append_38 (fun H locs hH => ?_)
  refine lv_aload_n C.1 C.2.1 dX1_append_39 rfl (lv_at hl 1 rfl) ?_
  refine lv_iload C.1 C.2.1 dX1_append_40 (lv_at hl 0 rfl) ?_
  refine lv_iconst (v := nI 1) C.1 C.2.1 dX1_append_42 (by decide) ?_
  refine lv_iadd C.1 C.2.1 dX1_append_43 ?_
  refine x_toi (nI_add ct 1) ?_
  refine x_put (C := RX1) (T := TX1) (N := 5) (v := .int (nI (ct + 1))) (w' := wX G a ((tS ((tS ((tS ((tS S 0 (upd (S 0) ct x))) 1 (upd (S 1) ct y))) 2 (upd (S 2) ct z))) 3 (upd (S 3) ct u))) T L ((tS F 4 (nI (ct + 1)))) bs) C inX1 tyX1 tyX1_ok nmX1 hH 1 gX_1 rfl 4 (by decide) rfl rfl rfl rfl (Nat.le_of_ble_eq_true rfl) fX_1_4 1 rfl dX1_append_44 (fun H locs hH => ?_)
  refine lv_iload C.1 C.2.1 dX1_append_47 (lv_at hl 0 rfl) ?_
  have hH := x_eqw (w' := wX G a (appS S ct x y z u) T L (tS F 4 (nI (ct + 1))) bs) (rfl) hH
  exact hE _ _ _ _ _ hH (rfl) (rfl) dX1_append_49
set_option maxHeartbeats 400000 in
set_option maxRecDepth 100000 in
theorem c_X1_isBefore (l : Launch) (G : xG) (a : Nat → Nat) (S T : Nat → Nat → Int32) (L : Nat → Nat → Int64) (F : Nat → Int32) (bs : Int64) (i j : Nat) (bx : Bool) (hi : i < 10) (hj : j < 10) : xMi l yX1_isBefore wsX1_isBefore { frames := 0, cells := 0, slots := 0, locals := 0 } [.ref (a 1), .int (nI i), .int (nI j), .int (xb (bx = true))] G (wX G a S T L F bs) (xb (befB (kA S bx) (kB S bx) i j = true)) (wX G a S T L F bs) 0 0 := by
  refine x_ofi (cc := cX1_isBefore) (maxL := 8) (ty := .boolean) (by decide) rfl (Nat.le_of_ble_eq_true rfl) ?_
  intro p e s m args below meth c ls A Q C hml hA hH hl hE
  have hl : lv_has ls 8 [(0, .ref (a 1)), (1, .int (nI i)), (2, .int (nI j)), (3, .int (xb (bx = true)))] := hl
  have inX1 : ∀ w ∈ wsX10, w ∈ wsX1_isBefore := fun _ h => (List.mem_cons_of_mem _ (List.mem_append_right _ h))
  refine lv_iload_n C.1 C.2.1 dX1_isBefore_0 rfl (lv_at hl 3 rfl) ?_
  refine lv_if_eq (tgt := 13) C.1 C.2.1 dX1_isBefore_1 (by decide) (fun c_1 => ?_) (fun c_1 => ?_)
  · rw [xb_0] at c_1
    refine lv_aload_n C.1 C.2.1 dX1_isBefore_13 rfl (lv_at hl 0 rfl) ?_
    refine x_get (C := RX1) (T := TX1) (N := 5) (v := .ref (a 3)) C inX1 hH 1 gX_1 rfl 1 (by decide) rfl rfl 2 rfl dX1_isBefore_14 ?_
    refine lv_iload_n C.1 C.2.1 dX1_isBefore_17 rfl (lv_at hl 1 rfl) ?_
    refine x_iald (f := S 1) (j := i) (v := S 1 i) C hH 3 gX_3 (by omega) (by decide) (rfl) dX1_isBefore_18 ?_
    refine lv_istore (lv' := [(4, .int (S 1 i)), (0, .ref (a 1)), (1, .int (nI i)), (2, .int (nI j)), (3, .int (xb (bx = true)))]) C.1 C.2.1 dX1_isBefore_19 hl (by decide) rfl (fun ls hl => ?_)
    refine lv_iload_n C.1 C.2.1 dX1_isBefore_21 rfl (lv_at hl 4 rfl) ?_
    refine lv_if_eq (tgt := 34) C.1 C.2.1 dX1_isBefore_22 (by decide) (fun _ => ?_) (fun z8 => absurd (xb_0.mpr c_1) z8)
    refine lv_aload_n C.1 C.2.1 dX1_isBefore_34 rfl (lv_at hl 1 rfl) ?_
    refine x_get (C := RX1) (T := TX1) (N := 5) (v := .ref (a 3)) C inX1 hH 1 gX_1 rfl 1 (by decide) rfl rfl 2 rfl dX1_isBefore_35 ?_
    refine lv_iload_n C.1 C.2.1 dX1_isBefore_38 rfl (lv_at hl 3 rfl) ?_
    refine x_iald (f := S 1) (j := j) (v := S 1 j) C hH 3 gX_3 (by omega) (by decide) (rfl) dX1_isBefore_39 ?_
    refine lv_istore (lv' := [(5, .int (S 1 j)), (4, .int (S 1 i)), (0, .ref (a 1)), (1, .int (nI i)), (2, .int (nI j)), (3, .int (xb (bx = true)))]) C.1 C.2.1 dX1_isBefore_40 hl (by decide) rfl (fun ls hl => ?_)
    refine lv_iload C.1 C.2.1 dX1_isBefore_42 (lv_at hl 1 rfl) ?_
    refine lv_iload C.1 C.2.1 dX1_isBefore_44 (lv_at hl 0 rfl) ?_
    refine lv_icmp_eq (tgt := 62) C.1 C.2.1 dX1_isBefore_46 (by decide) (fun c_3 => ?_) (fun c_3 => ?_)
    · refine lv_iload_n C.1 C.2.1 dX1_isBefore_62 rfl (lv_at hl 5 rfl) ?_
      refine lv_if_eq (tgt := 75) C.1 C.2.1 dX1_isBefore_63 (by decide) (fun _ => ?_) (fun z8 => absurd (xb_0.mpr c_1) z8)
      refine lv_aload_n C.1 C.2.1 dX1_isBefore_75 rfl (lv_at hl 2 rfl) ?_
      refine x_get (C := RX1) (T := TX1) (N := 5) (v := .ref (a 2)) C inX1 hH 1 gX_1 rfl 0 (by decide) rfl rfl 1 rfl dX1_isBefore_76 ?_
      refine lv_iload_n C.1 C.2.1 dX1_isBefore_79 rfl (lv_at hl 3 rfl) ?_
      refine x_iald (f := S 0) (j := i) (v := S 0 i) C hH 2 gX_2 (by omega) (by decide) (rfl) dX1_isBefore_80 ?_
      refine lv_istore (lv' := [(6, .int (S 0 i)), (5, .int (S 1 j)), (4, .int (S 1 i)), (0, .ref (a 1)), (1, .int (nI i)), (2, .int (nI j)), (3, .int (xb (bx = true)))]) C.1 C.2.1 dX1_isBefore_81 hl (by decide) rfl (fun ls hl => ?_)
      refine lv_iload_n C.1 C.2.1 dX1_isBefore_83 rfl (lv_at hl 6 rfl) ?_
      refine lv_if_eq (tgt := 96) C.1 C.2.1 dX1_isBefore_84 (by decide) (fun _ => ?_) (fun z8 => absurd (xb_0.mpr c_1) z8)
      refine lv_aload_n C.1 C.2.1 dX1_isBefore_96 rfl (lv_at hl 3 rfl) ?_
      refine x_get (C := RX1) (T := TX1) (N := 5) (v := .ref (a 2)) C inX1 hH 1 gX_1 rfl 0 (by decide) rfl rfl 1 rfl dX1_isBefore_97 ?_
      refine lv_iload_n C.1 C.2.1 dX1_isBefore_100 rfl (lv_at hl 5 rfl) ?_
      refine x_iald (f := S 0) (j := j) (v := S 0 j) C hH 2 gX_2 (by omega) (by decide) (rfl) dX1_isBefore_101 ?_
      refine lv_istore (lv' := [(7, .int (S 0 j)), (6, .int (S 0 i)), (5, .int (S 1 j)), (4, .int (S 1 i)), (0, .ref (a 1)), (1, .int (nI i)), (2, .int (nI j)), (3, .int (xb (bx = true)))]) C.1 C.2.1 dX1_isBefore_102 hl (by decide) rfl (fun ls hl => ?_)
      refine lv_iload C.1 C.2.1 dX1_isBefore_104 (lv_at hl 1 rfl) ?_
      refine lv_iload C.1 C.2.1 dX1_isBefore_106 (lv_at hl 0 rfl) ?_
      refine lv_icmp_eq (tgt := 126) C.1 C.2.1 dX1_isBefore_108 (by decide) (fun c_6 => ?_) (fun c_6 => ?_)
      · refine lv_iload_n C.1 C.2.1 dX1_isBefore_126 rfl (lv_at hl 5 rfl) ?_
        refine lv_iload_n C.1 C.2.1 dX1_isBefore_127 rfl (lv_at hl 6 rfl) ?_
        refine lv_icmp_ge (tgt := 135) C.1 C.2.1 dX1_isBefore_128 (by decide) (fun c_7 => ?_) (fun c_7 => ?_)
        · rw [nI_leI (a := j) (b := i) (by omega) (by omega)] at c_7
          refine lv_iconst (v := nI 0) C.1 C.2.1 dX1_isBefore_135 (by decide) ?_
          exact hE _ _ _ _ _ hH (by (try simp only [← Int32.not_lt, ← Nat.not_lt, Classical.not_not] at c_1); (try simp only [← Int32.not_lt, ← Nat.not_lt, Classical.not_not] at c_3); (try simp only [← Int32.not_lt, ← Nat.not_lt, Classical.not_not] at c_6); (try simp only [← Int32.not_lt, ← Nat.not_lt, Classical.not_not] at c_7); simp only [xb, befB, kA, kB, decide_true, decide_false, decide_not, Bool.false_eq_true, Bool.not_true, Bool.not_false, c_1, c_3, c_6, c_7, and_self, and_true, true_and, and_false, false_and, or_true, true_or, or_false, false_or, not_true_eq_false, not_false_eq_true, Classical.not_not, if_true, if_false, reduceIte]) (by decide) dX1_isBefore_136
        · rw [nI_leI (a := j) (b := i) (by omega) (by omega)] at c_7
          refine lv_iconst (v := nI 1) C.1 C.2.1 dX1_isBefore_131 (by decide) ?_
          refine lv_goto (tgt := 136) C.1 C.2.1 dX1_isBefore_132 (by decide) ?_
          exact hE _ _ _ _ _ hH (by (try simp only [← Int32.not_lt, ← Nat.not_lt, Classical.not_not] at c_1); (try simp only [← Int32.not_lt, ← Nat.not_lt, Classical.not_not] at c_3); (try simp only [← Int32.not_lt, ← Nat.not_lt, Classical.not_not] at c_6); (try simp only [← Int32.not_lt, ← Nat.not_lt, Classical.not_not] at c_7); simp only [xb, befB, kA, kB, decide_true, decide_false, decide_not, Bool.false_eq_true, Bool.not_true, Bool.not_false, c_1, c_3, c_6, c_7, and_self, and_true, true_and, and_false, false_and, or_true, true_or, or_false, false_or, not_true_eq_false, not_false_eq_true, Classical.not_not, if_true, if_false, reduceIte]) (by decide) dX1_isBefore_136
      · refine lv_iload C.1 C.2.1 dX1_isBefore_111 (lv_at hl 1 rfl) ?_
        refine lv_iload C.1 C.2.1 dX1_isBefore_113 (lv_at hl 0 rfl) ?_
        refine lv_icmp_ge (tgt := 122) C.1 C.2.1 dX1_isBefore_115 (by decide) (fun c_8 => ?_) (fun c_8 => ?_)
        · refine lv_iconst (v := nI 0) C.1 C.2.1 dX1_isBefore_122 (by decide) ?_
          refine lv_goto (tgt := 136) C.1 C.2.1 dX1_isBefore_123 (by decide) ?_
          exact hE _ _ _ _ _ hH (by (try simp only [← Int32.not_lt, ← Nat.not_lt, Classical.not_not] at c_1); (try simp only [← Int32.not_lt, ← Nat.not_lt, Classical.not_not] at c_3); (try simp only [← Int32.not_lt, ← Nat.not_lt, Classical.not_not] at c_6); (try simp only [← Int32.not_lt, ← Nat.not_lt, Classical.not_not] at c_8); simp only [xb, befB, kA, kB, decide_true, decide_false, decide_not, Bool.false_eq_true, Bool.not_true, Bool.not_false, c_1, c_3, c_6, c_8, and_self, and_true, true_and, and_false, false_and, or_true, true_or, or_false, false_or, not_true_eq_false, not_false_eq_true, Classical.not_not, if_true, if_false, reduceIte]) (by decide) dX1_isBefore_136
        · refine lv_iconst (v := nI 1) C.1 C.2.1 dX1_isBefore_118 (by decide) ?_
          refine lv_goto (tgt := 136) C.1 C.2.1 dX1_isBefore_119 (by decide) ?_
          exact hE _ _ _ _ _ hH (by (try simp only [← Int32.not_lt, ← Nat.not_lt, Classical.not_not] at c_1); (try simp only [← Int32.not_lt, ← Nat.not_lt, Classical.not_not] at c_3); (try simp only [← Int32.not_lt, ← Nat.not_lt, Classical.not_not] at c_6); (try simp only [← Int32.not_lt, ← Nat.not_lt, Classical.not_not] at c_8); simp only [xb, befB, kA, kB, decide_true, decide_false, decide_not, Bool.false_eq_true, Bool.not_true, Bool.not_false, c_1, c_3, c_6, c_8, and_self, and_true, true_and, and_false, false_and, or_true, true_or, or_false, false_or, not_true_eq_false, not_false_eq_true, Classical.not_not, if_true, if_false, reduceIte]) (by decide) dX1_isBefore_136
    · refine lv_iload C.1 C.2.1 dX1_isBefore_49 (lv_at hl 1 rfl) ?_
      refine lv_iload C.1 C.2.1 dX1_isBefore_51 (lv_at hl 0 rfl) ?_
      refine lv_icmp_ge (tgt := 60) C.1 C.2.1 dX1_isBefore_53 (by decide) (fun c_9 => ?_) (fun c_9 => ?_)
      · refine lv_iconst (v := nI 0) C.1 C.2.1 dX1_isBefore_60 (by decide) ?_
        exact hE _ _ _ _ _ hH (by (try simp only [← Int32.not_lt, ← Nat.not_lt, Classical.not_not] at c_1); (try simp only [← Int32.not_lt, ← Nat.not_lt, Classical.not_not] at c_3); (try simp only [← Int32.not_lt, ← Nat.not_lt, Classical.not_not] at c_9); simp only [xb, befB, kA, kB, decide_true, decide_false, decide_not, Bool.false_eq_true, Bool.not_true, Bool.not_false, c_1, c_3, c_9, and_self, and_true, true_and, and_false, false_and, or_true, true_or, or_false, false_or, not_true_eq_false, not_false_eq_true, Classical.not_not, if_true, if_false, reduceIte]) (by decide) dX1_isBefore_61
      · refine lv_iconst (v := nI 1) C.1 C.2.1 dX1_isBefore_56 (by decide) ?_
        refine lv_goto (tgt := 61) C.1 C.2.1 dX1_isBefore_57 (by decide) ?_
        exact hE _ _ _ _ _ hH (by (try simp only [← Int32.not_lt, ← Nat.not_lt, Classical.not_not] at c_1); (try simp only [← Int32.not_lt, ← Nat.not_lt, Classical.not_not] at c_3); (try simp only [← Int32.not_lt, ← Nat.not_lt, Classical.not_not] at c_9); simp only [xb, befB, kA, kB, decide_true, decide_false, decide_not, Bool.false_eq_true, Bool.not_true, Bool.not_false, c_1, c_3, c_9, and_self, and_true, true_and, and_false, false_and, or_true, true_or, or_false, false_or, not_true_eq_false, not_false_eq_true, Classical.not_not, if_true, if_false, reduceIte]) (by decide) dX1_isBefore_61
  · rw [xb_0] at c_1
    have c_1 := Classical.not_not.mp c_1
    refine lv_aload_n C.1 C.2.1 dX1_isBefore_4 rfl (lv_at hl 0 rfl) ?_
    refine x_get (C := RX1) (T := TX1) (N := 5) (v := .ref (a 2)) C inX1 hH 1 gX_1 rfl 0 (by decide) rfl rfl 1 rfl dX1_isBefore_5 ?_
    refine lv_iload_n C.1 C.2.1 dX1_isBefore_8 rfl (lv_at hl 1 rfl) ?_
    refine x_iald (f := S 0) (j := i) (v := S 0 i) C hH 2 gX_2 (by omega) (by decide) (rfl) dX1_isBefore_9 ?_
    refine lv_goto (tgt := 19) C.1 C.2.1 dX1_isBefore_10 (by decide) ?_
    refine lv_istore (lv' := [(4, .int (S 0 i)), (0, .ref (a 1)), (1, .int (nI i)), (2, .int (nI j)), (3, .int (xb (bx = true)))]) C.1 C.2.1 dX1_isBefore_19 hl (by decide) rfl (fun ls hl => ?_)
    refine lv_iload_n C.1 C.2.1 dX1_isBefore_21 rfl (lv_at hl 4 rfl) ?_
    refine lv_if_eq (tgt := 34) C.1 C.2.1 dX1_isBefore_22 (by decide) (fun z8 => absurd z8 (fun z9 => xb_0.mp z9 c_1)) (fun _ => ?_)
    refine lv_aload_n C.1 C.2.1 dX1_isBefore_25 rfl (lv_at hl 1 rfl) ?_
    refine x_get (C := RX1) (T := TX1) (N := 5) (v := .ref (a 2)) C inX1 hH 1 gX_1 rfl 0 (by decide) rfl rfl 1 rfl dX1_isBefore_26 ?_
    refine lv_iload_n C.1 C.2.1 dX1_isBefore_29 rfl (lv_at hl 3 rfl) ?_
    refine x_iald (f := S 0) (j := j) (v := S 0 j) C hH 2 gX_2 (by omega) (by decide) (rfl) dX1_isBefore_30 ?_
    refine lv_goto (tgt := 40) C.1 C.2.1 dX1_isBefore_31 (by decide) ?_
    refine lv_istore (lv' := [(5, .int (S 0 j)), (4, .int (S 0 i)), (0, .ref (a 1)), (1, .int (nI i)), (2, .int (nI j)), (3, .int (xb (bx = true)))]) C.1 C.2.1 dX1_isBefore_40 hl (by decide) rfl (fun ls hl => ?_)
    refine lv_iload C.1 C.2.1 dX1_isBefore_42 (lv_at hl 1 rfl) ?_
    refine lv_iload C.1 C.2.1 dX1_isBefore_44 (lv_at hl 0 rfl) ?_
    refine lv_icmp_eq (tgt := 62) C.1 C.2.1 dX1_isBefore_46 (by decide) (fun c_11 => ?_) (fun c_11 => ?_)
    · refine lv_iload_n C.1 C.2.1 dX1_isBefore_62 rfl (lv_at hl 5 rfl) ?_
      refine lv_if_eq (tgt := 75) C.1 C.2.1 dX1_isBefore_63 (by decide) (fun z8 => absurd z8 (fun z9 => xb_0.mp z9 c_1)) (fun _ => ?_)
      refine lv_aload_n C.1 C.2.1 dX1_isBefore_66 rfl (lv_at hl 2 rfl) ?_
      refine x_get (C := RX1) (T := TX1) (N := 5) (v := .ref (a 3)) C inX1 hH 1 gX_1 rfl 1 (by decide) rfl rfl 2 rfl dX1_isBefore_67 ?_
      refine lv_iload_n C.1 C.2.1 dX1_isBefore_70 rfl (lv_at hl 3 rfl) ?_
      refine x_iald (f := S 1) (j := i) (v := S 1 i) C hH 3 gX_3 (by omega) (by decide) (rfl) dX1_isBefore_71 ?_
      refine lv_goto (tgt := 81) C.1 C.2.1 dX1_isBefore_72 (by decide) ?_
      refine lv_istore (lv' := [(6, .int (S 1 i)), (5, .int (S 0 j)), (4, .int (S 0 i)), (0, .ref (a 1)), (1, .int (nI i)), (2, .int (nI j)), (3, .int (xb (bx = true)))]) C.1 C.2.1 dX1_isBefore_81 hl (by decide) rfl (fun ls hl => ?_)
      refine lv_iload_n C.1 C.2.1 dX1_isBefore_83 rfl (lv_at hl 6 rfl) ?_
      refine lv_if_eq (tgt := 96) C.1 C.2.1 dX1_isBefore_84 (by decide) (fun z8 => absurd z8 (fun z9 => xb_0.mp z9 c_1)) (fun _ => ?_)
      refine lv_aload_n C.1 C.2.1 dX1_isBefore_87 rfl (lv_at hl 3 rfl) ?_
      refine x_get (C := RX1) (T := TX1) (N := 5) (v := .ref (a 3)) C inX1 hH 1 gX_1 rfl 1 (by decide) rfl rfl 2 rfl dX1_isBefore_88 ?_
      refine lv_iload_n C.1 C.2.1 dX1_isBefore_91 rfl (lv_at hl 5 rfl) ?_
      refine x_iald (f := S 1) (j := j) (v := S 1 j) C hH 3 gX_3 (by omega) (by decide) (rfl) dX1_isBefore_92 ?_
      refine lv_goto (tgt := 102) C.1 C.2.1 dX1_isBefore_93 (by decide) ?_
      refine lv_istore (lv' := [(7, .int (S 1 j)), (6, .int (S 1 i)), (5, .int (S 0 j)), (4, .int (S 0 i)), (0, .ref (a 1)), (1, .int (nI i)), (2, .int (nI j)), (3, .int (xb (bx = true)))]) C.1 C.2.1 dX1_isBefore_102 hl (by decide) rfl (fun ls hl => ?_)
      refine lv_iload C.1 C.2.1 dX1_isBefore_104 (lv_at hl 1 rfl) ?_
      refine lv_iload C.1 C.2.1 dX1_isBefore_106 (lv_at hl 0 rfl) ?_
      refine lv_icmp_eq (tgt := 126) C.1 C.2.1 dX1_isBefore_108 (by decide) (fun c_14 => ?_) (fun c_14 => ?_)
      · refine lv_iload_n C.1 C.2.1 dX1_isBefore_126 rfl (lv_at hl 5 rfl) ?_
        refine lv_iload_n C.1 C.2.1 dX1_isBefore_127 rfl (lv_at hl 6 rfl) ?_
        refine lv_icmp_ge (tgt := 135) C.1 C.2.1 dX1_isBefore_128 (by decide) (fun c_15 => ?_) (fun c_15 => ?_)
        · rw [nI_leI (a := j) (b := i) (by omega) (by omega)] at c_15
          refine lv_iconst (v := nI 0) C.1 C.2.1 dX1_isBefore_135 (by decide) ?_
          exact hE _ _ _ _ _ hH (by (try simp only [← Int32.not_lt, ← Nat.not_lt, Classical.not_not] at c_1); (try simp only [← Int32.not_lt, ← Nat.not_lt, Classical.not_not] at c_11); (try simp only [← Int32.not_lt, ← Nat.not_lt, Classical.not_not] at c_14); (try simp only [← Int32.not_lt, ← Nat.not_lt, Classical.not_not] at c_15); simp only [xb, befB, kA, kB, decide_true, decide_false, decide_not, Bool.false_eq_true, Bool.not_true, Bool.not_false, c_1, c_11, c_14, c_15, and_self, and_true, true_and, and_false, false_and, or_true, true_or, or_false, false_or, not_true_eq_false, not_false_eq_true, Classical.not_not, if_true, if_false, reduceIte]) (by decide) dX1_isBefore_136
        · rw [nI_leI (a := j) (b := i) (by omega) (by omega)] at c_15
          refine lv_iconst (v := nI 1) C.1 C.2.1 dX1_isBefore_131 (by decide) ?_
          refine lv_goto (tgt := 136) C.1 C.2.1 dX1_isBefore_132 (by decide) ?_
          exact hE _ _ _ _ _ hH (by (try simp only [← Int32.not_lt, ← Nat.not_lt, Classical.not_not] at c_1); (try simp only [← Int32.not_lt, ← Nat.not_lt, Classical.not_not] at c_11); (try simp only [← Int32.not_lt, ← Nat.not_lt, Classical.not_not] at c_14); (try simp only [← Int32.not_lt, ← Nat.not_lt, Classical.not_not] at c_15); simp only [xb, befB, kA, kB, decide_true, decide_false, decide_not, Bool.false_eq_true, Bool.not_true, Bool.not_false, c_1, c_11, c_14, c_15, and_self, and_true, true_and, and_false, false_and, or_true, true_or, or_false, false_or, not_true_eq_false, not_false_eq_true, Classical.not_not, if_true, if_false, reduceIte]) (by decide) dX1_isBefore_136
      · refine lv_iload C.1 C.2.1 dX1_isBefore_111 (lv_at hl 1 rfl) ?_
        refine lv_iload C.1 C.2.1 dX1_isBefore_113 (lv_at hl 0 rfl) ?_
        refine lv_icmp_ge (tgt := 122) C.1 C.2.1 dX1_isBefore_115 (by decide) (fun c_16 => ?_) (fun c_16 => ?_)
        · refine lv_iconst (v := nI 0) C.1 C.2.1 dX1_isBefore_122 (by decide) ?_
          refine lv_goto (tgt := 136) C.1 C.2.1 dX1_isBefore_123 (by decide) ?_
          exact hE _ _ _ _ _ hH (by (try simp only [← Int32.not_lt, ← Nat.not_lt, Classical.not_not] at c_1); (try simp only [← Int32.not_lt, ← Nat.not_lt, Classical.not_not] at c_11); (try simp only [← Int32.not_lt, ← Nat.not_lt, Classical.not_not] at c_14); (try simp only [← Int32.not_lt, ← Nat.not_lt, Classical.not_not] at c_16); simp only [xb, befB, kA, kB, decide_true, decide_false, decide_not, Bool.false_eq_true, Bool.not_true, Bool.not_false, c_1, c_11, c_14, c_16, and_self, and_true, true_and, and_false, false_and, or_true, true_or, or_false, false_or, not_true_eq_false, not_false_eq_true, Classical.not_not, if_true, if_false, reduceIte]) (by decide) dX1_isBefore_136
        · refine lv_iconst (v := nI 1) C.1 C.2.1 dX1_isBefore_118 (by decide) ?_
          refine lv_goto (tgt := 136) C.1 C.2.1 dX1_isBefore_119 (by decide) ?_
          exact hE _ _ _ _ _ hH (by (try simp only [← Int32.not_lt, ← Nat.not_lt, Classical.not_not] at c_1); (try simp only [← Int32.not_lt, ← Nat.not_lt, Classical.not_not] at c_11); (try simp only [← Int32.not_lt, ← Nat.not_lt, Classical.not_not] at c_14); (try simp only [← Int32.not_lt, ← Nat.not_lt, Classical.not_not] at c_16); simp only [xb, befB, kA, kB, decide_true, decide_false, decide_not, Bool.false_eq_true, Bool.not_true, Bool.not_false, c_1, c_11, c_14, c_16, and_self, and_true, true_and, and_false, false_and, or_true, true_or, or_false, false_or, not_true_eq_false, not_false_eq_true, Classical.not_not, if_true, if_false, reduceIte]) (by decide) dX1_isBefore_136
    · refine lv_iload C.1 C.2.1 dX1_isBefore_49 (lv_at hl 1 rfl) ?_
      refine lv_iload C.1 C.2.1 dX1_isBefore_51 (lv_at hl 0 rfl) ?_
      refine lv_icmp_ge (tgt := 60) C.1 C.2.1 dX1_isBefore_53 (by decide) (fun c_17 => ?_) (fun c_17 => ?_)
      · refine lv_iconst (v := nI 0) C.1 C.2.1 dX1_isBefore_60 (by decide) ?_
        exact hE _ _ _ _ _ hH (by (try simp only [← Int32.not_lt, ← Nat.not_lt, Classical.not_not] at c_1); (try simp only [← Int32.not_lt, ← Nat.not_lt, Classical.not_not] at c_11); (try simp only [← Int32.not_lt, ← Nat.not_lt, Classical.not_not] at c_17); simp only [xb, befB, kA, kB, decide_true, decide_false, decide_not, Bool.false_eq_true, Bool.not_true, Bool.not_false, c_1, c_11, c_17, and_self, and_true, true_and, and_false, false_and, or_true, true_or, or_false, false_or, not_true_eq_false, not_false_eq_true, Classical.not_not, if_true, if_false, reduceIte]) (by decide) dX1_isBefore_61
      · refine lv_iconst (v := nI 1) C.1 C.2.1 dX1_isBefore_56 (by decide) ?_
        refine lv_goto (tgt := 61) C.1 C.2.1 dX1_isBefore_57 (by decide) ?_
        exact hE _ _ _ _ _ hH (by (try simp only [← Int32.not_lt, ← Nat.not_lt, Classical.not_not] at c_1); (try simp only [← Int32.not_lt, ← Nat.not_lt, Classical.not_not] at c_11); (try simp only [← Int32.not_lt, ← Nat.not_lt, Classical.not_not] at c_17); simp only [xb, befB, kA, kB, decide_true, decide_false, decide_not, Bool.false_eq_true, Bool.not_true, Bool.not_false, c_1, c_11, c_17, and_self, and_true, true_and, and_false, false_and, or_true, true_or, or_false, false_or, not_true_eq_false, not_false_eq_true, Classical.not_not, if_true, if_false, reduceIte]) (by decide) dX1_isBefore_61
set_option maxHeartbeats 400000 in
set_option maxRecDepth 100000 in
theorem c_X2_joinsAbove (l : Launch) (G : xG) (a : Nat → Nat) (S T : Nat → Nat → Int32) (L : Nat → Nat → Int64) (F : Nat → Int32) (bs : Int64) (k lv nd : Nat) (hF5 : F 5 = nI lv) (hF6 : F 6 = nI nd) (hk : k < 19) (hl9 : lv ≤ nd) (hn : nd ≤ 19) : xMi l yX2_joinsAbove wsX2_joinsAbove { frames := 0, cells := 0, slots := 0, locals := 0 } [.ref (a 6), .int (nI k)] G (wX G a S T L F bs) (nI (upF T (nd - lv) lv k 0)) (wX G a S T L F bs) 0 0 := by
  refine x_ofi (cc := cX2_joinsAbove) (maxL := 5) (ty := .int) (by decide) rfl (Nat.le_of_ble_eq_true rfl) ?_
  intro p e s m args below meth c ls A Q C hml hA hH hl hE
  have hl : lv_has ls 5 [(0, .ref (a 6)), (1, .int (nI k))] := hl
  have inX2 : ∀ w ∈ wsX20, w ∈ wsX2_joinsAbove := fun _ h => (List.mem_cons_of_mem _ (List.mem_append_right _ h))
  refine lv_iload_n C.1 C.2.1 dX2_joinsAbove_0 rfl (lv_at hl 1 rfl) ?_
  refine lv_istore_n (lv' := [(2, .int (nI k)), (0, .ref (a 6)), (1, .int (nI k))]) C.1 C.2.1 dX2_joinsAbove_1 rfl hl (by decide) rfl (fun ls hl => ?_)
  refine lv_iconst (v := nI 0) C.1 C.2.1 dX2_joinsAbove_2 (by decide) ?_
  refine lv_istore_n (lv' := [(3, .int (nI 0)), (2, .int (nI k)), (0, .ref (a 6)), (1, .int (nI k))]) C.1 C.2.1 dX2_joinsAbove_3 rfl hl (by decide) rfl (fun ls hl => ?_)
  refine lv_aload_n C.1 C.2.1 dX2_joinsAbove_4 rfl (lv_at hl 2 rfl) ?_
  refine x_get (C := RX2) (T := TX2) (N := 14) (v := .int (F 5)) C inX2 hH 6 gX_6 rfl 12 (by decide) rfl rfl 1 rfl dX2_joinsAbove_5 ?_
  refine x_toi hF5 ?_
  refine lv_istore (lv' := [(4, .int (nI lv)), (3, .int (nI 0)), (2, .int (nI k)), (0, .ref (a 6)), (1, .int (nI k))]) C.1 C.2.1 dX2_joinsAbove_8 hl (by decide) rfl (fun ls hl => ?_)
  have lp : ∀ (n : Nat) (i : Nat) (q : Nat) (v : Nat) (H : Heap) (locs : List Loc) (ls : Array Slot), i + n = nd → q < 19 → v ≤ i → upF T n i q v = upF T (nd - lv) lv k 0 → xH G A s.heap H locs (wX G a S T L F bs) → lv_has ls 5 [(0, .ref (a 6)), (2, .int (nI q)), (3, .int (nI v)), (4, .int (nI i))] → W p l e ({ frames := 0, cells := 0, slots := 0, locals := 0 }) s m args below meth c H locs 0 0 Q (F0 m 10 ls []) := by
    intro n
    induction n with
    | zero =>
      intro i q v H locs ls hin hq hv hf hH hl
      refine lv_iload C.1 C.2.1 dX2_joinsAbove_10 (lv_at hl 3 rfl) ?_
      refine lv_aload_n C.1 C.2.1 dX2_joinsAbove_12 rfl (lv_at hl 0 rfl) ?_
      refine x_get (C := RX2) (T := TX2) (N := 14) (v := .int (F 6)) C inX2 hH 6 gX_6 rfl 13 (by decide) rfl rfl 2 rfl dX2_joinsAbove_13 ?_
      refine x_toi hF6 ?_
      refine lv_icmp_ge (tgt := 42) C.1 C.2.1 dX2_joinsAbove_16 (by decide) (fun _ => ?_) (fun c_1 => absurd ((nI_leI (a := nd) (b := i) (by omega) (by omega)).mpr (by omega)) c_1)
      refine lv_iload_n C.1 C.2.1 dX2_joinsAbove_42 rfl (lv_at hl 2 rfl) ?_
      exact hE _ _ _ _ _ hH (congrArg nI hf) (rfl) dX2_joinsAbove_43
    | succ n ih10 =>
      intro i q v H locs ls hin hq hv hf hH hl
      refine lv_iload C.1 C.2.1 dX2_joinsAbove_10 (lv_at hl 3 rfl) ?_
      refine lv_aload_n C.1 C.2.1 dX2_joinsAbove_12 rfl (lv_at hl 0 rfl) ?_
      refine x_get (C := RX2) (T := TX2) (N := 14) (v := .int (F 6)) C inX2 hH 6 gX_6 rfl 13 (by decide) rfl rfl 2 rfl dX2_joinsAbove_13 ?_
      refine x_toi hF6 ?_
      refine lv_icmp_ge (tgt := 42) C.1 C.2.1 dX2_joinsAbove_16 (by decide) (fun c_2 => absurd ((nI_leI (a := nd) (b := i) (by omega) (by omega)).mp c_2) (by omega)) (fun _ => ?_)
      refine lv_aload_n C.1 C.2.1 dX2_joinsAbove_19 rfl (lv_at hl 0 rfl) ?_
      refine x_get (C := RX2) (T := TX2) (N := 14) (v := .ref (a 9)) C inX2 hH 6 gX_6 rfl 2 (by decide) rfl rfl 3 rfl dX2_joinsAbove_20 ?_
      refine lv_iload_n C.1 C.2.1 dX2_joinsAbove_23 rfl (lv_at hl 1 rfl) ?_
      refine x_iald (f := T 2) (j := q) (v := T 2 q) C hH 9 gX_9 (by omega) (by decide) (rfl) dX2_joinsAbove_24 ?_
      refine lv_iload C.1 C.2.1 dX2_joinsAbove_25 (lv_at hl 3 rfl) ?_
      refine lv_icmp_ne (tgt := 36) C.1 C.2.1 dX2_joinsAbove_27 (by decide) (fun c_3 => ?_) (fun c_3 => ?_)
      · refine lv_iinc (v := nI (i + 1)) (lv' := [(4, .int (nI (i + 1))), (0, .ref (a 6)), (2, .int (nI q)), (3, .int (nI v))]) C.1 C.2.1 dX2_joinsAbove_36 hl (k := 3) rfl (nI_add i 1) (by decide) rfl (fun ls hl => ?_)
        refine lv_goto (tgt := 10) C.1 C.2.1 dX2_joinsAbove_39 (by decide) ?_
        exact ih10 (i + 1) q v _ _ _ (by omega) (by omega) (by omega) (by (try simp only [← Int32.not_lt, ← Nat.not_lt, Classical.not_not] at c_3); first | (rw [upF, if_pos c_3] at hf; exact hf) | (rw [upF, if_neg c_3] at hf; exact hf)) hH (lv_sub hl [1, 2, 3, 0] rfl)
      · refine lv_iload C.1 C.2.1 dX2_joinsAbove_30 (lv_at hl 3 rfl) ?_
        refine lv_istore_n (lv' := [(2, .int (nI i)), (0, .ref (a 6)), (3, .int (nI v)), (4, .int (nI i))]) C.1 C.2.1 dX2_joinsAbove_32 rfl hl (by decide) rfl (fun ls hl => ?_)
        refine lv_iinc (v := nI (v + 1)) (lv' := [(3, .int (nI (v + 1))), (2, .int (nI i)), (0, .ref (a 6)), (4, .int (nI i))]) C.1 C.2.1 dX2_joinsAbove_33 hl (k := 2) rfl (nI_add v 1) (by decide) rfl (fun ls hl => ?_)
        refine lv_iinc (v := nI (i + 1)) (lv' := [(4, .int (nI (i + 1))), (3, .int (nI (v + 1))), (2, .int (nI i)), (0, .ref (a 6))]) C.1 C.2.1 dX2_joinsAbove_36 hl (k := 3) rfl (nI_add i 1) (by decide) rfl (fun ls hl => ?_)
        refine lv_goto (tgt := 10) C.1 C.2.1 dX2_joinsAbove_39 (by decide) ?_
        exact ih10 (i + 1) i (v + 1) _ _ _ (by omega) (by omega) (by omega) (by (try simp only [← Int32.not_lt, ← Nat.not_lt, Classical.not_not] at c_3); first | (rw [upF, if_pos c_3] at hf; exact hf) | (rw [upF, if_neg c_3] at hf; exact hf)) hH (lv_sub hl [3, 2, 1, 0] rfl)
  exact lp (nd - lv) lv k 0 _ _ _ (by omega) (by omega) (by omega) (rfl) hH (lv_sub hl [3, 2, 1, 0] rfl)
set_option maxHeartbeats 400000 in
set_option maxRecDepth 100000 in
theorem c_X2_orderRow (l : Launch) (G : xG) (a : Nat → Nat) (S T : Nat → Nat → Int32) (L : Nat → Nat → Int64) (F : Nat → Int32) (bs : Int64) (g : Nat → Nat) (f t : Nat) (bx : Bool) (hg0 : ∀ k, g k < 10) (hft : f < t) (ht : t ≤ 10) : xMv l yX2_orderRow wsX2_orderRow { frames := 1, cells := 0, slots := 0, locals := 27 } [.ref (a 6), .ref (a 1), .int (nI f), .int (nI t), .int (xb (bx = true))] G (wX G a S ((tS T 11 (rw g))) L F bs) (wX G a S ((tS T 11 (rw (srtF (befB (kA S bx) (kB S bx)) f (t - (f + 1)) (f + 1) g)))) L F bs) 0 0 := by
  refine x_ofv (cc := cX2_orderRow) (maxL := 8) (by decide) rfl (Nat.le_of_ble_eq_true rfl) ?_
  intro p e s m args below meth c ls A Q C hml hA hH hl hE
  have hl : lv_has ls 8 [(0, .ref (a 6)), (1, .ref (a 1)), (2, .int (nI f)), (3, .int (nI t)), (4, .int (xb (bx = true)))] := hl
  have inX2 : ∀ w ∈ wsX20, w ∈ wsX2_orderRow := fun _ h => (List.mem_cons_of_mem _ (List.mem_append_left _ (List.mem_append_right _ h)))
  refine lv_iload_n C.1 C.2.1 dX2_orderRow_0 rfl (lv_at hl 2 rfl) ?_
  refine lv_iconst (v := nI 1) C.1 C.2.1 dX2_orderRow_1 (by decide) ?_
  refine lv_iadd C.1 C.2.1 dX2_orderRow_2 ?_
  refine x_toi (nI_add f 1) ?_
  refine lv_istore (lv' := [(5, .int (nI (f + 1))), (0, .ref (a 6)), (1, .ref (a 1)), (2, .int (nI f)), (3, .int (nI t)), (4, .int (xb (bx = true)))]) C.1 C.2.1 dX2_orderRow_3 hl (by decide) rfl (fun ls hl => ?_)
  have lp : ∀ (n : Nat) (i : Nat) (g1 : Nat → Nat) (H : Heap) (locs : List Loc) (ls : Array Slot), i + n = t → f < i → (∀ k, g1 k < 10) → srtF (befB (kA S bx) (kB S bx)) f n i g1 = srtF (befB (kA S bx) (kB S bx)) f (t - (f + 1)) (f + 1) g → xH G A s.heap H locs (wX G a S ((tS T 11 (rw g1))) L F bs) → lv_has ls 8 [(0, .ref (a 6)), (1, .ref (a 1)), (2, .int (nI f)), (3, .int (nI t)), (4, .int (xb (bx = true))), (5, .int (nI i))] → W p l e ({ frames := 1, cells := 0, slots := 0, locals := 27 }) s m args below meth c H locs 0 0 Q (F0 m 5 ls []) := by
    intro n
    induction n with
    | zero =>
      intro i g1 H locs ls hin hfi hg hf hH hl
      refine lv_iload C.1 C.2.1 dX2_orderRow_5 (lv_at hl 5 rfl) ?_
      refine lv_iload_n C.1 C.2.1 dX2_orderRow_7 rfl (lv_at hl 3 rfl) ?_
      refine lv_icmp_ge (tgt := 87) C.1 C.2.1 dX2_orderRow_8 (by decide) (fun _ => ?_) (fun c_1 => absurd ((nI_leI (a := t) (b := i) (by omega) (by omega)).mpr (by omega)) c_1)
      have hH := x_eqw (w' := wX G a S ((tS T 11 (rw (srtF (befB (kA S bx) (kB S bx)) f (t - (f + 1)) (f + 1) g)))) L F bs) (by rw [← hf]; rfl) hH
      exact hE _ _ _ _ hH dX2_orderRow_87
    | succ n ih5 =>
      intro i g1 H locs ls hin hfi hg hf hH hl
      refine lv_iload C.1 C.2.1 dX2_orderRow_5 (lv_at hl 5 rfl) ?_
      refine lv_iload_n C.1 C.2.1 dX2_orderRow_7 rfl (lv_at hl 3 rfl) ?_
      refine lv_icmp_ge (tgt := 87) C.1 C.2.1 dX2_orderRow_8 (by decide) (fun c_2 => absurd ((nI_leI (a := t) (b := i) (by omega) (by omega)).mp c_2) (by omega)) (fun _ => ?_)
      refine lv_aload_n C.1 C.2.1 dX2_orderRow_11 rfl (lv_at hl 0 rfl) ?_
      refine x_get (C := RX2) (T := TX2) (N := 14) (v := .ref (a 18)) C inX2 hH 6 gX_6 rfl 11 (by decide) rfl rfl 1 rfl dX2_orderRow_12 ?_
      refine lv_iload C.1 C.2.1 dX2_orderRow_15 (lv_at hl 5 rfl) ?_
      refine x_iald (f := rw g1) (j := i) (v := nI (g1 i)) C hH 18 gX_18 (by omega) (by decide) (rfl) dX2_orderRow_17 ?_
      refine lv_istore (lv' := [(6, .int (nI (g1 i))), (0, .ref (a 6)), (1, .ref (a 1)), (2, .int (nI f)), (3, .int (nI t)), (4, .int (xb (bx = true))), (5, .int (nI i))]) C.1 C.2.1 dX2_orderRow_18 hl (by decide) rfl (fun ls hl => ?_)
      refine lv_iload C.1 C.2.1 dX2_orderRow_20 (lv_at hl 6 rfl) ?_
      refine lv_istore (lv' := [(7, .int (nI i)), (6, .int (nI (g1 i))), (0, .ref (a 6)), (1, .ref (a 1)), (2, .int (nI f)), (3, .int (nI t)), (4, .int (xb (bx = true))), (5, .int (nI i))]) C.1 C.2.1 dX2_orderRow_22 hl (by decide) rfl (fun ls hl => ?_)
      have lq : ∀ (n : Nat) (g2 : Nat → Nat) (H : Heap) (locs : List Loc) (ls : Array Slot), n ≤ i → (∀ k, g2 k < 10) → insF (befB (kA S bx) (kB S bx)) (g1 i) f n g2 = insF (befB (kA S bx) (kB S bx)) (g1 i) f i g1 → xH G A s.heap H locs (wX G a S ((tS T 11 (rw g2))) L F bs) → lv_has ls 8 [(0, .ref (a 6)), (1, .ref (a 1)), (2, .int (nI f)), (3, .int (nI t)), (4, .int (xb (bx = true))), (5, .int (nI i)), (6, .int (nI (g1 i))), (7, .int (nI n))] → W p l e ({ frames := 1, cells := 0, slots := 0, locals := 27 }) s m args below meth c H locs 0 0 Q (F0 m 24 ls []) := by
        intro n
        induction n with
        | zero =>
          intro g2 H locs ls hq hg2 hi2 hH hl
          refine lv_iload C.1 C.2.1 dX2_orderRow_24 (lv_at hl 7 rfl) ?_
          refine lv_iload_n C.1 C.2.1 dX2_orderRow_26 rfl (lv_at hl 2 rfl) ?_
          refine lv_icmp_le (tgt := 72) C.1 C.2.1 dX2_orderRow_27 (by decide) (fun _ => ?_) (fun c_3 => absurd ((nI_leI (a := 0) (b := f) (by omega) (by omega)).mpr (by omega)) c_3)
          refine lv_aload_n C.1 C.2.1 dX2_orderRow_72 rfl (lv_at hl 0 rfl) ?_
          refine x_get (C := RX2) (T := TX2) (N := 14) (v := .ref (a 18)) C inX2 hH 6 gX_6 rfl 11 (by decide) rfl rfl 1 rfl dX2_orderRow_73 ?_
          refine lv_iload C.1 C.2.1 dX2_orderRow_76 (lv_at hl 7 rfl) ?_
          refine lv_iload C.1 C.2.1 dX2_orderRow_78 (lv_at hl 6 rfl) ?_
          refine x_iast (f := rw g2) (j := 0) (x := nI (g1 i)) (w' := wX G a S ((tS T 11 (upd (rw g2) 0 (nI (g1 i))))) L F bs) C hH 18 gX_18 (by omega) (by decide) sX_18 dX2_orderRow_80 (fun H locs hH => ?_)
          have hH := x_eqw (w' := wX G a S ((tS T 11 (rw (updN g2 0 (g1 i))))) L F bs) (by rw [upd_rw]) hH
          refine lv_iinc (v := nI (i + 1)) (lv' := [(5, .int (nI (i + 1))), (0, .ref (a 6)), (1, .ref (a 1)), (2, .int (nI f)), (3, .int (nI t)), (4, .int (xb (bx = true))), (6, .int (nI (g1 i))), (7, .int (nI 0))]) C.1 C.2.1 dX2_orderRow_81 hl (k := 5) rfl (nI_add i 1) (by decide) rfl (fun ls hl => ?_)
          refine lv_goto (tgt := 5) C.1 C.2.1 dX2_orderRow_84 (by decide) ?_
          have hH := x_eqw (w' := wX G a S ((tS T 11 (rw (insF (befB (kA S bx) (kB S bx)) (g1 i) f i g1)))) L F bs) (by rw [← hi2]; first | done | rfl) hH
          exact ih5 (i + 1) (insF (befB (kA S bx) (kB S bx)) (g1 i) f i g1) _ _ _ (by omega) (by omega) (insF_lt hg (hg _)) (hf) hH (lv_sub hl [1, 2, 3, 4, 5, 0] rfl)
        | succ n ih24 =>
          intro g2 H locs ls hq hg2 hi2 hH hl
          refine lv_iload C.1 C.2.1 dX2_orderRow_24 (lv_at hl 7 rfl) ?_
          refine lv_iload_n C.1 C.2.1 dX2_orderRow_26 rfl (lv_at hl 2 rfl) ?_
          refine lv_icmp_le (tgt := 72) C.1 C.2.1 dX2_orderRow_27 (by decide) (fun c_4 => ?_) (fun c_4 => ?_)
          · rw [nI_leI (a := n + 1) (b := f) (by omega) (by omega)] at c_4
            rw [insF, if_neg (show ¬ (f < n + 1 ∧ (befB (kA S bx) (kB S bx)) (g1 i) (g2 n) = true) from fun h9 => absurd h9.1 (by omega))] at hi2
            refine lv_aload_n C.1 C.2.1 dX2_orderRow_72 rfl (lv_at hl 0 rfl) ?_
            refine x_get (C := RX2) (T := TX2) (N := 14) (v := .ref (a 18)) C inX2 hH 6 gX_6 rfl 11 (by decide) rfl rfl 1 rfl dX2_orderRow_73 ?_
            refine lv_iload C.1 C.2.1 dX2_orderRow_76 (lv_at hl 7 rfl) ?_
            refine lv_iload C.1 C.2.1 dX2_orderRow_78 (lv_at hl 6 rfl) ?_
            refine x_iast (f := rw g2) (j := n + 1) (x := nI (g1 i)) (w' := wX G a S ((tS T 11 (upd (rw g2) (n + 1) (nI (g1 i))))) L F bs) C hH 18 gX_18 (by omega) (by decide) sX_18 dX2_orderRow_80 (fun H locs hH => ?_)
            have hH := x_eqw (w' := wX G a S ((tS T 11 (rw (updN g2 (n + 1) (g1 i))))) L F bs) (by rw [upd_rw]) hH
            refine lv_iinc (v := nI (i + 1)) (lv' := [(5, .int (nI (i + 1))), (0, .ref (a 6)), (1, .ref (a 1)), (2, .int (nI f)), (3, .int (nI t)), (4, .int (xb (bx = true))), (6, .int (nI (g1 i))), (7, .int (nI (n + 1)))]) C.1 C.2.1 dX2_orderRow_81 hl (k := 5) rfl (nI_add i 1) (by decide) rfl (fun ls hl => ?_)
            refine lv_goto (tgt := 5) C.1 C.2.1 dX2_orderRow_84 (by decide) ?_
            have hH := x_eqw (w' := wX G a S ((tS T 11 (rw (insF (befB (kA S bx) (kB S bx)) (g1 i) f i g1)))) L F bs) (by rw [← hi2]; first | done | rfl) hH
            exact ih5 (i + 1) (insF (befB (kA S bx) (kB S bx)) (g1 i) f i g1) _ _ _ (by omega) (by omega) (insF_lt hg (hg _)) (hf) hH (lv_sub hl [1, 2, 3, 4, 5, 0] rfl)
          · rw [nI_leI (a := n + 1) (b := f) (by omega) (by omega)] at c_4
            have hb1 := hg i
            have hb2 := hg2 n
            refine lv_aload_n C.1 C.2.1 dX2_orderRow_30 rfl (lv_at hl 1 rfl) ?_
            refine lv_iload C.1 C.2.1 dX2_orderRow_31 (lv_at hl 6 rfl) ?_
            refine lv_aload_n C.1 C.2.1 dX2_orderRow_33 rfl (lv_at hl 0 rfl) ?_
            refine x_get (C := RX2) (T := TX2) (N := 14) (v := .ref (a 18)) C inX2 hH 6 gX_6 rfl 11 (by decide) rfl rfl 1 rfl dX2_orderRow_34 ?_
            refine lv_iload C.1 C.2.1 dX2_orderRow_37 (lv_at hl 7 rfl) ?_
            refine lv_iconst (v := nI 1) C.1 C.2.1 dX2_orderRow_39 (by decide) ?_
            refine lv_isub C.1 C.2.1 dX2_orderRow_40 ?_
            refine x_toi (pk_sub (a := n + 1) (b := 1) (by omega)) ?_
            refine x_iald (f := rw g2) (j := n) (v := nI (g2 n)) C hH 18 gX_18 (by omega) (by decide) (rfl) dX2_orderRow_41 ?_
            refine lv_iload C.1 C.2.1 dX2_orderRow_42 (lv_at hl 4 rfl) ?_
            refine x_ci (w' := wX G a S ((tS T 11 (rw g2))) L F bs) (va_runV (As := [.int (nI (g1 i)), .int (nI (g2 n)), .int (xb (bx = true))]) (rest := []) (x_fix C hml) (c_X1_isBefore l G a S ((tS T 11 (rw g2))) L F bs (g1 i) (g2 n) bx (by omega) (by omega) _) (cwV 3 C.2.2.2.1 gX2_orderRow_X1_isBefore rfl rfl rfl (by decide +kernel) ⟨Nat.le_of_ble_eq_true rfl, Nat.le_of_ble_eq_true rfl⟩) (x_pv C hH rfl gX_1 rfl rfl) rfl rfl hl.1 rfl (lv_room (Nat.le_of_ble_eq_true rfl)) dX2_orderRow_44 ⟨Nat.le_of_ble_eq_true rfl, Nat.le_of_ble_eq_true rfl⟩) hH hA (fun H locs hH => ?_)
            refine lv_if_eq (tgt := 72) C.1 C.2.1 dX2_orderRow_47 (by decide) (fun c_5 => ?_) (fun c_5 => ?_)
            · rw [xb_0] at c_5
              rw [insF, if_neg (show ¬ (f < n + 1 ∧ (befB (kA S bx) (kB S bx)) (g1 i) (g2 n) = true) from fun h9 => c_5 h9.2)] at hi2
              refine lv_aload_n C.1 C.2.1 dX2_orderRow_72 rfl (lv_at hl 0 rfl) ?_
              refine x_get (C := RX2) (T := TX2) (N := 14) (v := .ref (a 18)) C inX2 hH 6 gX_6 rfl 11 (by decide) rfl rfl 1 rfl dX2_orderRow_73 ?_
              refine lv_iload C.1 C.2.1 dX2_orderRow_76 (lv_at hl 7 rfl) ?_
              refine lv_iload C.1 C.2.1 dX2_orderRow_78 (lv_at hl 6 rfl) ?_
              refine x_iast (f := rw g2) (j := n + 1) (x := nI (g1 i)) (w' := wX G a S ((tS T 11 (upd (rw g2) (n + 1) (nI (g1 i))))) L F bs) C hH 18 gX_18 (by omega) (by decide) sX_18 dX2_orderRow_80 (fun H locs hH => ?_)
              have hH := x_eqw (w' := wX G a S ((tS T 11 (rw (updN g2 (n + 1) (g1 i))))) L F bs) (by rw [upd_rw]) hH
              refine lv_iinc (v := nI (i + 1)) (lv' := [(5, .int (nI (i + 1))), (0, .ref (a 6)), (1, .ref (a 1)), (2, .int (nI f)), (3, .int (nI t)), (4, .int (xb (bx = true))), (6, .int (nI (g1 i))), (7, .int (nI (n + 1)))]) C.1 C.2.1 dX2_orderRow_81 hl (k := 5) rfl (nI_add i 1) (by decide) rfl (fun ls hl => ?_)
              refine lv_goto (tgt := 5) C.1 C.2.1 dX2_orderRow_84 (by decide) ?_
              have hH := x_eqw (w' := wX G a S ((tS T 11 (rw (insF (befB (kA S bx) (kB S bx)) (g1 i) f i g1)))) L F bs) (by rw [← hi2]; first | done | rfl) hH
              exact ih5 (i + 1) (insF (befB (kA S bx) (kB S bx)) (g1 i) f i g1) _ _ _ (by omega) (by omega) (insF_lt hg (hg _)) (hf) hH (lv_sub hl [1, 2, 3, 4, 5, 0] rfl)
            · rw [xb_0] at c_5
              have c_5 := Classical.not_not.mp c_5
              have c_B := c_5
              refine lv_aload_n C.1 C.2.1 dX2_orderRow_50 rfl (lv_at hl 0 rfl) ?_
              refine x_get (C := RX2) (T := TX2) (N := 14) (v := .ref (a 18)) C inX2 hH 6 gX_6 rfl 11 (by decide) rfl rfl 1 rfl dX2_orderRow_51 ?_
              refine lv_iload C.1 C.2.1 dX2_orderRow_54 (lv_at hl 7 rfl) ?_
              refine lv_aload_n C.1 C.2.1 dX2_orderRow_56 rfl (lv_at hl 0 rfl) ?_
              refine x_get (C := RX2) (T := TX2) (N := 14) (v := .ref (a 18)) C inX2 hH 6 gX_6 rfl 11 (by decide) rfl rfl 1 rfl dX2_orderRow_57 ?_
              refine lv_iload C.1 C.2.1 dX2_orderRow_60 (lv_at hl 7 rfl) ?_
              refine lv_iconst (v := nI 1) C.1 C.2.1 dX2_orderRow_62 (by decide) ?_
              refine lv_isub C.1 C.2.1 dX2_orderRow_63 ?_
              refine x_toi (pk_sub (a := n + 1) (b := 1) (by omega)) ?_
              refine x_iald (f := rw g2) (j := n) (v := nI (g2 n)) C hH 18 gX_18 (by omega) (by decide) (rfl) dX2_orderRow_64 ?_
              refine x_iast (f := rw g2) (j := n + 1) (x := nI (g2 n)) (w' := wX G a S ((tS T 11 (upd (rw g2) (n + 1) (nI (g2 n))))) L F bs) C hH 18 gX_18 (by omega) (by decide) sX_18 dX2_orderRow_65 (fun H locs hH => ?_)
              have hH := x_eqw (w' := wX G a S ((tS T 11 (rw (updN g2 (n + 1) (g2 n))))) L F bs) (by rw [upd_rw]) hH
              refine lv_iinc (v := nI n) (lv' := [(7, .int (nI n)), (0, .ref (a 6)), (1, .ref (a 1)), (2, .int (nI f)), (3, .int (nI t)), (4, .int (xb (bx = true))), (5, .int (nI i)), (6, .int (nI (g1 i)))]) C.1 C.2.1 dX2_orderRow_66 hl (k := 7) rfl (pk_m1 n) (by decide) rfl (fun ls hl => ?_)
              refine lv_goto (tgt := 24) C.1 C.2.1 dX2_orderRow_69 (by decide) ?_
              exact ih24 (updN g2 (n + 1) (g2 n)) _ _ _ (by omega) (fun k => by unfold updN; split; exact hg2 _; exact hg2 _) (by rw [insF, if_pos (show f < n + 1 ∧ (befB (kA S bx) (kB S bx)) (g1 i) (g2 n) = true from ⟨by omega, c_B⟩)] at hi2; exact hi2) hH (lv_sub hl [1, 2, 3, 4, 5, 6, 7, 0] rfl)
      exact lq (i) g1 _ _ _ (by omega) (hg) (rfl) hH (lv_sub hl [2, 3, 4, 5, 6, 7, 1, 0] rfl)
  exact lp (t - (f + 1)) (f + 1) g _ _ _ (by omega) (by omega) (hg0) (rfl) hH (lv_sub hl [1, 2, 3, 4, 5, 0] rfl)
