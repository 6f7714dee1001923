theorem xn_nm1 {n : Nat} (h : n < 2 ^ 31) : ¬ nI n = -1 := fun z => absurd (z ▸ nI_pos h : ¬ (-1 : Int32) < 0) (by decide)
set_option maxHeartbeats 400000 in
set_option maxRecDepth 100000 in
theorem c_X2_joinNearestPair (l : Launch) (G : xG) (a : Nat → Nat) (S T : Nat → Nat → Int32) (L : Nat → Nat → Int64) (F : Nat → Int32) (bs : Int64) (nd : Nat) (hok : cOk T nd) : xMv l yX2_joinNearestPair wsX2_joinNearestPair { frames := 4, cells := 0, slots := 0, locals := 84 } [.ref (a 6)] G (wX G a S T L ((tS F 6 (nI nd))) bs) (wX G a S (joinT T nd (cSelI T nd) (cSelJ T nd)) L ((tS F 6 (nI (nd + 1)))) bs) 0 0 := by
  have h3 := hok.2.2.1
  have h4 := hok.2.2.2.1
  have h5 := hok.2.2.2.2.1
  have h6 := hok.2.2.2.2.2
  refine x_ofv (cc := cX2_joinNearestPair) (maxL := 8) (by decide) rfl (Nat.le_of_ble_eq_true rfl) ?_
  intro p e s m args below meth c ls A Q C hml hA hH hl hE
  have hl : lv_has ls 8 [(0, .ref (a 6))] := hl
  have inX2 : ∀ w ∈ wsX20, w ∈ wsX2_joinNearestPair := fun _ h => (List.mem_cons_of_mem _ (List.mem_append_right _ h))
  refine lv_iconst (v := (-1)) C.1 C.2.1 dX2_joinNearestPair_0 (by decide) ?_
  refine lv_istore_n (lv' := [(1, .int ((-1))), (0, .ref (a 6))]) C.1 C.2.1 dX2_joinNearestPair_1 rfl hl (by decide) rfl (fun ls hl => ?_)
  refine lv_iconst (v := (-1)) C.1 C.2.1 dX2_joinNearestPair_2 (by decide) ?_
  refine lv_istore_n (lv' := [(2, .int ((-1))), (1, .int ((-1))), (0, .ref (a 6))]) C.1 C.2.1 dX2_joinNearestPair_3 rfl hl (by decide) rfl (fun ls hl => ?_)
  refine lv_ldc C.1 C.2.1 C.2.2.1 (C.2.2.2.1 _ (List.mem_of_getElem? (i := 1) rfl)) dX2_joinNearestPair_4 ?_
  refine x_toi (show (2147483647 : Int32) = nI 2147483647 by decide) ?_
  refine lv_istore_n (lv' := [(3, .int (nI 2147483647)), (2, .int ((-1))), (1, .int ((-1))), (0, .ref (a 6))]) C.1 C.2.1 dX2_joinNearestPair_6 rfl hl (by decide) rfl (fun ls hl => ?_)
  refine lv_iconst (v := nI 0) C.1 C.2.1 dX2_joinNearestPair_7 (by decide) ?_
  refine lv_istore (lv' := [(4, .int (nI 0)), (3, .int (nI 2147483647)), (2, .int ((-1))), (1, .int ((-1))), (0, .ref (a 6))]) C.1 C.2.1 dX2_joinNearestPair_8 hl (by decide) rfl (fun ls hl => ?_)
  have lp : ∀ (n : Nat) (i : Nat) (u1 : Int32) (u2 : Int32) (u3 : Int32) (H : Heap) (locs : List Loc) (ls : Array Slot), i + n = nd → cOut T nd n i (u1, u2, u3) = cSel T nd → xH G A s.heap H locs (wX G a S T L ((tS F 6 (nI nd))) bs) → lv_has ls 8 [(0, .ref (a 6)), (1, .int u1), (2, .int u2), (3, .int u3), (4, .int (nI i))] → W p l e ({ frames := 4, cells := 0, slots := 0, locals := 84 }) s m args below meth c H locs 0 0 Q (F0 m 10 ls []) := by
    intro n
    induction n with
    | zero =>
      intro i u1 u2 u3 H locs ls hin hf hH hl
      obtain ⟨hu1, hu2⟩ : u1 = nI (cSelI T nd) ∧ u2 = nI (cSelJ T nd) := ⟨(congrArg (fun z => z.1) hf).trans hok.1, (congrArg (fun z => z.2.1) hf).trans hok.2.1⟩
      subst hu1
      subst hu2
      refine lv_iload C.1 C.2.1 dX2_joinNearestPair_10 (lv_at hl 4 rfl) ?_
      refine lv_aload_n C.1 C.2.1 dX2_joinNearestPair_12 rfl (lv_at hl 0 rfl) ?_
      refine x_get (C := RX2) (T := TX2) (N := 14) (v := .int (nI nd)) C inX2 hH 6 gX_6 rfl 13 (by decide) rfl rfl 2 rfl dX2_joinNearestPair_13 ?_
      refine lv_icmp_ge (tgt := 110) C.1 C.2.1 dX2_joinNearestPair_16 (by decide) (fun _ => ?_) (fun c_1 => absurd ((nI_leI (a := nd) (b := i) (by omega) (by omega)).mpr (by omega)) c_1)
      refine lv_iload_n C.1 C.2.1 dX2_joinNearestPair_110 rfl (lv_at hl 1 rfl) ?_
      refine lv_iconst (v := (-1)) C.1 C.2.1 dX2_joinNearestPair_111 (by decide) ?_
      refine lv_icmp_eq (tgt := 122) C.1 C.2.1 dX2_joinNearestPair_112 (by decide) (fun c_2 => absurd c_2 (xn_nm1 (by omega))) (fun _ => ?_)
      refine lv_aload_n C.1 C.2.1 dX2_joinNearestPair_115 rfl (lv_at hl 0 rfl) ?_
      refine lv_iload_n C.1 C.2.1 dX2_joinNearestPair_116 rfl (lv_at hl 1 rfl) ?_
      refine lv_iload_n C.1 C.2.1 dX2_joinNearestPair_117 rfl (lv_at hl 2 rfl) ?_
      refine x_ci (w' := wX G a S (joinT T nd (cSelI T nd) (cSelJ T nd)) L ((tS F 6 (nI (nd + 1)))) bs) (va_runV (As := [.int (nI (cSelI T nd)), .int (nI (cSelJ T nd))]) (rest := []) (x_fix C hml) (c_X2_joinTwo l G a S T L ((tS F 6 (nI nd))) bs (cSelI T nd) (cSelJ T nd) nd rfl (by omega) (by omega) (by omega) (by omega) _) (cwV 2 C.2.2.2.1 gX2_joinNearestPair_X2_joinTwo rfl rfl rfl (by decide +kernel) ⟨Nat.le_of_ble_eq_true rfl, Nat.le_of_ble_eq_true rfl⟩) (x_pv C hH rfl gX_6 rfl rfl) rfl rfl hl.1 rfl (lv_room (Nat.le_of_ble_eq_true rfl)) dX2_joinNearestPair_118 ⟨Nat.le_of_ble_eq_true rfl, Nat.le_of_ble_eq_true rfl⟩) hH hA (fun H locs hH => ?_)
      refine lv_pop C.1 C.2.1 dX2_joinNearestPair_121 rfl ?_
      exact hE _ _ _ _ hH dX2_joinNearestPair_122
    | succ n ih10 =>
      intro i u1 u2 u3 H locs ls hin hf hH hl
      refine lv_iload C.1 C.2.1 dX2_joinNearestPair_10 (lv_at hl 4 rfl) ?_
      refine lv_aload_n C.1 C.2.1 dX2_joinNearestPair_12 rfl (lv_at hl 0 rfl) ?_
      refine x_get (C := RX2) (T := TX2) (N := 14) (v := .int (nI nd)) C inX2 hH 6 gX_6 rfl 13 (by decide) rfl rfl 2 rfl dX2_joinNearestPair_13 ?_
      refine lv_icmp_ge (tgt := 110) C.1 C.2.1 dX2_joinNearestPair_16 (by decide) (fun c_3 => absurd ((nI_leI (a := nd) (b := i) (by omega) (by omega)).mp c_3) (by omega)) (fun _ => ?_)
      refine lv_iload C.1 C.2.1 dX2_joinNearestPair_19 (lv_at hl 4 rfl) ?_
      refine lv_iconst (v := nI 1) C.1 C.2.1 dX2_joinNearestPair_21 (by decide) ?_
      refine lv_iadd C.1 C.2.1 dX2_joinNearestPair_22 ?_
      refine x_toi (nI_add i 1) ?_
      refine lv_istore (lv' := [(5, .int (nI (i + 1))), (0, .ref (a 6)), (1, .int u1), (2, .int u2), (3, .int u3), (4, .int (nI i))]) C.1 C.2.1 dX2_joinNearestPair_23 hl (by decide) rfl (fun ls hl => ?_)
      have lq : ∀ (k9 : Nat) (j : Nat) (v1 : Int32) (v2 : Int32) (v3 : Int32) (H : Heap) (locs : List Loc) (ls : Array Slot), j + k9 = nd → cIn T i k9 j (v1, v2, v3) = cIn T i n (i + 1) (u1, u2, u3) → xH G A s.heap H locs (wX G a S T L ((tS F 6 (nI nd))) bs) → lv_has ls 8 [(0, .ref (a 6)), (1, .int v1), (2, .int v2), (3, .int v3), (4, .int (nI i)), (5, .int (nI j))] → W p l e ({ frames := 4, cells := 0, slots := 0, locals := 84 }) s m args below meth c H locs 0 0 Q (F0 m 25 ls []) := by
        intro k9
        induction k9 with
        | zero =>
          intro j v1 v2 v3 H locs ls hj hc hH hl
          refine lv_iload C.1 C.2.1 dX2_joinNearestPair_25 (lv_at hl 5 rfl) ?_
          refine lv_aload_n C.1 C.2.1 dX2_joinNearestPair_27 rfl (lv_at hl 0 rfl) ?_
          refine x_get (C := RX2) (T := TX2) (N := 14) (v := .int (nI nd)) C inX2 hH 6 gX_6 rfl 13 (by decide) rfl rfl 2 rfl dX2_joinNearestPair_28 ?_
          refine lv_icmp_ge (tgt := 104) C.1 C.2.1 dX2_joinNearestPair_31 (by decide) (fun _ => ?_) (fun c_4 => absurd ((nI_leI (a := nd) (b := j) (by omega) (by omega)).mpr (by omega)) c_4)
          refine lv_iinc (v := nI (i + 1)) (lv' := [(4, .int (nI (i + 1))), (0, .ref (a 6)), (1, .int v1), (2, .int v2), (3, .int v3), (5, .int (nI j))]) C.1 C.2.1 dX2_joinNearestPair_104 hl (k := 4) rfl (nI_add i 1) (by decide) rfl (fun ls hl => ?_)
          refine lv_goto (tgt := 10) C.1 C.2.1 dX2_joinNearestPair_107 (by decide) ?_
          exact ih10 (i + 1) v1 v2 v3 _ _ _ (by omega) (by rw [show (v1, v2, v3) = cIn T i n (i + 1) (u1, u2, u3) from hc]; exact hf) hH (lv_sub hl [1, 2, 3, 4, 0] rfl)
        | succ k9 ih25 =>
          intro j v1 v2 v3 H locs ls hj hc hH hl
          refine lv_iload C.1 C.2.1 dX2_joinNearestPair_25 (lv_at hl 5 rfl) ?_
          refine lv_aload_n C.1 C.2.1 dX2_joinNearestPair_27 rfl (lv_at hl 0 rfl) ?_
          refine x_get (C := RX2) (T := TX2) (N := 14) (v := .int (nI nd)) C inX2 hH 6 gX_6 rfl 13 (by decide) rfl rfl 2 rfl dX2_joinNearestPair_28 ?_
          refine lv_icmp_ge (tgt := 104) C.1 C.2.1 dX2_joinNearestPair_31 (by decide) (fun c_5 => absurd ((nI_leI (a := nd) (b := j) (by omega) (by omega)).mp c_5) (by omega)) (fun _ => ?_)
          refine lv_aload_n C.1 C.2.1 dX2_joinNearestPair_34 rfl (lv_at hl 0 rfl) ?_
          refine x_get (C := RX2) (T := TX2) (N := 14) (v := .ref (a 9)) C inX2 hH 6 gX_6 rfl 2 (by decide) rfl rfl 3 rfl dX2_joinNearestPair_35 ?_
          refine lv_iload C.1 C.2.1 dX2_joinNearestPair_38 (lv_at hl 4 rfl) ?_
          refine x_iald (f := T 2) (j := i) (v := T 2 i) C hH 9 gX_9 (by omega) (by decide) (rfl) dX2_joinNearestPair_40 ?_
          refine lv_iconst (v := (-1)) C.1 C.2.1 dX2_joinNearestPair_41 (by decide) ?_
          refine lv_icmp_ne (tgt := 60) C.1 C.2.1 dX2_joinNearestPair_42 (by decide) (fun c_6 => ?_) (fun c_6 => ?_)
          · refine lv_iconst (v := nI 0) C.1 C.2.1 dX2_joinNearestPair_60 (by decide) ?_
            refine lv_istore (lv' := [(6, .int (nI 0)), (0, .ref (a 6)), (1, .int v1), (2, .int v2), (3, .int v3), (4, .int (nI i)), (5, .int (nI j))]) C.1 C.2.1 dX2_joinNearestPair_61 hl (by decide) rfl (fun ls hl => ?_)
            refine lv_iload C.1 C.2.1 dX2_joinNearestPair_63 (lv_at hl 0 rfl) ?_
            refine lv_if_eq (tgt := 79) C.1 C.2.1 dX2_joinNearestPair_65 (by decide) (fun _ => ?_) (fun c_7 => absurd (by decide) c_7)
            refine lv_ldc C.1 C.2.1 C.2.2.1 (C.2.2.2.1 _ (List.mem_of_getElem? (i := 1) rfl)) dX2_joinNearestPair_79 ?_
            refine x_toi (show (2147483647 : Int32) = nI 2147483647 by decide) ?_
            refine lv_istore (lv' := [(7, .int (nI 2147483647)), (6, .int (nI 0)), (0, .ref (a 6)), (1, .int v1), (2, .int v2), (3, .int v3), (4, .int (nI i)), (5, .int (nI j))]) C.1 C.2.1 dX2_joinNearestPair_81 hl (by decide) rfl (fun ls hl => ?_)
            refine lv_iload C.1 C.2.1 dX2_joinNearestPair_83 (lv_at hl 0 rfl) ?_
            refine lv_iload_n C.1 C.2.1 dX2_joinNearestPair_85 rfl (lv_at hl 5 rfl) ?_
            refine lv_icmp_ge (tgt := 98) C.1 C.2.1 dX2_joinNearestPair_86 (by decide) (fun c_8 => ?_) (fun c_8 => ?_)
            · refine lv_iinc (v := nI (j + 1)) (lv' := [(5, .int (nI (j + 1))), (7, .int (nI 2147483647)), (6, .int (nI 0)), (0, .ref (a 6)), (1, .int v1), (2, .int v2), (3, .int v3), (4, .int (nI i))]) C.1 C.2.1 dX2_joinNearestPair_98 hl (k := 7) rfl (nI_add j 1) (by decide) rfl (fun ls hl => ?_)
              refine lv_goto (tgt := 25) C.1 C.2.1 dX2_joinNearestPair_101 (by decide) ?_
              exact ih25 (j + 1) v1 v2 v3 _ _ _ (by omega) (by (try simp only [← Int32.not_lt, ← Nat.not_lt, Classical.not_not] at c_6); (try simp only [← Int32.not_lt, ← Nat.not_lt, Classical.not_not] at c_8); rw [cIn] at hc; simp only [c_6, c_8, and_self, and_true, true_and, and_false, false_and, or_true, true_or, or_false, false_or, not_true_eq_false, not_false_eq_true, Classical.not_not, if_true, if_false, reduceIte] at hc; exact hc) hH (lv_sub hl [3, 4, 5, 6, 7, 0] rfl)
            · refine lv_iload C.1 C.2.1 dX2_joinNearestPair_89 (lv_at hl 0 rfl) ?_
              refine lv_istore_n (lv' := [(3, .int (nI 2147483647)), (7, .int (nI 2147483647)), (6, .int (nI 0)), (0, .ref (a 6)), (1, .int v1), (2, .int v2), (4, .int (nI i)), (5, .int (nI j))]) C.1 C.2.1 dX2_joinNearestPair_91 rfl hl (by decide) rfl (fun ls hl => ?_)
              refine lv_iload C.1 C.2.1 dX2_joinNearestPair_92 (lv_at hl 6 rfl) ?_
              refine lv_istore_n (lv' := [(1, .int (nI i)), (3, .int (nI 2147483647)), (7, .int (nI 2147483647)), (6, .int (nI 0)), (0, .ref (a 6)), (2, .int v2), (4, .int (nI i)), (5, .int (nI j))]) C.1 C.2.1 dX2_joinNearestPair_94 rfl hl (by decide) rfl (fun ls hl => ?_)
              refine lv_iload C.1 C.2.1 dX2_joinNearestPair_95 (lv_at hl 7 rfl) ?_
              refine lv_istore_n (lv' := [(2, .int (nI j)), (1, .int (nI i)), (3, .int (nI 2147483647)), (7, .int (nI 2147483647)), (6, .int (nI 0)), (0, .ref (a 6)), (4, .int (nI i)), (5, .int (nI j))]) C.1 C.2.1 dX2_joinNearestPair_97 rfl hl (by decide) rfl (fun ls hl => ?_)
              refine lv_iinc (v := nI (j + 1)) (lv' := [(5, .int (nI (j + 1))), (2, .int (nI j)), (1, .int (nI i)), (3, .int (nI 2147483647)), (7, .int (nI 2147483647)), (6, .int (nI 0)), (0, .ref (a 6)), (4, .int (nI i))]) C.1 C.2.1 dX2_joinNearestPair_98 hl (k := 7) rfl (nI_add j 1) (by decide) rfl (fun ls hl => ?_)
              refine lv_goto (tgt := 25) C.1 C.2.1 dX2_joinNearestPair_101 (by decide) ?_
              exact ih25 (j + 1) (nI i) (nI j) (nI 2147483647) _ _ _ (by omega) (by (try simp only [← Int32.not_lt, ← Nat.not_lt, Classical.not_not] at c_6); (try simp only [← Int32.not_lt, ← Nat.not_lt, Classical.not_not] at c_8); rw [cIn] at hc; simp only [c_6, c_8, and_self, and_true, true_and, and_false, false_and, or_true, true_or, or_false, false_or, not_true_eq_false, not_false_eq_true, Classical.not_not, if_true, if_false, reduceIte] at hc; exact hc) hH (lv_sub hl [6, 2, 1, 3, 7, 0] rfl)
          · refine lv_aload_n C.1 C.2.1 dX2_joinNearestPair_45 rfl (lv_at hl 0 rfl) ?_
            refine x_get (C := RX2) (T := TX2) (N := 14) (v := .ref (a 9)) C inX2 hH 6 gX_6 rfl 2 (by decide) rfl rfl 3 rfl dX2_joinNearestPair_46 ?_
            refine lv_iload C.1 C.2.1 dX2_joinNearestPair_49 (lv_at hl 5 rfl) ?_
            refine x_iald (f := T 2) (j := j) (v := T 2 j) C hH 9 gX_9 (by omega) (by decide) (rfl) dX2_joinNearestPair_51 ?_
            refine lv_iconst (v := (-1)) C.1 C.2.1 dX2_joinNearestPair_52 (by decide) ?_
            refine lv_icmp_ne (tgt := 60) C.1 C.2.1 dX2_joinNearestPair_53 (by decide) (fun c_9 => ?_) (fun c_9 => ?_)
            · refine lv_iconst (v := nI 0) C.1 C.2.1 dX2_joinNearestPair_60 (by decide) ?_
              refine lv_istore (lv' := [(6, .int (nI 0)), (0, .ref (a 6)), (1, .int v1), (2, .int v2), (3, .int v3), (4, .int (nI i)), (5, .int (nI j))]) C.1 C.2.1 dX2_joinNearestPair_61 hl (by decide) rfl (fun ls hl => ?_)
              refine lv_iload C.1 C.2.1 dX2_joinNearestPair_63 (lv_at hl 0 rfl) ?_
              refine lv_if_eq (tgt := 79) C.1 C.2.1 dX2_joinNearestPair_65 (by decide) (fun _ => ?_) (fun c_10 => absurd (by decide) c_10)
              refine lv_ldc C.1 C.2.1 C.2.2.1 (C.2.2.2.1 _ (List.mem_of_getElem? (i := 1) rfl)) dX2_joinNearestPair_79 ?_
              refine x_toi (show (2147483647 : Int32) = nI 2147483647 by decide) ?_
              refine lv_istore (lv' := [(7, .int (nI 2147483647)), (6, .int (nI 0)), (0, .ref (a 6)), (1, .int v1), (2, .int v2), (3, .int v3), (4, .int (nI i)), (5, .int (nI j))]) C.1 C.2.1 dX2_joinNearestPair_81 hl (by decide) rfl (fun ls hl => ?_)
              refine lv_iload C.1 C.2.1 dX2_joinNearestPair_83 (lv_at hl 0 rfl) ?_
              refine lv_iload_n C.1 C.2.1 dX2_joinNearestPair_85 rfl (lv_at hl 5 rfl) ?_
              refine lv_icmp_ge (tgt := 98) C.1 C.2.1 dX2_joinNearestPair_86 (by decide) (fun c_11 => ?_) (fun c_11 => ?_)
              · refine lv_iinc (v := nI (j + 1)) (lv' := [(5, .int (nI (j + 1))), (7, .int (nI 2147483647)), (6, .int (nI 0)), (0, .ref (a 6)), (1, .int v1), (2, .int v2), (3, .int v3), (4, .int (nI i))]) C.1 C.2.1 dX2_joinNearestPair_98 hl (k := 7) rfl (nI_add j 1) (by decide) rfl (fun ls hl => ?_)
                refine lv_goto (tgt := 25) C.1 C.2.1 dX2_joinNearestPair_101 (by decide) ?_
                exact ih25 (j + 1) v1 v2 v3 _ _ _ (by omega) (by (try simp only [← Int32.not_lt, ← Nat.not_lt, Classical.not_not] at c_6); (try simp only [← Int32.not_lt, ← Nat.not_lt, Classical.not_not] at c_9); (try simp only [← Int32.not_lt, ← Nat.not_lt, Classical.not_not] at c_11); rw [cIn] at hc; simp only [c_6, c_9, c_11, and_self, and_true, true_and, and_false, false_and, or_true, true_or, or_false, false_or, not_true_eq_false, not_false_eq_true, Classical.not_not, if_true, if_false, reduceIte] at hc; exact hc) hH (lv_sub hl [3, 4, 5, 6, 7, 0] rfl)
              · refine lv_iload C.1 C.2.1 dX2_joinNearestPair_89 (lv_at hl 0 rfl) ?_
                refine lv_istore_n (lv' := [(3, .int (nI 2147483647)), (7, .int (nI 2147483647)), (6, .int (nI 0)), (0, .ref (a 6)), (1, .int v1), (2, .int v2), (4, .int (nI i)), (5, .int (nI j))]) C.1 C.2.1 dX2_joinNearestPair_91 rfl hl (by decide) rfl (fun ls hl => ?_)
                refine lv_iload C.1 C.2.1 dX2_joinNearestPair_92 (lv_at hl 6 rfl) ?_
                refine lv_istore_n (lv' := [(1, .int (nI i)), (3, .int (nI 2147483647)), (7, .int (nI 2147483647)), (6, .int (nI 0)), (0, .ref (a 6)), (2, .int v2), (4, .int (nI i)), (5, .int (nI j))]) C.1 C.2.1 dX2_joinNearestPair_94 rfl hl (by decide) rfl (fun ls hl => ?_)
                refine lv_iload C.1 C.2.1 dX2_joinNearestPair_95 (lv_at hl 7 rfl) ?_
                refine lv_istore_n (lv' := [(2, .int (nI j)), (1, .int (nI i)), (3, .int (nI 2147483647)), (7, .int (nI 2147483647)), (6, .int (nI 0)), (0, .ref (a 6)), (4, .int (nI i)), (5, .int (nI j))]) C.1 C.2.1 dX2_joinNearestPair_97 rfl hl (by decide) rfl (fun ls hl => ?_)
                refine lv_iinc (v := nI (j + 1)) (lv' := [(5, .int (nI (j + 1))), (2, .int (nI j)), (1, .int (nI i)), (3, .int (nI 2147483647)), (7, .int (nI 2147483647)), (6, .int (nI 0)), (0, .ref (a 6)), (4, .int (nI i))]) C.1 C.2.1 dX2_joinNearestPair_98 hl (k := 7) rfl (nI_add j 1) (by decide) rfl (fun ls hl => ?_)
                refine lv_goto (tgt := 25) C.1 C.2.1 dX2_joinNearestPair_101 (by decide) ?_
                exact ih25 (j + 1) (nI i) (nI j) (nI 2147483647) _ _ _ (by omega) (by (try simp only [← Int32.not_lt, ← Nat.not_lt, Classical.not_not] at c_6); (try simp only [← Int32.not_lt, ← Nat.not_lt, Classical.not_not] at c_9); (try simp only [← Int32.not_lt, ← Nat.not_lt, Classical.not_not] at c_11); rw [cIn] at hc; simp only [c_6, c_9, c_11, and_self, and_true, true_and, and_false, false_and, or_true, true_or, or_false, false_or, not_true_eq_false, not_false_eq_true, Classical.not_not, if_true, if_false, reduceIte] at hc; exact hc) hH (lv_sub hl [6, 2, 1, 3, 7, 0] rfl)
            · refine lv_iconst (v := nI 1) C.1 C.2.1 dX2_joinNearestPair_56 (by decide) ?_
              refine lv_goto (tgt := 61) C.1 C.2.1 dX2_joinNearestPair_57 (by decide) ?_
              refine lv_istore (lv' := [(6, .int (nI 1)), (0, .ref (a 6)), (1, .int v1), (2, .int v2), (3, .int v3), (4, .int (nI i)), (5, .int (nI j))]) C.1 C.2.1 dX2_joinNearestPair_61 hl (by decide) rfl (fun ls hl => ?_)
              refine lv_iload C.1 C.2.1 dX2_joinNearestPair_63 (lv_at hl 0 rfl) ?_
              refine lv_if_eq (tgt := 79) C.1 C.2.1 dX2_joinNearestPair_65 (by decide) (fun c_12 => absurd c_12 (by decide)) (fun _ => ?_)
              refine lv_aload_n C.1 C.2.1 dX2_joinNearestPair_68 rfl (lv_at hl 1 rfl) ?_
              refine lv_iload C.1 C.2.1 dX2_joinNearestPair_69 (lv_at hl 5 rfl) ?_
              refine lv_iload C.1 C.2.1 dX2_joinNearestPair_71 (lv_at hl 6 rfl) ?_
              refine x_ci (w' := wX G a S T L ((tS F 6 (nI nd))) bs) (va_runV (As := [.int (nI i), .int (nI j)]) (rest := []) (x_fix C hml) (c_X2_distanceOf l G a S T L ((tS F 6 (nI nd))) bs (i) (j) (by omega) (by omega) _) (cwV 2 C.2.2.2.1 gX2_joinNearestPair_X2_distanceOf rfl rfl rfl (by decide +kernel) ⟨Nat.le_of_ble_eq_true rfl, Nat.le_of_ble_eq_true rfl⟩) (x_pv C hH rfl gX_6 rfl rfl) rfl rfl hl.1 rfl (lv_room (Nat.le_of_ble_eq_true rfl)) dX2_joinNearestPair_73 ⟨Nat.le_of_ble_eq_true rfl, Nat.le_of_ble_eq_true rfl⟩) hH hA (fun H locs hH => ?_)
              refine lv_goto (tgt := 81) C.1 C.2.1 dX2_joinNearestPair_76 (by decide) ?_
              refine lv_istore (lv' := [(7, .int (dist T i j)), (6, .int (nI 1)), (0, .ref (a 6)), (1, .int v1), (2, .int v2), (3, .int v3), (4, .int (nI i)), (5, .int (nI j))]) C.1 C.2.1 dX2_joinNearestPair_81 hl (by decide) rfl (fun ls hl => ?_)
              refine lv_iload C.1 C.2.1 dX2_joinNearestPair_83 (lv_at hl 0 rfl) ?_
              refine lv_iload_n C.1 C.2.1 dX2_joinNearestPair_85 rfl (lv_at hl 5 rfl) ?_
              refine lv_icmp_ge (tgt := 98) C.1 C.2.1 dX2_joinNearestPair_86 (by decide) (fun c_13 => ?_) (fun c_13 => ?_)
              · refine lv_iinc (v := nI (j + 1)) (lv' := [(5, .int (nI (j + 1))), (7, .int (dist T i j)), (6, .int (nI 1)), (0, .ref (a 6)), (1, .int v1), (2, .int v2), (3, .int v3), (4, .int (nI i))]) C.1 C.2.1 dX2_joinNearestPair_98 hl (k := 7) rfl (nI_add j 1) (by decide) rfl (fun ls hl => ?_)
                refine lv_goto (tgt := 25) C.1 C.2.1 dX2_joinNearestPair_101 (by decide) ?_
                exact ih25 (j + 1) v1 v2 v3 _ _ _ (by omega) (by (try simp only [← Int32.not_lt, ← Nat.not_lt, Classical.not_not] at c_6); (try simp only [← Int32.not_lt, ← Nat.not_lt, Classical.not_not] at c_9); (try simp only [← Int32.not_lt, ← Nat.not_lt, Classical.not_not] at c_13); rw [cIn] at hc; simp only [c_6, c_9, c_13, and_self, and_true, true_and, and_false, false_and, or_true, true_or, or_false, false_or, not_true_eq_false, not_false_eq_true, Classical.not_not, if_true, if_false, reduceIte] at hc; exact hc) hH (lv_sub hl [3, 4, 5, 6, 7, 0] rfl)
              · refine lv_iload C.1 C.2.1 dX2_joinNearestPair_89 (lv_at hl 0 rfl) ?_
                refine lv_istore_n (lv' := [(3, .int (dist T i j)), (7, .int (dist T i j)), (6, .int (nI 1)), (0, .ref (a 6)), (1, .int v1), (2, .int v2), (4, .int (nI i)), (5, .int (nI j))]) C.1 C.2.1 dX2_joinNearestPair_91 rfl hl (by decide) rfl (fun ls hl => ?_)
                refine lv_iload C.1 C.2.1 dX2_joinNearestPair_92 (lv_at hl 6 rfl) ?_
                refine lv_istore_n (lv' := [(1, .int (nI i)), (3, .int (dist T i j)), (7, .int (dist T i j)), (6, .int (nI 1)), (0, .ref (a 6)), (2, .int v2), (4, .int (nI i)), (5, .int (nI j))]) C.1 C.2.1 dX2_joinNearestPair_94 rfl hl (by decide) rfl (fun ls hl => ?_)
                refine lv_iload C.1 C.2.1 dX2_joinNearestPair_95 (lv_at hl 7 rfl) ?_
                refine lv_istore_n (lv' := [(2, .int (nI j)), (1, .int (nI i)), (3, .int (dist T i j)), (7, .int (dist T i j)), (6, .int (nI 1)), (0, .ref (a 6)), (4, .int (nI i)), (5, .int (nI j))]) C.1 C.2.1 dX2_joinNearestPair_97 rfl hl (by decide) rfl (fun ls hl => ?_)
                refine lv_iinc (v := nI (j + 1)) (lv' := [(5, .int (nI (j + 1))), (2, .int (nI j)), (1, .int (nI i)), (3, .int (dist T i j)), (7, .int (dist T i j)), (6, .int (nI 1)), (0, .ref (a 6)), (4, .int (nI i))]) C.1 C.2.1 dX2_joinNearestPair_98 hl (k := 7) rfl (nI_add j 1) (by decide) rfl (fun ls hl => ?_)
                refine lv_goto (tgt := 25) C.1 C.2.1 dX2_joinNearestPair_101 (by decide) ?_
                exact ih25 (j + 1) (nI i) (nI j) (dist T i j) _ _ _ (by omega) (by (try simp only [← Int32.not_lt, ← Nat.not_lt, Classical.not_not] at c_6); (try simp only [← Int32.not_lt, ← Nat.not_lt, Classical.not_not] at c_9); (try simp only [← Int32.not_lt, ← Nat.not_lt, Classical.not_not] at c_13); rw [cIn] at hc; simp only [c_6, c_9, c_13, and_self, and_true, true_and, and_false, false_and, or_true, true_or, or_false, false_or, not_true_eq_false, not_false_eq_true, Classical.not_not, if_true, if_false, reduceIte] at hc; exact hc) hH (lv_sub hl [6, 2, 1, 3, 7, 0] rfl)
      exact lq (n) (i + 1) u1 u2 u3 _ _ _ (by omega) (rfl) hH (lv_sub hl [1, 2, 3, 4, 5, 0] rfl)
  exact lp (nd) 0 ((-1)) ((-1)) (nI 2147483647) _ _ _ (by omega) (rfl) hH (lv_sub hl [4, 3, 2, 1, 0] rfl)
set_option maxHeartbeats 400000 in
set_option maxRecDepth 100000 in
theorem c_X2_joinByDistance (l : Launch) (G : xG) (a : Nat → Nat) (S T : Nat → Nat → Int32) (L : Nat → Nat → Int64) (F : Nat → Int32) (bs : Int64) (lv : Nat) (h1 : 1 ≤ lv) (hl9 : lv ≤ 10) (hok : cJoinsOk (lv - 1) lv T) : xMv l yX2_joinByDistance wsX2_joinByDistance { frames := 5, cells := 0, slots := 0, locals := 111 } [.ref (a 6)] G (wX G a S T L ((tS ((tS F 5 (nI lv))) 6 (nI lv))) bs) (wX G a S (cJoins (lv - 1) lv T) L ((tS ((tS F 5 (nI lv))) 6 (nI (lv + (lv - 1))))) bs) 0 0 := by
  refine x_ofv (cc := cX2_joinByDistance) (maxL := 2) (by decide) rfl (Nat.le_of_ble_eq_true rfl) ?_
  intro p e s m args below meth c ls A Q C hml hA hH hl hE
  have hl : lv_has ls 2 [(0, .ref (a 6))] := hl
  have inX2 : ∀ w ∈ wsX20, w ∈ wsX2_joinByDistance := fun _ h => (List.mem_cons_of_mem _ (List.mem_append_right _ h))
  refine lv_iconst (v := nI 1) C.1 C.2.1 dX2_joinByDistance_0 (by decide) ?_
  refine lv_istore_n (lv' := [(1, .int (nI 1)), (0, .ref (a 6))]) C.1 C.2.1 dX2_joinByDistance_1 rfl hl (by decide) rfl (fun ls hl => ?_)
  have lp : ∀ (n : Nat) (i : Nat) (T1 : Nat → Nat → Int32) (nd : Nat) (H : Heap) (locs : List Loc) (ls : Array Slot), i + n = lv → nd = lv + i - 1 → cJoinsOk n nd T1 → cJoins n nd T1 = cJoins (lv - 1) lv T → xH G A s.heap H locs (wX G a S T1 L ((tS ((tS F 5 (nI lv))) 6 (nI nd))) bs) → lv_has ls 2 [(0, .ref (a 6)), (1, .int (nI i))] → W p l e ({ frames := 5, cells := 0, slots := 0, locals := 111 }) s m args below meth c H locs 0 0 Q (F0 m 2 ls []) := by
    intro n
    induction n with
    | zero =>
      intro i T1 nd H locs ls hin hnd hok hf hH hl
      refine lv_iload_n C.1 C.2.1 dX2_joinByDistance_2 rfl (lv_at hl 1 rfl) ?_
      refine lv_aload_n C.1 C.2.1 dX2_joinByDistance_3 rfl (lv_at hl 0 rfl) ?_
      refine x_get (C := RX2) (T := TX2) (N := 14) (v := .int (nI lv)) C inX2 hH 6 gX_6 rfl 12 (by decide) rfl rfl 1 rfl dX2_joinByDistance_4 ?_
      refine lv_icmp_ge (tgt := 20) C.1 C.2.1 dX2_joinByDistance_7 (by decide) (fun _ => ?_) (fun c_1 => absurd ((nI_leI (a := lv) (b := i) (by omega) (by omega)).mpr (by omega)) c_1)
      have hH := x_eqw (w' := wX G a S (cJoins (lv - 1) lv T) L ((tS ((tS F 5 (nI lv))) 6 (nI (lv + (lv - 1))))) bs) (by rw [← hf, show lv + (lv - 1) = nd by omega]; rfl) hH
      exact hE _ _ _ _ hH dX2_joinByDistance_20
    | succ n ih2 =>
      intro i T1 nd H locs ls hin hnd hok hf hH hl
      refine lv_iload_n C.1 C.2.1 dX2_joinByDistance_2 rfl (lv_at hl 1 rfl) ?_
      refine lv_aload_n C.1 C.2.1 dX2_joinByDistance_3 rfl (lv_at hl 0 rfl) ?_
      refine x_get (C := RX2) (T := TX2) (N := 14) (v := .int (nI lv)) C inX2 hH 6 gX_6 rfl 12 (by decide) rfl rfl 1 rfl dX2_joinByDistance_4 ?_
      refine lv_icmp_ge (tgt := 20) C.1 C.2.1 dX2_joinByDistance_7 (by decide) (fun c_2 => absurd ((nI_leI (a := lv) (b := i) (by omega) (by omega)).mp c_2) (by omega)) (fun _ => ?_)
      refine lv_aload_n C.1 C.2.1 dX2_joinByDistance_10 rfl (lv_at hl 0 rfl) ?_
      refine x_cv (w' := wX G a S (joinT T1 nd (cSelI T1 nd) (cSelJ T1 nd)) L ((tS ((tS F 5 (nI lv))) 6 (nI (nd + 1)))) bs) (va_runV (As := []) (rest := []) (x_fix C hml) (c_X2_joinNearestPair l G a S T1 L ((tS F 5 (nI lv))) bs nd hok.1 _) (cwV 0 C.2.2.2.1 gX2_joinByDistance_X2_joinNearestPair rfl rfl rfl (by decide +kernel) ⟨Nat.le_of_ble_eq_true rfl, Nat.le_of_ble_eq_true rfl⟩) (x_pv C hH rfl gX_6 rfl rfl) rfl rfl hl.1 rfl (lv_room (Nat.le_of_ble_eq_true rfl)) dX2_joinByDistance_11 ⟨Nat.le_of_ble_eq_true rfl, Nat.le_of_ble_eq_true rfl⟩) hH hA (fun H locs hH => ?_)
      refine lv_iinc (v := nI (i + 1)) (lv' := [(1, .int (nI (i + 1))), (0, .ref (a 6))]) C.1 C.2.1 dX2_joinByDistance_14 hl (k := 1) rfl (nI_add i 1) (by decide) rfl (fun ls hl => ?_)
      refine lv_goto (tgt := 2) C.1 C.2.1 dX2_joinByDistance_17 (by decide) ?_
      exact ih2 (i + 1) (joinT T1 nd (cSelI T1 nd) (cSelJ T1 nd)) (nd + 1) _ _ _ (by omega) (by omega) (hok.2) (hf) hH (lv_sub hl [1, 0] rfl)
  exact lp (lv - 1) 1 T lv _ _ _ (by omega) (by omega) (hok) (rfl) hH (lv_sub hl [1, 0] rfl)
