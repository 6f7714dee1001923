set_option maxHeartbeats 400000 in
set_option maxRecDepth 100000 in
theorem c_X4_choose (l : Launch) (G : xG) (a : Nat → Nat) (S T K Z : Nat → Nat → Int32) (L : Nat → Nat → Int64) (F : Nat → Int32) (rt : Nat) (pr : Nat → Nat) (hrt : rt < 19) (hP : ∀ k, k < rt → T 2 k = nI (pr k)) (hR : T 2 rt = -1) (hP1 : ∀ k, k < rt → pr k < 19) : xMv l yX4_choose wsX4_choose { frames := 2, cells := 0, slots := 0, locals := 44 } [.ref (a 0)] G (wM G a S T K Z L ((tS F 6 (nI (rt + 1))))) (wM G a S (rootM (chM pr rt (nI 1024 * (F 0 + F 1)) (nI 1024 * (F 0 - F 1)) (rt + 1) T) rt (nI 1024 * (F 0 + F 1)) (nI 1024 * (F 0 - F 1))) K Z L ((tS F 6 (nI (rt + 1))))) 0 0 := by
  refine x_ofv (cc := cX4_choose) (maxL := 8) (by decide) rfl (Nat.le_of_ble_eq_true rfl) ?_
  intro p e s m args below meth c ls A Q C hml hA hH hl hE
  have hl : lv_has ls 8 [(0, .ref (a 0))] := hl
  have inX4 : ∀ w ∈ wsX40, w ∈ wsX4_choose := fun _ h => (List.mem_cons_of_mem _ (List.mem_append_right _ h))
  refine lv_aload_n C.1 C.2.1 dX4_choose_0 rfl (lv_at hl 0 rfl) ?_
  refine x_get (C := RX4) (T := TX4) (N := 37) (v := .int (nI (rt + 1))) C inX4 hH 0 gM_0 rfl 14 (by decide) rfl rfl 1 rfl dX4_choose_1 ?_
  refine lv_iconst (v := nI 1) C.1 C.2.1 dX4_choose_4 (by decide) ?_
  refine lv_isub C.1 C.2.1 dX4_choose_5 ?_
  refine x_toi (pk_sub (a := rt + 1) (b := 1) (by omega)) ?_
  refine lv_istore_n (lv' := [(1, .int (nI rt)), (0, .ref (a 0))]) C.1 C.2.1 dX4_choose_6 rfl hl (by decide) rfl (fun ls hl => ?_)
  refine lv_sipush (v := nI 1024) C.1 C.2.1 dX4_choose_7 (by decide) ?_
  refine lv_aload_n C.1 C.2.1 dX4_choose_10 rfl (lv_at hl 1 rfl) ?_
  refine x_get (C := RX4) (T := TX4) (N := 37) (v := .int (F 0)) C inX4 hH 0 gM_0 rfl 6 (by decide) rfl rfl 2 rfl dX4_choose_11 ?_
  refine lv_aload_n C.1 C.2.1 dX4_choose_14 rfl (lv_at hl 1 rfl) ?_
  refine x_get (C := RX4) (T := TX4) (N := 37) (v := .int (F 1)) C inX4 hH 0 gM_0 rfl 7 (by decide) rfl rfl 3 rfl dX4_choose_15 ?_
  refine lv_iadd C.1 C.2.1 dX4_choose_18 ?_
  refine lv_imul C.1 C.2.1 dX4_choose_19 ?_
  refine lv_istore_n (lv' := [(2, .int ((nI 1024) * ((F 0) + (F 1)))), (1, .int (nI rt)), (0, .ref (a 0))]) C.1 C.2.1 dX4_choose_20 rfl hl (by decide) rfl (fun ls hl => ?_)
  refine lv_sipush (v := nI 1024) C.1 C.2.1 dX4_choose_21 (by decide) ?_
  refine lv_aload_n C.1 C.2.1 dX4_choose_24 rfl (lv_at hl 2 rfl) ?_
  refine x_get (C := RX4) (T := TX4) (N := 37) (v := .int (F 0)) C inX4 hH 0 gM_0 rfl 6 (by decide) rfl rfl 2 rfl dX4_choose_25 ?_
  refine lv_aload_n C.1 C.2.1 dX4_choose_28 rfl (lv_at hl 2 rfl) ?_
  refine x_get (C := RX4) (T := TX4) (N := 37) (v := .int (F 1)) C inX4 hH 0 gM_0 rfl 7 (by decide) rfl rfl 3 rfl dX4_choose_29 ?_
  refine lv_isub C.1 C.2.1 dX4_choose_32 ?_
  refine lv_imul C.1 C.2.1 dX4_choose_33 ?_
  refine lv_istore_n (lv' := [(3, .int ((nI 1024) * ((F 0) - (F 1)))), (2, .int ((nI 1024) * ((F 0) + (F 1)))), (1, .int (nI rt)), (0, .ref (a 0))]) C.1 C.2.1 dX4_choose_34 rfl hl (by decide) rfl (fun ls hl => ?_)
  refine lv_iload_n C.1 C.2.1 dX4_choose_35 rfl (lv_at hl 2 rfl) ?_
  refine lv_istore (lv' := [(4, .int (nI rt)), (3, .int ((nI 1024) * ((F 0) - (F 1)))), (2, .int ((nI 1024) * ((F 0) + (F 1)))), (1, .int (nI rt)), (0, .ref (a 0))]) C.1 C.2.1 dX4_choose_36 hl (by decide) rfl (fun ls hl => ?_)
  have lp : ∀ (n : Nat) (k4 : Int32) (T1 : Nat → Nat → Int32) (H : Heap) (locs : List Loc) (ls : Array Slot), n ≤ rt + 1 → k4 = kD n → (∀ k, k < rt → T1 2 k = nI (pr k)) → T1 2 rt = -1 → chM pr rt (nI 1024 * (F 0 + F 1)) (nI 1024 * (F 0 - F 1)) n T1 = chM pr rt (nI 1024 * (F 0 + F 1)) (nI 1024 * (F 0 - F 1)) (rt + 1) T → xH G A s.heap H locs (wM G a S T1 K Z L ((tS F 6 (nI (rt + 1))))) → lv_has ls 8 [(0, .ref (a 0)), (1, .int (nI rt)), (2, .int ((nI 1024) * ((F 0) + (F 1)))), (3, .int ((nI 1024) * ((F 0) - (F 1)))), (4, .int k4)] → W p l e ({ frames := 2, cells := 0, slots := 0, locals := 44 }) s m args below meth c H locs 0 0 Q (F0 m 38 ls []) := by
    intro n
    induction n with
    | zero =>
      intro k4 T1 H locs ls hn9 hk4 hp hr hf hH hl
      have hk4 : k4 = -1 := hk4
      subst hk4
      have hf : T1 = chM pr rt (nI 1024 * (F 0 + F 1)) (nI 1024 * (F 0 - F 1)) (rt + 1) T := hf
      refine lv_iload C.1 C.2.1 dX4_choose_38 (lv_at hl 4 rfl) ?_
      refine lv_if_lt (tgt := 146) C.1 C.2.1 dX4_choose_40 (by decide) (fun _ => ?_) (fun c_1 => absurd (by decide) c_1)
      refine lv_aload_n C.1 C.2.1 dX4_choose_146 rfl (lv_at hl 0 rfl) ?_
      refine x_get (C := RX4) (T := TX4) (N := 37) (v := .ref (a 13)) C inX4 hH 0 gM_0 rfl 23 (by decide) rfl rfl 11 rfl dX4_choose_147 ?_
      refine lv_iload_n C.1 C.2.1 dX4_choose_150 rfl (lv_at hl 1 rfl) ?_
      refine lv_aload_n C.1 C.2.1 dX4_choose_151 rfl (lv_at hl 0 rfl) ?_
      refine x_get (C := RX4) (T := TX4) (N := 37) (v := .ref (a 14)) C inX4 hH 0 gM_0 rfl 24 (by decide) rfl rfl 5 rfl dX4_choose_152 ?_
      refine lv_iload_n C.1 C.2.1 dX4_choose_155 rfl (lv_at hl 1 rfl) ?_
      refine x_iald (f := T1 9) (j := rt) (v := T1 9 rt) C hH 14 gM_14 (by omega) (by decide) (rfl) dX4_choose_156 ?_
      refine lv_aload_n C.1 C.2.1 dX4_choose_157 rfl (lv_at hl 0 rfl) ?_
      refine x_get (C := RX4) (T := TX4) (N := 37) (v := .ref (a 14)) C inX4 hH 0 gM_0 rfl 24 (by decide) rfl rfl 5 rfl dX4_choose_158 ?_
      refine lv_iload_n C.1 C.2.1 dX4_choose_161 rfl (lv_at hl 1 rfl) ?_
      refine x_iald (f := T1 9) (j := rt) (v := T1 9 rt) C hH 14 gM_14 (by omega) (by decide) (rfl) dX4_choose_162 ?_
      refine lv_iload_n C.1 C.2.1 dX4_choose_163 rfl (lv_at hl 2 rfl) ?_
      refine lv_iload_n C.1 C.2.1 dX4_choose_164 rfl (lv_at hl 2 rfl) ?_
      refine x_ci (w' := wM G a S T1 K Z L ((tS F 6 (nI (rt + 1))))) (va_runS (As := [.int (T1 9 rt), .int (T1 9 rt), .int ((nI 1024) * ((F 0) + (F 1))), .int ((nI 1024) * ((F 0) + (F 1)))]) (rest := [.int (nI rt), .ref (a 13)]) (x_fix C hml) (c_X4_gap l G a S T1 K Z L ((tS F 6 (nI (rt + 1)))) (T1 9 rt) (T1 9 rt) ((nI 1024) * ((F 0) + (F 1))) ((nI 1024) * ((F 0) + (F 1))) _) (cwS 4 C.2.2.2.1 gX4_choose_X4_gap rfl rfl rfl (by decide +kernel) ⟨Nat.le_of_ble_eq_true rfl, Nat.le_of_ble_eq_true rfl⟩) (x_ps C hH) rfl rfl hl.1 rfl (lv_room (Nat.le_of_ble_eq_true rfl)) dX4_choose_165 ⟨Nat.le_of_ble_eq_true rfl, Nat.le_of_ble_eq_true rfl⟩) hH hA (fun H locs hH => ?_)
      refine lv_aload_n C.1 C.2.1 dX4_choose_168 rfl (lv_at hl 0 rfl) ?_
      refine x_get (C := RX4) (T := TX4) (N := 37) (v := .ref (a 15)) C inX4 hH 0 gM_0 rfl 25 (by decide) rfl rfl 6 rfl dX4_choose_169 ?_
      refine lv_iload_n C.1 C.2.1 dX4_choose_172 rfl (lv_at hl 1 rfl) ?_
      refine x_iald (f := T1 10) (j := rt) (v := T1 10 rt) C hH 15 gM_15 (by omega) (by decide) (rfl) dX4_choose_173 ?_
      refine lv_aload_n C.1 C.2.1 dX4_choose_174 rfl (lv_at hl 0 rfl) ?_
      refine x_get (C := RX4) (T := TX4) (N := 37) (v := .ref (a 15)) C inX4 hH 0 gM_0 rfl 25 (by decide) rfl rfl 6 rfl dX4_choose_175 ?_
      refine lv_iload_n C.1 C.2.1 dX4_choose_178 rfl (lv_at hl 1 rfl) ?_
      refine x_iald (f := T1 10) (j := rt) (v := T1 10 rt) C hH 15 gM_15 (by omega) (by decide) (rfl) dX4_choose_179 ?_
      refine lv_iload_n C.1 C.2.1 dX4_choose_180 rfl (lv_at hl 3 rfl) ?_
      refine lv_iload_n C.1 C.2.1 dX4_choose_181 rfl (lv_at hl 3 rfl) ?_
      refine x_ci (w' := wM G a S T1 K Z L ((tS F 6 (nI (rt + 1))))) (va_runS (As := [.int (T1 10 rt), .int (T1 10 rt), .int ((nI 1024) * ((F 0) - (F 1))), .int ((nI 1024) * ((F 0) - (F 1)))]) (rest := [.int (iG (T1 9 rt) (T1 9 rt) ((nI 1024) * ((F 0) + (F 1))) ((nI 1024) * ((F 0) + (F 1)))), .int (nI rt), .ref (a 13)]) (x_fix C hml) (c_X4_gap l G a S T1 K Z L ((tS F 6 (nI (rt + 1)))) (T1 10 rt) (T1 10 rt) ((nI 1024) * ((F 0) - (F 1))) ((nI 1024) * ((F 0) - (F 1))) _) (cwS 4 C.2.2.2.1 gX4_choose_X4_gap rfl rfl rfl (by decide +kernel) ⟨Nat.le_of_ble_eq_true rfl, Nat.le_of_ble_eq_true rfl⟩) (x_ps C hH) rfl rfl hl.1 rfl (lv_room (Nat.le_of_ble_eq_true rfl)) dX4_choose_182 ⟨Nat.le_of_ble_eq_true rfl, Nat.le_of_ble_eq_true rfl⟩) hH hA (fun H locs hH => ?_)
      refine x_ci (w' := wM G a S T1 K Z L ((tS F 6 (nI (rt + 1))))) (va_runS (As := [.int (iG (T1 9 rt) (T1 9 rt) ((nI 1024) * ((F 0) + (F 1))) ((nI 1024) * ((F 0) + (F 1)))), .int (iG (T1 10 rt) (T1 10 rt) ((nI 1024) * ((F 0) - (F 1))) ((nI 1024) * ((F 0) - (F 1))))]) (rest := [.int (nI rt), .ref (a 13)]) (x_fix C hml) (c_X4_greater l G a S T1 K Z L ((tS F 6 (nI (rt + 1)))) (iG (T1 9 rt) (T1 9 rt) ((nI 1024) * ((F 0) + (F 1))) ((nI 1024) * ((F 0) + (F 1)))) (iG (T1 10 rt) (T1 10 rt) ((nI 1024) * ((F 0) - (F 1))) ((nI 1024) * ((F 0) - (F 1)))) _) (cwS 2 C.2.2.2.1 gX4_choose_X4_greater rfl rfl rfl (by decide +kernel) ⟨Nat.le_of_ble_eq_true rfl, Nat.le_of_ble_eq_true rfl⟩) (x_ps C hH) rfl rfl hl.1 rfl (lv_room (Nat.le_of_ble_eq_true rfl)) dX4_choose_185 ⟨Nat.le_of_ble_eq_true rfl, Nat.le_of_ble_eq_true rfl⟩) hH hA (fun H locs hH => ?_)
      refine x_iast (f := T1 8) (j := rt) (x := imax (iG (T1 9 rt) (T1 9 rt) ((nI 1024) * ((F 0) + (F 1))) ((nI 1024) * ((F 0) + (F 1)))) (iG (T1 10 rt) (T1 10 rt) ((nI 1024) * ((F 0) - (F 1))) ((nI 1024) * ((F 0) - (F 1))))) (w' := wM G a S ((tS T1 8 (upd (T1 8) rt (imax (iG (T1 9 rt) (T1 9 rt) ((nI 1024) * ((F 0) + (F 1))) ((nI 1024) * ((F 0) + (F 1)))) (iG (T1 10 rt) (T1 10 rt) ((nI 1024) * ((F 0) - (F 1))) ((nI 1024) * ((F 0) - (F 1)))))))) K Z L ((tS F 6 (nI (rt + 1))))) C hH 13 gM_13 (by omega) (by decide) sM_13 dX4_choose_188 (fun H locs hH => ?_)
      have hH := x_eqw (w' := wM G a S (rootM (chM pr rt (nI 1024 * (F 0 + F 1)) (nI 1024 * (F 0 - F 1)) (rt + 1) T) rt (nI 1024 * (F 0 + F 1)) (nI 1024 * (F 0 - F 1))) K Z L ((tS F 6 (nI (rt + 1))))) (by rw [← hf]; rfl) hH
      exact hE _ _ _ _ hH dX4_choose_189
    | succ n ih38 =>
      intro k4 T1 H locs ls hn9 hk4 hp hr hf hH hl
      have hk4 : k4 = nI n := hk4
      subst hk4
      have hP2 := hP1 n
      refine lv_iload C.1 C.2.1 dX4_choose_38 (lv_at hl 4 rfl) ?_
      refine lv_if_lt (tgt := 146) C.1 C.2.1 dX4_choose_40 (by decide) (fun c_2 => absurd c_2 (nI_pos (by omega))) (fun _ => ?_)
      rcases Nat.lt_or_ge n rt with hk | hk
      · have hP3 := hP2 hk
        refine lv_aload_n C.1 C.2.1 dX4_choose_43 rfl (lv_at hl 0 rfl) ?_
        refine x_get (C := RX4) (T := TX4) (N := 37) (v := .ref (a 7)) C inX4 hH 0 gM_0 rfl 17 (by decide) rfl rfl 4 rfl dX4_choose_44 ?_
        refine lv_iload C.1 C.2.1 dX4_choose_47 (lv_at hl 4 rfl) ?_
        refine x_iald (f := T1 2) (j := n) (v := nI (pr n)) C hH 7 gM_7 (by omega) (by decide) (hp n hk) dX4_choose_49 ?_
        refine lv_istore (lv' := [(5, .int (nI (pr n))), (0, .ref (a 0)), (1, .int (nI rt)), (2, .int ((nI 1024) * ((F 0) + (F 1)))), (3, .int ((nI 1024) * ((F 0) - (F 1)))), (4, .int (nI n))]) C.1 C.2.1 dX4_choose_50 hl (by decide) rfl (fun ls hl => ?_)
        refine lv_iload C.1 C.2.1 dX4_choose_52 (lv_at hl 0 rfl) ?_
        refine lv_if_ge (tgt := 61) C.1 C.2.1 dX4_choose_54 (by decide) (fun _ => ?_) (fun c_3 => absurd (nI_pos' (by omega)) c_3)
        refine lv_aload_n C.1 C.2.1 dX4_choose_61 rfl (lv_at hl 1 rfl) ?_
        refine x_get (C := RX4) (T := TX4) (N := 37) (v := .ref (a 14)) C inX4 hH 0 gM_0 rfl 24 (by decide) rfl rfl 5 rfl dX4_choose_62 ?_
        refine lv_iload C.1 C.2.1 dX4_choose_65 (lv_at hl 0 rfl) ?_
        refine x_iald (f := T1 9) (j := pr n) (v := T1 9 (pr n)) C hH 14 gM_14 (by omega) (by decide) (rfl) dX4_choose_67 ?_
        refine lv_istore (lv' := [(6, .int (T1 9 (pr n))), (5, .int (nI (pr n))), (0, .ref (a 0)), (1, .int (nI rt)), (2, .int ((nI 1024) * ((F 0) + (F 1)))), (3, .int ((nI 1024) * ((F 0) - (F 1)))), (4, .int (nI n))]) C.1 C.2.1 dX4_choose_68 hl (by decide) rfl (fun ls hl => ?_)
        refine lv_iload C.1 C.2.1 dX4_choose_70 (lv_at hl 1 rfl) ?_
        refine lv_if_ge (tgt := 79) C.1 C.2.1 dX4_choose_72 (by decide) (fun _ => ?_) (fun c_4 => absurd (nI_pos' (by omega)) c_4)
        refine lv_aload_n C.1 C.2.1 dX4_choose_79 rfl (lv_at hl 2 rfl) ?_
        refine x_get (C := RX4) (T := TX4) (N := 37) (v := .ref (a 15)) C inX4 hH 0 gM_0 rfl 25 (by decide) rfl rfl 6 rfl dX4_choose_80 ?_
        refine lv_iload C.1 C.2.1 dX4_choose_83 (lv_at hl 1 rfl) ?_
        refine x_iald (f := T1 10) (j := pr n) (v := T1 10 (pr n)) C hH 15 gM_15 (by omega) (by decide) (rfl) dX4_choose_85 ?_
        refine lv_istore (lv' := [(7, .int (T1 10 (pr n))), (6, .int (T1 9 (pr n))), (5, .int (nI (pr n))), (0, .ref (a 0)), (1, .int (nI rt)), (2, .int ((nI 1024) * ((F 0) + (F 1)))), (3, .int ((nI 1024) * ((F 0) - (F 1)))), (4, .int (nI n))]) C.1 C.2.1 dX4_choose_86 hl (by decide) rfl (fun ls hl => ?_)
        refine lv_aload_n C.1 C.2.1 dX4_choose_88 rfl (lv_at hl 3 rfl) ?_
        refine x_get (C := RX4) (T := TX4) (N := 37) (v := .ref (a 14)) C inX4 hH 0 gM_0 rfl 24 (by decide) rfl rfl 5 rfl dX4_choose_89 ?_
        refine lv_iload C.1 C.2.1 dX4_choose_92 (lv_at hl 7 rfl) ?_
        refine lv_iload C.1 C.2.1 dX4_choose_94 (lv_at hl 1 rfl) ?_
        refine lv_aload_n C.1 C.2.1 dX4_choose_96 rfl (lv_at hl 3 rfl) ?_
        refine x_get (C := RX4) (T := TX4) (N := 37) (v := .ref (a 8)) C inX4 hH 0 gM_0 rfl 18 (by decide) rfl rfl 7 rfl dX4_choose_97 ?_
        refine lv_iload C.1 C.2.1 dX4_choose_100 (lv_at hl 7 rfl) ?_
        refine x_iald (f := T1 3) (j := n) (v := T1 3 n) C hH 8 gM_8 (by omega) (by decide) (rfl) dX4_choose_102 ?_
        refine lv_aload_n C.1 C.2.1 dX4_choose_103 rfl (lv_at hl 3 rfl) ?_
        refine x_get (C := RX4) (T := TX4) (N := 37) (v := .ref (a 9)) C inX4 hH 0 gM_0 rfl 19 (by decide) rfl rfl 8 rfl dX4_choose_104 ?_
        refine lv_iload C.1 C.2.1 dX4_choose_107 (lv_at hl 7 rfl) ?_
        refine x_iald (f := T1 4) (j := n) (v := T1 4 n) C hH 9 gM_9 (by omega) (by decide) (rfl) dX4_choose_109 ?_
        refine x_ci (w' := wM G a S T1 K Z L ((tS F 6 (nI (rt + 1))))) (va_runS (As := [.int (T1 9 (pr n)), .int (T1 3 n), .int (T1 4 n)]) (rest := [.int (nI n), .ref (a 14)]) (x_fix C hml) (c_X4_nearest l G a S T1 K Z L ((tS F 6 (nI (rt + 1)))) (T1 9 (pr n)) (T1 3 n) (T1 4 n) _) (cwS 3 C.2.2.2.1 gX4_choose_X4_nearest rfl rfl rfl (by decide +kernel) ⟨Nat.le_of_ble_eq_true rfl, Nat.le_of_ble_eq_true rfl⟩) (x_ps C hH) rfl rfl hl.1 rfl (lv_room (Nat.le_of_ble_eq_true rfl)) dX4_choose_110 ⟨Nat.le_of_ble_eq_true rfl, Nat.le_of_ble_eq_true rfl⟩) hH hA (fun H locs hH => ?_)
        refine x_iast (f := T1 9) (j := n) (x := iNear (T1 9 (pr n)) (T1 3 n) (T1 4 n)) (w' := wM G a S ((tS T1 9 (upd (T1 9) n (iNear (T1 9 (pr n)) (T1 3 n) (T1 4 n))))) K Z L ((tS F 6 (nI (rt + 1))))) C hH 14 gM_14 (by omega) (by decide) sM_14 dX4_choose_113 (fun H locs hH => ?_)
        refine lv_aload_n C.1 C.2.1 dX4_choose_114 rfl (lv_at hl 3 rfl) ?_
        refine x_get (C := RX4) (T := TX4) (N := 37) (v := .ref (a 15)) C inX4 hH 0 gM_0 rfl 25 (by decide) rfl rfl 6 rfl dX4_choose_115 ?_
        refine lv_iload C.1 C.2.1 dX4_choose_118 (lv_at hl 7 rfl) ?_
        refine lv_iload C.1 C.2.1 dX4_choose_120 (lv_at hl 0 rfl) ?_
        refine lv_aload_n C.1 C.2.1 dX4_choose_122 rfl (lv_at hl 3 rfl) ?_
        refine x_get (C := RX4) (T := TX4) (N := 37) (v := .ref (a 10)) C inX4 hH 0 gM_0 rfl 20 (by decide) rfl rfl 9 rfl dX4_choose_123 ?_
        refine lv_iload C.1 C.2.1 dX4_choose_126 (lv_at hl 7 rfl) ?_
        refine x_iald (f := T1 5) (j := n) (v := T1 5 n) C hH 10 gM_10 (by omega) (by decide) (rfl) dX4_choose_128 ?_
        refine lv_aload_n C.1 C.2.1 dX4_choose_129 rfl (lv_at hl 3 rfl) ?_
        refine x_get (C := RX4) (T := TX4) (N := 37) (v := .ref (a 11)) C inX4 hH 0 gM_0 rfl 21 (by decide) rfl rfl 10 rfl dX4_choose_130 ?_
        refine lv_iload C.1 C.2.1 dX4_choose_133 (lv_at hl 7 rfl) ?_
        refine x_iald (f := T1 6) (j := n) (v := T1 6 n) C hH 11 gM_11 (by omega) (by decide) (rfl) dX4_choose_135 ?_
        refine x_ci (w' := wM G a S ((tS T1 9 (upd (T1 9) n (iNear (T1 9 (pr n)) (T1 3 n) (T1 4 n))))) K Z L ((tS F 6 (nI (rt + 1))))) (va_runS (As := [.int (T1 10 (pr n)), .int (T1 5 n), .int (T1 6 n)]) (rest := [.int (nI n), .ref (a 15)]) (x_fix C hml) (c_X4_nearest l G a S ((tS T1 9 (upd (T1 9) n (iNear (T1 9 (pr n)) (T1 3 n) (T1 4 n))))) K Z L ((tS F 6 (nI (rt + 1)))) (T1 10 (pr n)) (T1 5 n) (T1 6 n) _) (cwS 3 C.2.2.2.1 gX4_choose_X4_nearest rfl rfl rfl (by decide +kernel) ⟨Nat.le_of_ble_eq_true rfl, Nat.le_of_ble_eq_true rfl⟩) (x_ps C hH) rfl rfl hl.1 rfl (lv_room (Nat.le_of_ble_eq_true rfl)) dX4_choose_136 ⟨Nat.le_of_ble_eq_true rfl, Nat.le_of_ble_eq_true rfl⟩) hH hA (fun H locs hH => ?_)
        refine x_iast (f := T1 10) (j := n) (x := iNear (T1 10 (pr n)) (T1 5 n) (T1 6 n)) (w' := wM G a S ((tS ((tS T1 9 (upd (T1 9) n (iNear (T1 9 (pr n)) (T1 3 n) (T1 4 n))))) 10 (upd (T1 10) n (iNear (T1 10 (pr n)) (T1 5 n) (T1 6 n))))) K Z L ((tS F 6 (nI (rt + 1))))) C hH 15 gM_15 (by omega) (by decide) sM_15 dX4_choose_139 (fun H locs hH => ?_)
        refine lv_iinc (v := nI n + Int32.ofInt (-1)) (lv' := [(4, .int (nI n + Int32.ofInt (-1))), (7, .int (T1 10 (pr n))), (6, .int (T1 9 (pr n))), (5, .int (nI (pr n))), (0, .ref (a 0)), (1, .int (nI rt)), (2, .int ((nI 1024) * ((F 0) + (F 1)))), (3, .int ((nI 1024) * ((F 0) - (F 1))))]) C.1 C.2.1 dX4_choose_140 hl (k := 7) rfl (rfl) (by decide) rfl (fun ls hl => ?_)
        refine lv_goto (tgt := 38) C.1 C.2.1 dX4_choose_143 (by decide) ?_
        have hH := x_eqw (w' := wM G a S (standM T1 n (if n < rt then T1 9 (pr n) else (nI 1024 * (F 0 + F 1))) (if n < rt then T1 10 (pr n) else (nI 1024 * (F 0 - F 1)))) K Z L ((tS F 6 (nI (rt + 1))))) (by first | (rw [if_pos hk, if_pos hk]; rfl) | (rw [if_neg (by omega), if_neg (by omega)]; rfl)) hH
        exact ih38 (nI n + Int32.ofInt (-1)) (standM T1 n (if n < rt then T1 9 (pr n) else (nI 1024 * (F 0 + F 1))) (if n < rt then T1 10 (pr n) else (nI 1024 * (F 0 - F 1)))) _ _ _ (by omega) (kD_dec n) (hp) (hr) (hf) hH (lv_sub hl [4, 5, 6, 7, 0] rfl)
      · skip
        refine lv_aload_n C.1 C.2.1 dX4_choose_43 rfl (lv_at hl 0 rfl) ?_
        refine x_get (C := RX4) (T := TX4) (N := 37) (v := .ref (a 7)) C inX4 hH 0 gM_0 rfl 17 (by decide) rfl rfl 4 rfl dX4_choose_44 ?_
        refine lv_iload C.1 C.2.1 dX4_choose_47 (lv_at hl 4 rfl) ?_
        refine x_iald (f := T1 2) (j := n) (v := (-1)) C hH 7 gM_7 (by omega) (by decide) (by rw [show n = rt by omega]; exact hr) dX4_choose_49 ?_
        refine lv_istore (lv' := [(5, .int ((-1))), (0, .ref (a 0)), (1, .int (nI rt)), (2, .int ((nI 1024) * ((F 0) + (F 1)))), (3, .int ((nI 1024) * ((F 0) - (F 1)))), (4, .int (nI n))]) C.1 C.2.1 dX4_choose_50 hl (by decide) rfl (fun ls hl => ?_)
        refine lv_iload C.1 C.2.1 dX4_choose_52 (lv_at hl 0 rfl) ?_
        refine lv_if_ge (tgt := 61) C.1 C.2.1 dX4_choose_54 (by decide) (fun c_5 => absurd c_5 (by decide)) (fun _ => ?_)
        refine lv_iload_n C.1 C.2.1 dX4_choose_57 rfl (lv_at hl 3 rfl) ?_
        refine lv_goto (tgt := 68) C.1 C.2.1 dX4_choose_58 (by decide) ?_
        refine lv_istore (lv' := [(6, .int ((nI 1024) * ((F 0) + (F 1)))), (5, .int ((-1))), (0, .ref (a 0)), (1, .int (nI rt)), (2, .int ((nI 1024) * ((F 0) + (F 1)))), (3, .int ((nI 1024) * ((F 0) - (F 1)))), (4, .int (nI n))]) C.1 C.2.1 dX4_choose_68 hl (by decide) rfl (fun ls hl => ?_)
        refine lv_iload C.1 C.2.1 dX4_choose_70 (lv_at hl 1 rfl) ?_
        refine lv_if_ge (tgt := 79) C.1 C.2.1 dX4_choose_72 (by decide) (fun c_6 => absurd c_6 (by decide)) (fun _ => ?_)
        refine lv_iload_n C.1 C.2.1 dX4_choose_75 rfl (lv_at hl 5 rfl) ?_
        refine lv_goto (tgt := 86) C.1 C.2.1 dX4_choose_76 (by decide) ?_
        refine lv_istore (lv' := [(7, .int ((nI 1024) * ((F 0) - (F 1)))), (6, .int ((nI 1024) * ((F 0) + (F 1)))), (5, .int ((-1))), (0, .ref (a 0)), (1, .int (nI rt)), (2, .int ((nI 1024) * ((F 0) + (F 1)))), (3, .int ((nI 1024) * ((F 0) - (F 1)))), (4, .int (nI n))]) C.1 C.2.1 dX4_choose_86 hl (by decide) rfl (fun ls hl => ?_)
        refine lv_aload_n C.1 C.2.1 dX4_choose_88 rfl (lv_at hl 3 rfl) ?_
        refine x_get (C := RX4) (T := TX4) (N := 37) (v := .ref (a 14)) C inX4 hH 0 gM_0 rfl 24 (by decide) rfl rfl 5 rfl dX4_choose_89 ?_
        refine lv_iload C.1 C.2.1 dX4_choose_92 (lv_at hl 7 rfl) ?_
        refine lv_iload C.1 C.2.1 dX4_choose_94 (lv_at hl 1 rfl) ?_
        refine lv_aload_n C.1 C.2.1 dX4_choose_96 rfl (lv_at hl 3 rfl) ?_
        refine x_get (C := RX4) (T := TX4) (N := 37) (v := .ref (a 8)) C inX4 hH 0 gM_0 rfl 18 (by decide) rfl rfl 7 rfl dX4_choose_97 ?_
        refine lv_iload C.1 C.2.1 dX4_choose_100 (lv_at hl 7 rfl) ?_
        refine x_iald (f := T1 3) (j := n) (v := T1 3 n) C hH 8 gM_8 (by omega) (by decide) (rfl) dX4_choose_102 ?_
        refine lv_aload_n C.1 C.2.1 dX4_choose_103 rfl (lv_at hl 3 rfl) ?_
        refine x_get (C := RX4) (T := TX4) (N := 37) (v := .ref (a 9)) C inX4 hH 0 gM_0 rfl 19 (by decide) rfl rfl 8 rfl dX4_choose_104 ?_
        refine lv_iload C.1 C.2.1 dX4_choose_107 (lv_at hl 7 rfl) ?_
        refine x_iald (f := T1 4) (j := n) (v := T1 4 n) C hH 9 gM_9 (by omega) (by decide) (rfl) dX4_choose_109 ?_
        refine x_ci (w' := wM G a S T1 K Z L ((tS F 6 (nI (rt + 1))))) (va_runS (As := [.int ((nI 1024) * ((F 0) + (F 1))), .int (T1 3 n), .int (T1 4 n)]) (rest := [.int (nI n), .ref (a 14)]) (x_fix C hml) (c_X4_nearest l G a S T1 K Z L ((tS F 6 (nI (rt + 1)))) ((nI 1024) * ((F 0) + (F 1))) (T1 3 n) (T1 4 n) _) (cwS 3 C.2.2.2.1 gX4_choose_X4_nearest rfl rfl rfl (by decide +kernel) ⟨Nat.le_of_ble_eq_true rfl, Nat.le_of_ble_eq_true rfl⟩) (x_ps C hH) rfl rfl hl.1 rfl (lv_room (Nat.le_of_ble_eq_true rfl)) dX4_choose_110 ⟨Nat.le_of_ble_eq_true rfl, Nat.le_of_ble_eq_true rfl⟩) hH hA (fun H locs hH => ?_)
        refine x_iast (f := T1 9) (j := n) (x := iNear ((nI 1024) * ((F 0) + (F 1))) (T1 3 n) (T1 4 n)) (w' := wM G a S ((tS T1 9 (upd (T1 9) n (iNear ((nI 1024) * ((F 0) + (F 1))) (T1 3 n) (T1 4 n))))) K Z L ((tS F 6 (nI (rt + 1))))) C hH 14 gM_14 (by omega) (by decide) sM_14 dX4_choose_113 (fun H locs hH => ?_)
        refine lv_aload_n C.1 C.2.1 dX4_choose_114 rfl (lv_at hl 3 rfl) ?_
        refine x_get (C := RX4) (T := TX4) (N := 37) (v := .ref (a 15)) C inX4 hH 0 gM_0 rfl 25 (by decide) rfl rfl 6 rfl dX4_choose_115 ?_
        refine lv_iload C.1 C.2.1 dX4_choose_118 (lv_at hl 7 rfl) ?_
        refine lv_iload C.1 C.2.1 dX4_choose_120 (lv_at hl 0 rfl) ?_
        refine lv_aload_n C.1 C.2.1 dX4_choose_122 rfl (lv_at hl 3 rfl) ?_
        refine x_get (C := RX4) (T := TX4) (N := 37) (v := .ref (a 10)) C inX4 hH 0 gM_0 rfl 20 (by decide) rfl rfl 9 rfl dX4_choose_123 ?_
        refine lv_iload C.1 C.2.1 dX4_choose_126 (lv_at hl 7 rfl) ?_
        refine x_iald (f := T1 5) (j := n) (v := T1 5 n) C hH 10 gM_10 (by omega) (by decide) (rfl) dX4_choose_128 ?_
        refine lv_aload_n C.1 C.2.1 dX4_choose_129 rfl (lv_at hl 3 rfl) ?_
        refine x_get (C := RX4) (T := TX4) (N := 37) (v := .ref (a 11)) C inX4 hH 0 gM_0 rfl 21 (by decide) rfl rfl 10 rfl dX4_choose_130 ?_
        refine lv_iload C.1 C.2.1 dX4_choose_133 (lv_at hl 7 rfl) ?_
        refine x_iald (f := T1 6) (j := n) (v := T1 6 n) C hH 11 gM_11 (by omega) (by decide) (rfl) dX4_choose_135 ?_
        refine x_ci (w' := wM G a S ((tS T1 9 (upd (T1 9) n (iNear ((nI 1024) * ((F 0) + (F 1))) (T1 3 n) (T1 4 n))))) K Z L ((tS F 6 (nI (rt + 1))))) (va_runS (As := [.int ((nI 1024) * ((F 0) - (F 1))), .int (T1 5 n), .int (T1 6 n)]) (rest := [.int (nI n), .ref (a 15)]) (x_fix C hml) (c_X4_nearest l G a S ((tS T1 9 (upd (T1 9) n (iNear ((nI 1024) * ((F 0) + (F 1))) (T1 3 n) (T1 4 n))))) K Z L ((tS F 6 (nI (rt + 1)))) ((nI 1024) * ((F 0) - (F 1))) (T1 5 n) (T1 6 n) _) (cwS 3 C.2.2.2.1 gX4_choose_X4_nearest rfl rfl rfl (by decide +kernel) ⟨Nat.le_of_ble_eq_true rfl, Nat.le_of_ble_eq_true rfl⟩) (x_ps C hH) rfl rfl hl.1 rfl (lv_room (Nat.le_of_ble_eq_true rfl)) dX4_choose_136 ⟨Nat.le_of_ble_eq_true rfl, Nat.le_of_ble_eq_true rfl⟩) hH hA (fun H locs hH => ?_)
        refine x_iast (f := T1 10) (j := n) (x := iNear ((nI 1024) * ((F 0) - (F 1))) (T1 5 n) (T1 6 n)) (w' := wM G a S ((tS ((tS T1 9 (upd (T1 9) n (iNear ((nI 1024) * ((F 0) + (F 1))) (T1 3 n) (T1 4 n))))) 10 (upd (T1 10) n (iNear ((nI 1024) * ((F 0) - (F 1))) (T1 5 n) (T1 6 n))))) K Z L ((tS F 6 (nI (rt + 1))))) C hH 15 gM_15 (by omega) (by decide) sM_15 dX4_choose_139 (fun H locs hH => ?_)
        refine lv_iinc (v := nI n + Int32.ofInt (-1)) (lv' := [(4, .int (nI n + Int32.ofInt (-1))), (7, .int ((nI 1024) * ((F 0) - (F 1)))), (6, .int ((nI 1024) * ((F 0) + (F 1)))), (5, .int ((-1))), (0, .ref (a 0)), (1, .int (nI rt)), (2, .int ((nI 1024) * ((F 0) + (F 1)))), (3, .int ((nI 1024) * ((F 0) - (F 1))))]) C.1 C.2.1 dX4_choose_140 hl (k := 7) rfl (rfl) (by decide) rfl (fun ls hl => ?_)
        refine lv_goto (tgt := 38) C.1 C.2.1 dX4_choose_143 (by decide) ?_
        have hH := x_eqw (w' := wM G a S (standM T1 n (if n < rt then T1 9 (pr n) else (nI 1024 * (F 0 + F 1))) (if n < rt then T1 10 (pr n) else (nI 1024 * (F 0 - F 1)))) K Z L ((tS F 6 (nI (rt + 1))))) (by first | (rw [if_pos hk, if_pos hk]; rfl) | (rw [if_neg (by omega), if_neg (by omega)]; rfl)) hH
        exact ih38 (nI n + Int32.ofInt (-1)) (standM T1 n (if n < rt then T1 9 (pr n) else (nI 1024 * (F 0 + F 1))) (if n < rt then T1 10 (pr n) else (nI 1024 * (F 0 - F 1)))) _ _ _ (by omega) (kD_dec n) (hp) (hr) (hf) hH (lv_sub hl [4, 5, 6, 7, 0] rfl)
  exact lp (rt + 1) (nI rt) T _ _ _ (by omega) (rfl) (hP) (hR) (rfl) hH (lv_sub hl [4, 3, 2, 1, 0] rfl)
set_option maxHeartbeats 400000 in
set_option maxRecDepth 100000 in
theorem c_X4_build_0 (l : Launch) (G : xG) (a : Nat → Nat) (S T K Z : Nat → Nat → Int32) (L : Nat → Nat → Int64) (F : Nat → Int32) (ct rt : Nat) (pr : Nat → Nat) (T2 Z2 : Nat → Nat → Int32) (h4 : F 4 = nI ct) (h1 : 1 ≤ ct) (hc : ct ≤ 10) (hrt : rt + 2 = 2 * ct) (hok : mJoinsOk (ct - 1) ct (plantF S ct 0 T) (begF ct 0 Z)) (hT2 : mJoins (ct - 1) ct (plantF S ct 0 T) (begF ct 0 Z) = (T2, Z2)) (hP : ∀ k, k < rt → T2 2 k = nI (pr k)) (hR : T2 2 rt = -1) (hP1 : ∀ k, k < rt → pr k < 19) : xMi l yX4_build wsX4_build { frames := 5, cells := 0, slots := 0, locals := 119 } [.ref (a 0), .int (nI 0)] G (wM G a S T K Z L F) (nI (rt + 1)) (wM G a S (rootM (chM pr rt (nI 1024 * (F 0 + F 1)) (nI 1024 * (F 0 - F 1)) (rt + 1) T2) rt (nI 1024 * (F 0 + F 1)) (nI 1024 * (F 0 - F 1))) K Z2 L (tS (tS (tS F 3 (nI 0)) 6 (nI (rt + 1))) 2 (nI 1))) 0 0 := by
  refine x_ofi (cc := cX4_build) (maxL := 2) (ty := .int) (by decide) rfl (Nat.le_of_ble_eq_true rfl) ?_
  intro p e s m args below meth c ls A Q C hml hA hH hl hE
  have hl : lv_has ls 2 [(0, .ref (a 0)), (1, .int (nI 0))] := hl
  have inX4 : ∀ w ∈ wsX40, w ∈ wsX4_build := fun _ h => (List.mem_cons_of_mem _ (List.mem_append_right _ h))
  refine lv_aload_n C.1 C.2.1 dX4_build_0 rfl (lv_at hl 0 rfl) ?_
  refine lv_iload_n C.1 C.2.1 dX4_build_1 rfl (lv_at hl 1 rfl) ?_
  refine lv_if_eq (tgt := 14) C.1 C.2.1 dX4_build_2 (by decide) (fun _ => ?_) (fun c_1 => absurd (by decide) c_1)
  refine lv_aload_n C.1 C.2.1 dX4_build_14 rfl (lv_at hl 0 rfl) ?_
  refine x_get (C := RX4) (T := TX4) (N := 37) (v := .int (F 4)) C inX4 hH 0 gM_0 rfl 1 (by decide) rfl rfl 1 rfl dX4_build_15 ?_
  refine x_toi h4 ?_
  refine lv_if_ne (tgt := 25) C.1 C.2.1 dX4_build_18 (by decide) (fun _ => ?_) (fun c_2 => absurd c_2 (nI_ne0 (by omega) (by omega)))
  refine lv_iconst (v := nI 0) C.1 C.2.1 dX4_build_25 (by decide) ?_
  refine x_put (C := RX4) (T := TX4) (N := 37) (v := .int (nI 0)) (w' := wM G a S T K Z L ((tS F 3 (nI 0)))) C inX4 tyX4 tyX4_ok nmX4 hH 0 gM_0 rfl 0 (by decide) rfl rfl rfl rfl (Nat.le_of_ble_eq_true rfl) fM_0_0 2 rfl dX4_build_26 (fun H locs hH => ?_)
  refine lv_aload_n C.1 C.2.1 dX4_build_29 rfl (lv_at hl 0 rfl) ?_
  refine x_get (C := RX4) (T := TX4) (N := 37) (v := .int (nI 0)) C inX4 hH 0 gM_0 rfl 0 (by decide) rfl rfl 2 rfl dX4_build_30 ?_
  refine lv_if_le (tgt := 38) C.1 C.2.1 dX4_build_33 (by decide) (fun _ => ?_) (fun c_3 => absurd (by decide) c_3)
  refine lv_aload_n C.1 C.2.1 dX4_build_38 rfl (lv_at hl 0 rfl) ?_
  refine x_cv (w' := wM G a S (plantF S ct 0 T) K (begF ct 0 Z) L ((tS ((tS F 3 (nI 0))) 6 (nI ct)))) (va_runV (As := []) (rest := []) (x_fix C hml) (c_X4_begin l G a S T K Z L ((tS F 3 (nI 0))) ct h4 (by omega) _) (cwV 0 C.2.2.2.1 gX4_build_X4_begin rfl rfl rfl (by decide +kernel) ⟨Nat.le_of_ble_eq_true rfl, Nat.le_of_ble_eq_true rfl⟩) (x_pv C hH rfl gM_0 rfl rfl) rfl rfl hl.1 rfl (lv_room (Nat.le_of_ble_eq_true rfl)) dX4_build_39 ⟨Nat.le_of_ble_eq_true rfl, Nat.le_of_ble_eq_true rfl⟩) hH hA (fun H locs hH => ?_)
  refine lv_iload_n C.1 C.2.1 dX4_build_42 rfl (lv_at hl 1 rfl) ?_
  refine lv_iconst (v := nI 1) C.1 C.2.1 dX4_build_43 (by decide) ?_
  refine lv_icmp_ne (tgt := 54) C.1 C.2.1 dX4_build_44 (by decide) (fun _ => ?_) (fun c_4 => absurd (c_4) (by decide))
  have lp : ∀ (n : Nat) (nd : Nat) (T1 : Nat → Nat → Int32) (Z1 : Nat → Nat → Int32) (H : Heap) (locs : List Loc) (ls : Array Slot), nd + n = 2 * ct - 1 → mJoinsOk n nd T1 Z1 → mJoins n nd T1 Z1 = (T2, Z2) → xH G A s.heap H locs (wM G a S T1 K Z1 L ((tS ((tS F 3 (nI 0))) 6 (nI nd)))) → lv_has ls 2 [(0, .ref (a 0))] → W p l e ({ frames := 5, cells := 0, slots := 0, locals := 119 }) s m args below meth c H locs 0 0 Q (F0 m 54 ls []) := by
    intro n
    induction n with
    | zero =>
      intro nd T1 Z1 H locs ls hin hok hf hH hl
      have hH := x_eqw (w' := wM G a S T2 K Z2 L ((tS ((tS F 3 (nI 0))) 6 (nI nd)))) (by rw [show T1 = T2 from congrArg (fun z => z.1) hf, show Z1 = Z2 from congrArg (fun z => z.2) hf]) hH
      refine lv_aload_n C.1 C.2.1 dX4_build_54 rfl (lv_at hl 0 rfl) ?_
      refine x_get (C := RX4) (T := TX4) (N := 37) (v := .int (nI nd)) C inX4 hH 0 gM_0 rfl 14 (by decide) rfl rfl 3 rfl dX4_build_55 ?_
      refine lv_iconst (v := nI 2) C.1 C.2.1 dX4_build_58 (by decide) ?_
      refine lv_aload_n C.1 C.2.1 dX4_build_59 rfl (lv_at hl 0 rfl) ?_
      refine x_get (C := RX4) (T := TX4) (N := 37) (v := .int (F 4)) C inX4 hH 0 gM_0 rfl 1 (by decide) rfl rfl 1 rfl dX4_build_60 ?_
      refine x_toi h4 ?_
      refine lv_imul C.1 C.2.1 dX4_build_63 ?_
      refine x_toi (pk_mul 2 ct) ?_
      refine lv_iconst (v := nI 1) C.1 C.2.1 dX4_build_64 (by decide) ?_
      refine lv_isub C.1 C.2.1 dX4_build_65 ?_
      refine x_toi (pk_sub (a := 2 * ct) (b := 1) (by omega)) ?_
      refine lv_icmp_ge (tgt := 76) C.1 C.2.1 dX4_build_66 (by decide) (fun _ => ?_) (fun c_5 => absurd ((nI_leI (a := 2 * ct - 1) (b := nd) (by omega) (by omega)).mpr (by omega)) c_5)
      refine lv_aload_n C.1 C.2.1 dX4_build_76 rfl (lv_at hl 0 rfl) ?_
      have hH := x_eqw (w' := wM G a S T2 K Z2 L ((tS ((tS F 3 (nI 0))) 6 (nI (rt + 1))))) (by rw [show nd = rt + 1 by omega]; first | done | rfl) hH
      refine x_cv (w' := wM G a S (rootM (chM pr rt (nI 1024 * (F 0 + F 1)) (nI 1024 * (F 0 - F 1)) (rt + 1) T2) rt (nI 1024 * (F 0 + F 1)) (nI 1024 * (F 0 - F 1))) K Z2 L ((tS ((tS F 3 (nI 0))) 6 (nI (rt + 1))))) (va_runV (As := []) (rest := []) (x_fix C hml) (c_X4_choose l G a S T2 K Z2 L ((tS F 3 (nI 0))) rt pr (by omega) hP hR hP1 _) (cwV 0 C.2.2.2.1 gX4_build_X4_choose rfl rfl rfl (by decide +kernel) ⟨Nat.le_of_ble_eq_true rfl, Nat.le_of_ble_eq_true rfl⟩) (x_pv C hH rfl gM_0 rfl rfl) rfl rfl hl.1 rfl (lv_room (Nat.le_of_ble_eq_true rfl)) dX4_build_77 ⟨Nat.le_of_ble_eq_true rfl, Nat.le_of_ble_eq_true rfl⟩) hH hA (fun H locs hH => ?_)
      refine lv_aload_n C.1 C.2.1 dX4_build_80 rfl (lv_at hl 0 rfl) ?_
      refine lv_iconst (v := nI 1) C.1 C.2.1 dX4_build_81 (by decide) ?_
      refine x_put (C := RX4) (T := TX4) (N := 37) (v := .int (nI 1)) (w' := wM G a S (rootM (chM pr rt (nI 1024 * (F 0 + F 1)) (nI 1024 * (F 0 - F 1)) (rt + 1) T2) rt (nI 1024 * (F 0 + F 1)) (nI 1024 * (F 0 - F 1))) K Z2 L ((tS ((tS ((tS F 3 (nI 0))) 6 (nI (rt + 1)))) 2 (nI 1)))) C inX4 tyX4 tyX4_ok nmX4 hH 0 gM_0 rfl 13 (by decide) rfl rfl (by decide) rfl (Nat.le_of_ble_eq_true rfl) fM_0_13 4 rfl dX4_build_82 (fun H locs hH => ?_)
      refine lv_aload_n C.1 C.2.1 dX4_build_85 rfl (lv_at hl 0 rfl) ?_
      refine x_get (C := RX4) (T := TX4) (N := 37) (v := .int (nI (rt + 1))) C inX4 hH 0 gM_0 rfl 14 (by decide) rfl rfl 3 rfl dX4_build_86 ?_
      have hH := x_eqw (w' := wM G a S (rootM (chM pr rt (nI 1024 * (F 0 + F 1)) (nI 1024 * (F 0 - F 1)) (rt + 1) T2) rt (nI 1024 * (F 0 + F 1)) (nI 1024 * (F 0 - F 1))) K Z2 L (tS (tS (tS F 3 (nI 0)) 6 (nI (rt + 1))) 2 (nI 1))) (rfl) hH
      exact hE _ _ _ _ _ hH (rfl) (rfl) dX4_build_89
    | succ n ih54 =>
      intro nd T1 Z1 H locs ls hin hok hf hH hl
      refine lv_aload_n C.1 C.2.1 dX4_build_54 rfl (lv_at hl 0 rfl) ?_
      refine x_get (C := RX4) (T := TX4) (N := 37) (v := .int (nI nd)) C inX4 hH 0 gM_0 rfl 14 (by decide) rfl rfl 3 rfl dX4_build_55 ?_
      refine lv_iconst (v := nI 2) C.1 C.2.1 dX4_build_58 (by decide) ?_
      refine lv_aload_n C.1 C.2.1 dX4_build_59 rfl (lv_at hl 0 rfl) ?_
      refine x_get (C := RX4) (T := TX4) (N := 37) (v := .int (F 4)) C inX4 hH 0 gM_0 rfl 1 (by decide) rfl rfl 1 rfl dX4_build_60 ?_
      refine x_toi h4 ?_
      refine lv_imul C.1 C.2.1 dX4_build_63 ?_
      refine x_toi (pk_mul 2 ct) ?_
      refine lv_iconst (v := nI 1) C.1 C.2.1 dX4_build_64 (by decide) ?_
      refine lv_isub C.1 C.2.1 dX4_build_65 ?_
      refine x_toi (pk_sub (a := 2 * ct) (b := 1) (by omega)) ?_
      refine lv_icmp_ge (tgt := 76) C.1 C.2.1 dX4_build_66 (by decide) (fun c_6 => absurd ((nI_leI (a := 2 * ct - 1) (b := nd) (by omega) (by omega)).mp c_6) (by omega)) (fun _ => ?_)
      refine lv_aload_n C.1 C.2.1 dX4_build_69 rfl (lv_at hl 0 rfl) ?_
      refine x_cv (w' := wM G a S (joinT T1 nd (mSelI T1 Z1 nd) (mSelJ T1 Z1 nd)) K (joinZ Z1 nd (mSelI T1 Z1 nd) (mSelJ T1 Z1 nd)) L ((tS ((tS F 3 (nI 0))) 6 (nI (nd + 1))))) (va_runV (As := []) (rest := []) (x_fix C hml) (c_X4_joinNearest l G a S T1 K Z1 L ((tS F 3 (nI 0))) nd (mSelI T1 Z1 nd) (mSelJ T1 Z1 nd) hok.1.2 hok.1.1 _) (cwV 0 C.2.2.2.1 gX4_build_X4_joinNearest rfl rfl rfl (by decide +kernel) ⟨Nat.le_of_ble_eq_true rfl, Nat.le_of_ble_eq_true rfl⟩) (x_pv C hH rfl gM_0 rfl rfl) rfl rfl hl.1 rfl (lv_room (Nat.le_of_ble_eq_true rfl)) dX4_build_70 ⟨Nat.le_of_ble_eq_true rfl, Nat.le_of_ble_eq_true rfl⟩) hH hA (fun H locs hH => ?_)
      refine lv_goto (tgt := 54) C.1 C.2.1 dX4_build_73 (by decide) ?_
      exact ih54 (nd + 1) (joinT T1 nd (mSelI T1 Z1 nd) (mSelJ T1 Z1 nd)) (joinZ Z1 nd (mSelI T1 Z1 nd) (mSelJ T1 Z1 nd)) _ _ _ (by omega) (hok.2) (hf) hH (lv_sub hl [0] rfl)
  exact lp (ct - 1) ct (plantF S ct 0 T) (begF ct 0 Z) _ _ _ (by omega) (hok) (hT2) hH (lv_sub hl [0] rfl)
set_option maxHeartbeats 400000 in
set_option maxRecDepth 100000 in
theorem c_X4_build_1 (l : Launch) (G : xG) (a : Nat → Nat) (S T Z : Nat → Nat → Int32) (L : Nat → Nat → Int64) (F : Nat → Int32) (q : Nat → Nat → Nat) (g : Nat → Nat) (ct rt N : Nat) (pr : Nat → Nat) (fin : CS) (h4 : F 4 = nI ct) (h1 : 1 ≤ ct) (hc : ct ≤ 10) (hrt : rt + 2 = 2 * ct) (hT11 : T 11 = rw g) (hok : cmOk S N (plantF S ct 0 T, begF ct 0 Z, ct, rowN ct 0 g, pushK q 0 0 ct 0, 1, 0)) (hfin : cmF S N (plantF S ct 0 T, begF ct 0 Z, ct, rowN ct 0 g, pushK q 0 0 ct 0, 1, 0) = fin) (hZn : fin.2.2.1 = rt + 1) (hP : ∀ k, k < rt → fin.1 2 k = nI (pr k)) (hR : fin.1 2 rt = -1) (hP1 : ∀ k, k < rt → pr k < 19) : xMi l yX4_build wsX4_build { frames := 5, cells := 0, slots := 0, locals := 117 } [.ref (a 0), .int (nI 1)] G (wM G a S T (kw q) Z L F) (nI (rt + 1)) (wM G a S (rootM (chM pr rt (nI 1024 * (F 0 + F 1)) (nI 1024 * (F 0 - F 1)) (rt + 1) (tS fin.1 11 (rw fin.2.2.2.1))) rt (nI 1024 * (F 0 + F 1)) (nI 1024 * (F 0 - F 1))) (kw fin.2.2.2.2.1) fin.2.1 L (tS (tS (tS (tS F 3 (nI 0)) 6 (nI (rt + 1))) 5 (nI fin.2.2.2.2.2.1)) 2 (nI 1))) 0 0 := by
  refine x_ofi (cc := cX4_build) (maxL := 2) (ty := .int) (by decide) rfl (Nat.le_of_ble_eq_true rfl) ?_
  intro p e s m args below meth c ls A Q C hml hA hH hl hE
  have hl : lv_has ls 2 [(0, .ref (a 0)), (1, .int (nI 1))] := hl
  have inX4 : ∀ w ∈ wsX40, w ∈ wsX4_build := fun _ h => (List.mem_cons_of_mem _ (List.mem_append_right _ h))
  refine lv_aload_n C.1 C.2.1 dX4_build_0 rfl (lv_at hl 0 rfl) ?_
  refine lv_iload_n C.1 C.2.1 dX4_build_1 rfl (lv_at hl 1 rfl) ?_
  refine lv_if_eq (tgt := 14) C.1 C.2.1 dX4_build_2 (by decide) (fun c_1 => absurd c_1 (by decide)) (fun _ => ?_)
  refine lv_iload_n C.1 C.2.1 dX4_build_5 rfl (lv_at hl 1 rfl) ?_
  refine lv_iconst (v := nI 1) C.1 C.2.1 dX4_build_6 (by decide) ?_
  refine lv_icmp_eq (tgt := 14) C.1 C.2.1 dX4_build_7 (by decide) (fun _ => ?_) (fun c_2 => absurd (by decide) c_2)
  refine lv_aload_n C.1 C.2.1 dX4_build_14 rfl (lv_at hl 0 rfl) ?_
  refine x_get (C := RX4) (T := TX4) (N := 37) (v := .int (F 4)) C inX4 hH 0 gM_0 rfl 1 (by decide) rfl rfl 1 rfl dX4_build_15 ?_
  refine x_toi h4 ?_
  refine lv_if_ne (tgt := 25) C.1 C.2.1 dX4_build_18 (by decide) (fun _ => ?_) (fun c_3 => absurd c_3 (nI_ne0 (by omega) (by omega)))
  refine lv_iconst (v := nI 0) C.1 C.2.1 dX4_build_25 (by decide) ?_
  refine x_put (C := RX4) (T := TX4) (N := 37) (v := .int (nI 0)) (w' := wM G a S T (kw q) Z L ((tS F 3 (nI 0)))) C inX4 tyX4 tyX4_ok nmX4 hH 0 gM_0 rfl 0 (by decide) rfl rfl rfl rfl (Nat.le_of_ble_eq_true rfl) fM_0_0 2 rfl dX4_build_26 (fun H locs hH => ?_)
  refine lv_aload_n C.1 C.2.1 dX4_build_29 rfl (lv_at hl 0 rfl) ?_
  refine x_get (C := RX4) (T := TX4) (N := 37) (v := .int (nI 0)) C inX4 hH 0 gM_0 rfl 0 (by decide) rfl rfl 2 rfl dX4_build_30 ?_
  refine lv_if_le (tgt := 38) C.1 C.2.1 dX4_build_33 (by decide) (fun _ => ?_) (fun c_4 => absurd (by decide) c_4)
  refine lv_aload_n C.1 C.2.1 dX4_build_38 rfl (lv_at hl 0 rfl) ?_
  refine x_cv (w' := wM G a S (plantF S ct 0 T) (kw q) (begF ct 0 Z) L ((tS ((tS F 3 (nI 0))) 6 (nI ct)))) (va_runV (As := []) (rest := []) (x_fix C hml) (c_X4_begin l G a S T (kw q) Z L ((tS F 3 (nI 0))) ct h4 (by omega) _) (cwV 0 C.2.2.2.1 gX4_build_X4_begin rfl rfl rfl (by decide +kernel) ⟨Nat.le_of_ble_eq_true rfl, Nat.le_of_ble_eq_true rfl⟩) (x_pv C hH rfl gM_0 rfl rfl) rfl rfl hl.1 rfl (lv_room (Nat.le_of_ble_eq_true rfl)) dX4_build_39 ⟨Nat.le_of_ble_eq_true rfl, Nat.le_of_ble_eq_true rfl⟩) hH hA (fun H locs hH => ?_)
  have hH := x_eqw (w' := wM G a S ((tS (plantF S ct 0 T) 11 (rw g))) (kw q) (begF ct 0 Z) L ((tS ((tS F 3 (nI 0))) 6 (nI ct)))) (by rw [← tS_id (plantF_11.trans hT11)]) hH
  refine lv_iload_n C.1 C.2.1 dX4_build_42 rfl (lv_at hl 1 rfl) ?_
  refine lv_iconst (v := nI 1) C.1 C.2.1 dX4_build_43 (by decide) ?_
  refine lv_icmp_ne (tgt := 54) C.1 C.2.1 dX4_build_44 (by decide) (fun c_5 => absurd (by decide) c_5) (fun _ => ?_)
  refine lv_aload_n C.1 C.2.1 dX4_build_47 rfl (lv_at hl 0 rfl) ?_
  refine x_cv (w' := wM G a S ((tS fin.1 11 (rw fin.2.2.2.1))) (kw fin.2.2.2.2.1) fin.2.1 L ((tS ((tS ((tS F 3 (nI 0))) 6 (nI fin.2.2.1))) 5 (nI fin.2.2.2.2.2.1)))) (va_runV (As := []) (rest := []) (x_fix C hml) (c_X4_cutAll l G a S (plantF S ct 0 T) (begF ct 0 Z) L ((tS F 3 (nI 0))) q g ct N fin h4 (by omega) (by omega) hok hfin _) (cwV 0 C.2.2.2.1 gX4_build_X4_cutAll rfl rfl rfl (by decide +kernel) ⟨Nat.le_of_ble_eq_true rfl, Nat.le_of_ble_eq_true rfl⟩) (x_pv C hH rfl gM_0 rfl rfl) rfl rfl hl.1 rfl (lv_room (Nat.le_of_ble_eq_true rfl)) dX4_build_48 ⟨Nat.le_of_ble_eq_true rfl, Nat.le_of_ble_eq_true rfl⟩) hH hA (fun H locs hH => ?_)
  refine lv_goto (tgt := 76) C.1 C.2.1 dX4_build_51 (by decide) ?_
  refine lv_aload_n C.1 C.2.1 dX4_build_76 rfl (lv_at hl 0 rfl) ?_
  have hH := x_eqw (w' := wM G a S ((tS fin.1 11 (rw fin.2.2.2.1))) (kw fin.2.2.2.2.1) fin.2.1 L ((tS ((tS ((tS F 3 (nI 0))) 5 (nI fin.2.2.2.2.2.1))) 6 (nI (rt + 1))))) (by rw [show fin.2.2.1 = rt + 1 by omega]; first | done | rfl) hH
  refine x_cv (w' := wM G a S (rootM (chM pr rt (nI 1024 * (F 0 + F 1)) (nI 1024 * (F 0 - F 1)) (rt + 1) ((tS fin.1 11 (rw fin.2.2.2.1)))) rt (nI 1024 * (F 0 + F 1)) (nI 1024 * (F 0 - F 1))) (kw fin.2.2.2.2.1) fin.2.1 L ((tS ((tS ((tS F 3 (nI 0))) 5 (nI fin.2.2.2.2.2.1))) 6 (nI (rt + 1))))) (va_runV (As := []) (rest := []) (x_fix C hml) (c_X4_choose l G a S ((tS fin.1 11 (rw fin.2.2.2.1))) (kw fin.2.2.2.2.1) fin.2.1 L ((tS ((tS F 3 (nI 0))) 5 (nI fin.2.2.2.2.2.1))) rt pr (by omega) hP hR hP1 _) (cwV 0 C.2.2.2.1 gX4_build_X4_choose rfl rfl rfl (by decide +kernel) ⟨Nat.le_of_ble_eq_true rfl, Nat.le_of_ble_eq_true rfl⟩) (x_pv C hH rfl gM_0 rfl rfl) rfl rfl hl.1 rfl (lv_room (Nat.le_of_ble_eq_true rfl)) dX4_build_77 ⟨Nat.le_of_ble_eq_true rfl, Nat.le_of_ble_eq_true rfl⟩) hH hA (fun H locs hH => ?_)
  refine lv_aload_n C.1 C.2.1 dX4_build_80 rfl (lv_at hl 0 rfl) ?_
  refine lv_iconst (v := nI 1) C.1 C.2.1 dX4_build_81 (by decide) ?_
  refine x_put (C := RX4) (T := TX4) (N := 37) (v := .int (nI 1)) (w' := wM G a S (rootM (chM pr rt (nI 1024 * (F 0 + F 1)) (nI 1024 * (F 0 - F 1)) (rt + 1) ((tS fin.1 11 (rw fin.2.2.2.1)))) rt (nI 1024 * (F 0 + F 1)) (nI 1024 * (F 0 - F 1))) (kw fin.2.2.2.2.1) fin.2.1 L ((tS ((tS ((tS ((tS F 3 (nI 0))) 5 (nI fin.2.2.2.2.2.1))) 6 (nI (rt + 1)))) 2 (nI 1)))) C inX4 tyX4 tyX4_ok nmX4 hH 0 gM_0 rfl 13 (by decide) rfl rfl (by decide) rfl (Nat.le_of_ble_eq_true rfl) fM_0_13 4 rfl dX4_build_82 (fun H locs hH => ?_)
  refine lv_aload_n C.1 C.2.1 dX4_build_85 rfl (lv_at hl 0 rfl) ?_
  refine x_get (C := RX4) (T := TX4) (N := 37) (v := .int (nI (rt + 1))) C inX4 hH 0 gM_0 rfl 14 (by decide) rfl rfl 3 rfl dX4_build_86 ?_
  have hH := x_eqw (w' := wM G a S (rootM (chM pr rt (nI 1024 * (F 0 + F 1)) (nI 1024 * (F 0 - F 1)) (rt + 1) (tS fin.1 11 (rw fin.2.2.2.1))) rt (nI 1024 * (F 0 + F 1)) (nI 1024 * (F 0 - F 1))) (kw fin.2.2.2.2.1) fin.2.1 L (tS (tS (tS (tS F 3 (nI 0)) 6 (nI (rt + 1))) 5 (nI fin.2.2.2.2.2.1)) 2 (nI 1))) (rfl) hH
  exact hE _ _ _ _ _ hH (rfl) (rfl) dX4_build_89
set_option maxHeartbeats 400000 in
set_option maxRecDepth 100000 in
theorem c_X4_build_t1 (l : Launch) (G : xG) (a : Nat → Nat) (S T K Z : Nat → Nat → Int32) (L : Nat → Nat → Int64) (F : Nat → Int32) (x : Int32) (hx : ¬ x = nI 0) (hx1 : ¬ x = nI 1) : xMi l yX4_build wsX4_build { frames := 0, cells := 0, slots := 0, locals := 0 } [.ref (a 0), .int x] G (wM G a S T K Z L F) (nI 0) (wM G a S T K Z L (tS F 3 (nI 1))) 0 0 := by
  refine x_ofi (cc := cX4_build) (maxL := 2) (ty := .int) (by decide) rfl (Nat.le_of_ble_eq_true rfl) ?_
  intro p e s m args below meth c ls A Q C hml hA hH hl hE
  have hl : lv_has ls 2 [(0, .ref (a 0)), (1, .int x)] := hl
  have inX4 : ∀ w ∈ wsX40, w ∈ wsX4_build := fun _ h => (List.mem_cons_of_mem _ (List.mem_append_right _ h))
  refine lv_aload_n C.1 C.2.1 dX4_build_0 rfl (lv_at hl 0 rfl) ?_
  refine lv_iload_n C.1 C.2.1 dX4_build_1 rfl (lv_at hl 1 rfl) ?_
  refine lv_if_eq (tgt := 14) C.1 C.2.1 dX4_build_2 (by decide) (fun c_1 => absurd c_1 (hx)) (fun _ => ?_)
  refine lv_iload_n C.1 C.2.1 dX4_build_5 rfl (lv_at hl 1 rfl) ?_
  refine lv_iconst (v := nI 1) C.1 C.2.1 dX4_build_6 (by decide) ?_
  refine lv_icmp_eq (tgt := 14) C.1 C.2.1 dX4_build_7 (by decide) (fun c_2 => absurd c_2 (hx1)) (fun _ => ?_)
  refine lv_iconst (v := nI 1) C.1 C.2.1 dX4_build_10 (by decide) ?_
  refine lv_goto (tgt := 26) C.1 C.2.1 dX4_build_11 (by decide) ?_
  refine x_put (C := RX4) (T := TX4) (N := 37) (v := .int (nI 1)) (w' := wM G a S T K Z L ((tS F 3 (nI 1)))) C inX4 tyX4 tyX4_ok nmX4 hH 0 gM_0 rfl 0 (by decide) rfl rfl rfl rfl (Nat.le_of_ble_eq_true rfl) fM_0_0 2 rfl dX4_build_26 (fun H locs hH => ?_)
  refine lv_aload_n C.1 C.2.1 dX4_build_29 rfl (lv_at hl 0 rfl) ?_
  refine x_get (C := RX4) (T := TX4) (N := 37) (v := .int (nI 1)) C inX4 hH 0 gM_0 rfl 0 (by decide) rfl rfl 2 rfl dX4_build_30 ?_
  refine lv_if_le (tgt := 38) C.1 C.2.1 dX4_build_33 (by decide) (fun c_3 => absurd c_3 (by decide)) (fun _ => ?_)
  refine lv_iconst (v := nI 0) C.1 C.2.1 dX4_build_36 (by decide) ?_
  have hH := x_eqw (w' := wM G a S T K Z L (tS F 3 (nI 1))) (rfl) hH
  exact hE _ _ _ _ _ hH (rfl) (rfl) dX4_build_37
set_option maxHeartbeats 400000 in
set_option maxRecDepth 100000 in
theorem c_X4_build_t20 (l : Launch) (G : xG) (a : Nat → Nat) (S T K Z : Nat → Nat → Int32) (L : Nat → Nat → Int64) (F : Nat → Int32) (h4 : F 4 = nI 0) : xMi l yX4_build wsX4_build { frames := 0, cells := 0, slots := 0, locals := 0 } [.ref (a 0), .int (nI 0)] G (wM G a S T K Z L F) (nI 0) (wM G a S T K Z L (tS F 3 (nI 2))) 0 0 := by
  refine x_ofi (cc := cX4_build) (maxL := 2) (ty := .int) (by decide) rfl (Nat.le_of_ble_eq_true rfl) ?_
  intro p e s m args below meth c ls A Q C hml hA hH hl hE
  have hl : lv_has ls 2 [(0, .ref (a 0)), (1, .int (nI 0))] := hl
  have inX4 : ∀ w ∈ wsX40, w ∈ wsX4_build := fun _ h => (List.mem_cons_of_mem _ (List.mem_append_right _ h))
  refine lv_aload_n C.1 C.2.1 dX4_build_0 rfl (lv_at hl 0 rfl) ?_
  refine lv_iload_n C.1 C.2.1 dX4_build_1 rfl (lv_at hl 1 rfl) ?_
  refine lv_if_eq (tgt := 14) C.1 C.2.1 dX4_build_2 (by decide) (fun _ => ?_) (fun c_1 => absurd (by decide) c_1)
  refine lv_aload_n C.1 C.2.1 dX4_build_14 rfl (lv_at hl 0 rfl) ?_
  refine x_get (C := RX4) (T := TX4) (N := 37) (v := .int (F 4)) C inX4 hH 0 gM_0 rfl 1 (by decide) rfl rfl 1 rfl dX4_build_15 ?_
  refine x_toi h4 ?_
  refine lv_if_ne (tgt := 25) C.1 C.2.1 dX4_build_18 (by decide) (fun c_2 => absurd (by decide) c_2) (fun _ => ?_)
  refine lv_iconst (v := nI 2) C.1 C.2.1 dX4_build_21 (by decide) ?_
  refine lv_goto (tgt := 26) C.1 C.2.1 dX4_build_22 (by decide) ?_
  refine x_put (C := RX4) (T := TX4) (N := 37) (v := .int (nI 2)) (w' := wM G a S T K Z L ((tS F 3 (nI 2)))) C inX4 tyX4 tyX4_ok nmX4 hH 0 gM_0 rfl 0 (by decide) rfl rfl rfl rfl (Nat.le_of_ble_eq_true rfl) fM_0_0 2 rfl dX4_build_26 (fun H locs hH => ?_)
  refine lv_aload_n C.1 C.2.1 dX4_build_29 rfl (lv_at hl 0 rfl) ?_
  refine x_get (C := RX4) (T := TX4) (N := 37) (v := .int (nI 2)) C inX4 hH 0 gM_0 rfl 0 (by decide) rfl rfl 2 rfl dX4_build_30 ?_
  refine lv_if_le (tgt := 38) C.1 C.2.1 dX4_build_33 (by decide) (fun c_3 => absurd c_3 (by decide)) (fun _ => ?_)
  refine lv_iconst (v := nI 0) C.1 C.2.1 dX4_build_36 (by decide) ?_
  have hH := x_eqw (w' := wM G a S T K Z L (tS F 3 (nI 2))) (rfl) hH
  exact hE _ _ _ _ _ hH (rfl) (rfl) dX4_build_37
set_option maxHeartbeats 400000 in
set_option maxRecDepth 100000 in
theorem c_X4_build_t21 (l : Launch) (G : xG) (a : Nat → Nat) (S T K Z : Nat → Nat → Int32) (L : Nat → Nat → Int64) (F : Nat → Int32) (h4 : F 4 = nI 0) : xMi l yX4_build wsX4_build { frames := 0, cells := 0, slots := 0, locals := 0 } [.ref (a 0), .int (nI 1)] G (wM G a S T K Z L F) (nI 0) (wM G a S T K Z L (tS F 3 (nI 2))) 0 0 := by
  refine x_ofi (cc := cX4_build) (maxL := 2) (ty := .int) (by decide) rfl (Nat.le_of_ble_eq_true rfl) ?_
  intro p e s m args below meth c ls A Q C hml hA hH hl hE
  have hl : lv_has ls 2 [(0, .ref (a 0)), (1, .int (nI 1))] := hl
  have inX4 : ∀ w ∈ wsX40, w ∈ wsX4_build := fun _ h => (List.mem_cons_of_mem _ (List.mem_append_right _ h))
  refine lv_aload_n C.1 C.2.1 dX4_build_0 rfl (lv_at hl 0 rfl) ?_
  refine lv_iload_n C.1 C.2.1 dX4_build_1 rfl (lv_at hl 1 rfl) ?_
  refine lv_if_eq (tgt := 14) C.1 C.2.1 dX4_build_2 (by decide) (fun c_1 => absurd c_1 (by decide)) (fun _ => ?_)
  refine lv_iload_n C.1 C.2.1 dX4_build_5 rfl (lv_at hl 1 rfl) ?_
  refine lv_iconst (v := nI 1) C.1 C.2.1 dX4_build_6 (by decide) ?_
  refine lv_icmp_eq (tgt := 14) C.1 C.2.1 dX4_build_7 (by decide) (fun _ => ?_) (fun c_2 => absurd (by decide) c_2)
  refine lv_aload_n C.1 C.2.1 dX4_build_14 rfl (lv_at hl 0 rfl) ?_
  refine x_get (C := RX4) (T := TX4) (N := 37) (v := .int (F 4)) C inX4 hH 0 gM_0 rfl 1 (by decide) rfl rfl 1 rfl dX4_build_15 ?_
  refine x_toi h4 ?_
  refine lv_if_ne (tgt := 25) C.1 C.2.1 dX4_build_18 (by decide) (fun c_3 => absurd (by decide) c_3) (fun _ => ?_)
  refine lv_iconst (v := nI 2) C.1 C.2.1 dX4_build_21 (by decide) ?_
  refine lv_goto (tgt := 26) C.1 C.2.1 dX4_build_22 (by decide) ?_
  refine x_put (C := RX4) (T := TX4) (N := 37) (v := .int (nI 2)) (w' := wM G a S T K Z L ((tS F 3 (nI 2)))) C inX4 tyX4 tyX4_ok nmX4 hH 0 gM_0 rfl 0 (by decide) rfl rfl rfl rfl (Nat.le_of_ble_eq_true rfl) fM_0_0 2 rfl dX4_build_26 (fun H locs hH => ?_)
  refine lv_aload_n C.1 C.2.1 dX4_build_29 rfl (lv_at hl 0 rfl) ?_
  refine x_get (C := RX4) (T := TX4) (N := 37) (v := .int (nI 2)) C inX4 hH 0 gM_0 rfl 0 (by decide) rfl rfl 2 rfl dX4_build_30 ?_
  refine lv_if_le (tgt := 38) C.1 C.2.1 dX4_build_33 (by decide) (fun c_4 => absurd c_4 (by decide)) (fun _ => ?_)
  refine lv_iconst (v := nI 0) C.1 C.2.1 dX4_build_36 (by decide) ?_
  have hH := x_eqw (w' := wM G a S T K Z L (tS F 3 (nI 2))) (rfl) hH
  exact hE _ _ _ _ _ hH (rfl) (rfl) dX4_build_37
