set_option maxHeartbeats 400000 in
set_option maxRecDepth 100000 in
theorem c_X4_cutAll (l : Launch) (G : xG) (a : Nat → Nat) (S T Z : Nat → Nat → Int32) (L : Nat → Nat → Int64) (F : Nat → Int32) (q : Nat → Nat → Nat) (g : Nat → Nat) (ct N : Nat) (fin : CS) (h4 : F 4 = nI ct) (h1 : 1 ≤ ct) (hc : ct ≤ 10) (hok : cmOk S N (T, Z, ct, rowN ct 0 g, pushK q 0 0 ct 0, 1, 0)) (hfin : cmF S N (T, Z, ct, rowN ct 0 g, pushK q 0 0 ct 0, 1, 0) = fin) : xMv l yX4_cutAll wsX4_cutAll { frames := 4, cells := 0, slots := 0, locals := 94 } [.ref (a 0)] G (wM G a S ((tS T 11 (rw g))) (kw q) Z L ((tS F 6 (nI ct)))) (wM G a S ((tS fin.1 11 (rw fin.2.2.2.1))) (kw fin.2.2.2.2.1) fin.2.1 L ((tS ((tS F 6 (nI fin.2.2.1))) 5 (nI fin.2.2.2.2.2.1)))) 0 0 := by
  refine x_ofv (cc := cX4_cutAll) (maxL := 4) (by decide) rfl (Nat.le_of_ble_eq_true rfl) ?_
  intro p e s m args below meth c ls A Q C hml hA hH hl hE
  have hl : lv_has ls 4 [(0, .ref (a 0))] := hl
  have inX4 : ∀ w ∈ wsX40, w ∈ wsX4_cutAll := fun _ h => (List.mem_cons_of_mem _ (List.mem_append_right _ h))
  refine lv_iconst (v := nI 0) C.1 C.2.1 dX4_cutAll_0 (by decide) ?_
  refine lv_istore_n (lv' := [(1, .int (nI 0)), (0, .ref (a 0))]) C.1 C.2.1 dX4_cutAll_1 rfl hl (by decide) rfl (fun ls hl => ?_)
  have lr : ∀ (n : Nat) (i : Nat) (g1 : Nat → Nat) (H : Heap) (locs : List Loc) (ls : Array Slot), i + n = ct → rowN n i g1 = rowN ct 0 g → xH G A s.heap H locs (wM G a S ((tS T 11 (rw g1))) (kw q) Z L ((tS F 6 (nI ct)))) → lv_has ls 4 [(0, .ref (a 0)), (1, .int (nI i))] → W p l e ({ frames := 4, cells := 0, slots := 0, locals := 94 }) s m args below meth c H locs 0 0 Q (F0 m 2 ls []) := by
    intro n
    induction n with
    | zero =>
      intro i g1 H locs ls hin hr hH hl
      have hr : g1 = rowN ct 0 g := hr
      subst hr
      refine lv_iload_n C.1 C.2.1 dX4_cutAll_2 rfl (lv_at hl 1 rfl) ?_
      refine lv_aload_n C.1 C.2.1 dX4_cutAll_3 rfl (lv_at hl 0 rfl) ?_
      refine x_get (C := RX4) (T := TX4) (N := 37) (v := .int (F 4)) C inX4 hH 0 gM_0 rfl 1 (by decide) rfl rfl 1 rfl dX4_cutAll_4 ?_
      refine x_toi h4 ?_
      refine lv_icmp_ge (tgt := 23) C.1 C.2.1 dX4_cutAll_7 (by decide) (fun _ => ?_) (fun c_1 => absurd ((nI_leI (a := ct) (b := i) (by omega) (by omega)).mpr (by omega)) c_1)
      refine lv_iconst (v := nI 0) C.1 C.2.1 dX4_cutAll_23 (by decide) ?_
      refine lv_istore_n (lv' := [(1, .int (nI 0)), (0, .ref (a 0))]) C.1 C.2.1 dX4_cutAll_24 rfl hl (by decide) rfl (fun ls hl => ?_)
      refine lv_aload_n C.1 C.2.1 dX4_cutAll_25 rfl (lv_at hl 1 rfl) ?_
      refine lv_iconst (v := nI 0) C.1 C.2.1 dX4_cutAll_26 (by decide) ?_
      refine x_put (C := RX4) (T := TX4) (N := 37) (v := .int (nI 0)) (w' := wM G a S ((tS T 11 (rw (rowN ct 0 g)))) (kw q) Z L ((tS ((tS F 6 (nI ct))) 5 (nI 0)))) C inX4 tyX4 tyX4_ok nmX4 hH 0 gM_0 rfl 29 (by decide) rfl rfl rfl rfl (Nat.le_of_ble_eq_true rfl) fM_0_29 3 rfl dX4_cutAll_27 (fun H locs hH => ?_)
      refine lv_aload_n C.1 C.2.1 dX4_cutAll_30 rfl (lv_at hl 1 rfl) ?_
      refine lv_iconst (v := nI 0) C.1 C.2.1 dX4_cutAll_31 (by decide) ?_
      refine lv_aload_n C.1 C.2.1 dX4_cutAll_32 rfl (lv_at hl 1 rfl) ?_
      refine x_get (C := RX4) (T := TX4) (N := 37) (v := .int (F 4)) C inX4 hH 0 gM_0 rfl 1 (by decide) rfl rfl 1 rfl dX4_cutAll_33 ?_
      refine x_toi h4 ?_
      refine lv_iconst (v := nI 0) C.1 C.2.1 dX4_cutAll_36 (by decide) ?_
      refine x_cv (w' := wM G a S ((tS T 11 (rw (rowN ct 0 g)))) (kw (pushK q 0 0 ct 0)) Z L ((tS ((tS F 6 (nI ct))) 5 (nI 1)))) (va_runV (As := [.int (nI 0), .int (nI ct), .int (nI 0)]) (rest := []) (x_fix C hml) (c_X4_push l G a S ((tS T 11 (rw (rowN ct 0 g)))) Z L ((tS F 6 (nI ct))) q 0 ct 0 0 (by omega) _) (cwV 3 C.2.2.2.1 gX4_cutAll_X4_push rfl rfl rfl (by decide +kernel) ⟨Nat.le_of_ble_eq_true rfl, Nat.le_of_ble_eq_true rfl⟩) (x_pv C hH rfl gM_0 rfl rfl) rfl rfl hl.1 rfl (lv_room (Nat.le_of_ble_eq_true rfl)) dX4_cutAll_37 ⟨Nat.le_of_ble_eq_true rfl, Nat.le_of_ble_eq_true rfl⟩) hH hA (fun H locs hH => ?_)
      have lp : ∀ (n : Nat) (got : Nat) (T1 : Nat → Nat → Int32) (Z1 : Nat → Nat → Int32) (n1 : Nat) (g1 : Nat → Nat) (q1 : Nat → Nat → Nat) (tp : Nat) (H : Heap) (locs : List Loc) (ls : Array Slot), tp ≤ 12 → cmF S n (T1, Z1, n1, g1, q1, tp, got) = fin → cmOk S n (T1, Z1, n1, g1, q1, tp, got) → xH G A s.heap H locs (wM G a S ((tS T1 11 (rw g1))) (kw q1) Z1 L ((tS ((tS F 6 (nI n1))) 5 (nI tp)))) → lv_has ls 4 [(0, .ref (a 0)), (1, .int (nI got))] → W p l e ({ frames := 4, cells := 0, slots := 0, locals := 94 }) s m args below meth c H locs 0 0 Q (F0 m 40 ls []) := by
        intro n
        induction n with
        | zero =>
          intro got T1 Z1 n1 g1 q1 tp H locs ls htp hf hok hH hl
          refine lv_aload_n C.1 C.2.1 dX4_cutAll_40 rfl (lv_at hl 0 rfl) ?_
          refine x_get (C := RX4) (T := TX4) (N := 37) (v := .int (nI tp)) C inX4 hH 0 gM_0 rfl 29 (by decide) rfl rfl 3 rfl dX4_cutAll_41 ?_
          refine lv_if_le (tgt := 262) C.1 C.2.1 dX4_cutAll_44 (by decide) (fun _ => ?_) (fun c_2 => absurd ((xn_le0 (show tp < 2 ^ 31 from (show tp = 0 from hok) ▸ by decide)).mpr hok) c_2)
          have hH := x_eqw (w' := wM G a S ((tS fin.1 11 (rw fin.2.2.2.1))) (kw fin.2.2.2.2.1) fin.2.1 L ((tS ((tS F 6 (nI fin.2.2.1))) 5 (nI fin.2.2.2.2.2.1)))) (by rw [← hf]; first | done | rfl) hH
          exact hE _ _ _ _ hH dX4_cutAll_262
        | succ n ih40 =>
          intro got T1 Z1 n1 g1 q1 tp H locs ls htp hf hok hH hl
          refine lv_aload_n C.1 C.2.1 dX4_cutAll_40 rfl (lv_at hl 0 rfl) ?_
          refine x_get (C := RX4) (T := TX4) (N := 37) (v := .int (nI tp)) C inX4 hH 0 gM_0 rfl 29 (by decide) rfl rfl 3 rfl dX4_cutAll_41 ?_
          refine lv_if_le (tgt := 262) C.1 C.2.1 dX4_cutAll_44 (by decide) (fun c_3 => ?_) (fun c_3 => ?_)
          · rw [xn_le0 (n := tp) (by omega)] at c_3
            rw [cmF, if_pos c_3] at hf
            have hH := x_eqw (w' := wM G a S ((tS fin.1 11 (rw fin.2.2.2.1))) (kw fin.2.2.2.2.1) fin.2.1 L ((tS ((tS F 6 (nI fin.2.2.1))) 5 (nI fin.2.2.2.2.2.1)))) (by rw [← hf]; first | done | rfl) hH
            exact hE _ _ _ _ hH dX4_cutAll_262
          · rw [xn_le0 (n := tp) (by omega)] at c_3
            rw [cmF, if_neg c_3] at hf
            obtain ⟨k0, hok⟩ := Or.resolve_left hok c_3
            obtain ⟨k1, k2, k3, hg1, k5, k6, k7, k8⟩ := k0
            have k2 : q1 0 (tp - 1) < q1 1 (tp - 1) := k2
            have k3 : q1 1 (tp - 1) ≤ 10 := k3
            refine lv_aload_n C.1 C.2.1 dX4_cutAll_47 rfl (lv_at hl 0 rfl) ?_
            refine x_get (C := RX4) (T := TX4) (N := 37) (v := .int (nI tp)) C inX4 hH 0 gM_0 rfl 29 (by decide) rfl rfl 3 rfl dX4_cutAll_48 ?_
            refine lv_iconst (v := nI 1) C.1 C.2.1 dX4_cutAll_51 (by decide) ?_
            refine lv_isub C.1 C.2.1 dX4_cutAll_52 ?_
            refine x_toi (pk_sub (a := tp) (b := 1) (by omega)) ?_
            refine lv_istore_n (lv' := [(2, .int (nI (tp - 1))), (0, .ref (a 0)), (1, .int (nI got))]) C.1 C.2.1 dX4_cutAll_53 rfl hl (by decide) rfl (fun ls hl => ?_)
            refine lv_aload_n C.1 C.2.1 dX4_cutAll_54 rfl (lv_at hl 1 rfl) ?_
            refine x_get (C := RX4) (T := TX4) (N := 37) (v := .ref (a 19)) C inX4 hH 0 gM_0 rfl 30 (by decide) rfl rfl 4 rfl dX4_cutAll_55 ?_
            refine lv_iload_n C.1 C.2.1 dX4_cutAll_58 rfl (lv_at hl 0 rfl) ?_
            refine x_iald (f := (kw q1) 0) (j := tp - 1) (v := nI (q1 0 (tp - 1))) C hH 19 gM_19 (by omega) (by decide) (rfl) dX4_cutAll_59 ?_
            refine lv_aload_n C.1 C.2.1 dX4_cutAll_60 rfl (lv_at hl 1 rfl) ?_
            refine x_get (C := RX4) (T := TX4) (N := 37) (v := .ref (a 20)) C inX4 hH 0 gM_0 rfl 31 (by decide) rfl rfl 5 rfl dX4_cutAll_61 ?_
            refine lv_iload_n C.1 C.2.1 dX4_cutAll_64 rfl (lv_at hl 0 rfl) ?_
            refine x_iald (f := (kw q1) 1) (j := tp - 1) (v := nI (q1 1 (tp - 1))) C hH 20 gM_20 (by omega) (by decide) (rfl) dX4_cutAll_65 ?_
            refine lv_aload_n C.1 C.2.1 dX4_cutAll_66 rfl (lv_at hl 1 rfl) ?_
            refine x_get (C := RX4) (T := TX4) (N := 37) (v := .ref (a 19)) C inX4 hH 0 gM_0 rfl 30 (by decide) rfl rfl 4 rfl dX4_cutAll_67 ?_
            refine lv_iload_n C.1 C.2.1 dX4_cutAll_70 rfl (lv_at hl 0 rfl) ?_
            refine x_iald (f := (kw q1) 0) (j := tp - 1) (v := nI (q1 0 (tp - 1))) C hH 19 gM_19 (by omega) (by decide) (rfl) dX4_cutAll_71 ?_
            refine lv_isub C.1 C.2.1 dX4_cutAll_72 ?_
            refine x_toi (pk_sub (a := q1 1 (tp - 1)) (b := q1 0 (tp - 1)) (by omega)) ?_
            refine lv_iconst (v := nI 1) C.1 C.2.1 dX4_cutAll_73 (by decide) ?_
            refine lv_iadd C.1 C.2.1 dX4_cutAll_74 ?_
            refine x_toi (nI_add (q1 1 (tp - 1) - (q1 0 (tp - 1))) 1) ?_
            refine lv_iconst (v := nI 2) C.1 C.2.1 dX4_cutAll_75 (by decide) ?_
            refine lv_idiv C.1 C.2.1 dX4_cutAll_76 (by decide) ?_
            refine x_toi (pk_div (a := q1 1 (tp - 1) - (q1 0 (tp - 1)) + 1) (d := 2) (by omega) (by decide) (by decide)) ?_
            refine lv_iadd C.1 C.2.1 dX4_cutAll_77 ?_
            refine x_toi (nI_add (q1 0 (tp - 1)) ((q1 1 (tp - 1) - (q1 0 (tp - 1)) + 1) / 2)) ?_
            refine lv_istore_n (lv' := [(3, .int (nI (q1 0 (tp - 1) + ((q1 1 (tp - 1) - (q1 0 (tp - 1)) + 1) / 2)))), (2, .int (nI (tp - 1))), (0, .ref (a 0)), (1, .int (nI got))]) C.1 C.2.1 dX4_cutAll_78 rfl hl (by decide) rfl (fun ls hl => ?_)
            refine lv_aload_n C.1 C.2.1 dX4_cutAll_79 rfl (lv_at hl 2 rfl) ?_
            refine x_get (C := RX4) (T := TX4) (N := 37) (v := .ref (a 20)) C inX4 hH 0 gM_0 rfl 31 (by decide) rfl rfl 5 rfl dX4_cutAll_80 ?_
            refine lv_iload_n C.1 C.2.1 dX4_cutAll_83 rfl (lv_at hl 1 rfl) ?_
            refine x_iald (f := (kw q1) 1) (j := tp - 1) (v := nI (q1 1 (tp - 1))) C hH 20 gM_20 (by omega) (by decide) (rfl) dX4_cutAll_84 ?_
            refine lv_aload_n C.1 C.2.1 dX4_cutAll_85 rfl (lv_at hl 2 rfl) ?_
            refine x_get (C := RX4) (T := TX4) (N := 37) (v := .ref (a 19)) C inX4 hH 0 gM_0 rfl 30 (by decide) rfl rfl 4 rfl dX4_cutAll_86 ?_
            refine lv_iload_n C.1 C.2.1 dX4_cutAll_89 rfl (lv_at hl 1 rfl) ?_
            refine x_iald (f := (kw q1) 0) (j := tp - 1) (v := nI (q1 0 (tp - 1))) C hH 19 gM_19 (by omega) (by decide) (rfl) dX4_cutAll_90 ?_
            refine lv_isub C.1 C.2.1 dX4_cutAll_91 ?_
            refine x_toi (pk_sub (a := q1 1 (tp - 1)) (b := q1 0 (tp - 1)) (by omega)) ?_
            refine lv_iconst (v := nI 1) C.1 C.2.1 dX4_cutAll_92 (by decide) ?_
            refine lv_icmp_ne (tgt := 121) C.1 C.2.1 dX4_cutAll_93 (by decide) (fun c_4 => ?_) (fun c_4 => ?_)
            · rw [nI_eq (a := q1 1 (tp - 1) - (q1 0 (tp - 1))) (b := 1) (by omega) (by omega)] at c_4
              refine lv_aload_n C.1 C.2.1 dX4_cutAll_121 rfl (lv_at hl 2 rfl) ?_
              refine x_get (C := RX4) (T := TX4) (N := 37) (v := .ref (a 22)) C inX4 hH 0 gM_0 rfl 33 (by decide) rfl rfl 6 rfl dX4_cutAll_122 ?_
              refine lv_iload_n C.1 C.2.1 dX4_cutAll_125 rfl (lv_at hl 1 rfl) ?_
              refine x_iald (f := (kw q1) 3) (j := tp - 1) (v := nI (q1 3 (tp - 1))) C hH 22 gM_22 (by omega) (by decide) (rfl) dX4_cutAll_126 ?_
              refine lv_if_ne (tgt := 191) C.1 C.2.1 dX4_cutAll_127 (by decide) (fun c_5 => ?_) (fun c_5 => ?_)
              · rw [xn_eq0 (n := q1 3 (tp - 1)) (by omega)] at c_5
                refine lv_aload_n C.1 C.2.1 dX4_cutAll_191 rfl (lv_at hl 2 rfl) ?_
                refine x_get (C := RX4) (T := TX4) (N := 37) (v := .ref (a 22)) C inX4 hH 0 gM_0 rfl 33 (by decide) rfl rfl 6 rfl dX4_cutAll_192 ?_
                refine lv_iload_n C.1 C.2.1 dX4_cutAll_195 rfl (lv_at hl 1 rfl) ?_
                refine x_iald (f := (kw q1) 3) (j := tp - 1) (v := nI (q1 3 (tp - 1))) C hH 22 gM_22 (by omega) (by decide) (rfl) dX4_cutAll_196 ?_
                refine lv_iconst (v := nI 1) C.1 C.2.1 dX4_cutAll_197 (by decide) ?_
                refine lv_icmp_ne (tgt := 237) C.1 C.2.1 dX4_cutAll_198 (by decide) (fun c_6 => ?_) (fun c_6 => ?_)
                · rw [nI_eq (a := q1 3 (tp - 1)) (b := 1) (by omega) (by omega)] at c_6
                  refine lv_aload_n C.1 C.2.1 dX4_cutAll_237 rfl (lv_at hl 2 rfl) ?_
                  refine lv_aload_n C.1 C.2.1 dX4_cutAll_238 rfl (lv_at hl 2 rfl) ?_
                  refine x_get (C := RX4) (T := TX4) (N := 37) (v := .ref (a 23)) C inX4 hH 0 gM_0 rfl 34 (by decide) rfl rfl 8 rfl dX4_cutAll_239 ?_
                  refine lv_iload_n C.1 C.2.1 dX4_cutAll_242 rfl (lv_at hl 1 rfl) ?_
                  refine x_iald (f := (kw q1) 4) (j := tp - 1) (v := nI (q1 4 (tp - 1))) C hH 23 gM_23 (by omega) (by decide) (rfl) dX4_cutAll_243 ?_
                  refine lv_iload_n C.1 C.2.1 dX4_cutAll_244 rfl (lv_at hl 3 rfl) ?_
                  refine x_ci (w' := wM G a S ((tS (joinT T1 n1 (q1 4 (tp - 1)) got) 11 (rw g1))) (kw q1) (joinZ Z1 n1 (q1 4 (tp - 1)) got) L ((tS ((tS F 5 (nI tp))) 6 (nI (n1 + 1))))) (va_runV (As := [.int (nI (q1 4 (tp - 1))), .int (nI got)]) (rest := []) (x_fix C hml) (c_X4_join l G a S ((tS T1 11 (rw g1))) (kw q1) Z1 L ((tS ((tS F 6 (nI n1))) 5 (nI tp))) (q1 4 (tp - 1)) got n1 rfl (by omega) (by omega) (by omega) _) (cwV 2 C.2.2.2.1 gX4_cutAll_X4_join rfl rfl rfl (by decide +kernel) ⟨Nat.le_of_ble_eq_true rfl, Nat.le_of_ble_eq_true rfl⟩) (x_pv C hH rfl gM_0 rfl rfl) rfl rfl hl.1 rfl (lv_room (Nat.le_of_ble_eq_true rfl)) dX4_cutAll_245 ⟨Nat.le_of_ble_eq_true rfl, Nat.le_of_ble_eq_true rfl⟩) hH hA (fun H locs hH => ?_)
                  refine lv_istore_n (lv' := [(1, .int (nI n1)), (3, .int (nI (q1 0 (tp - 1) + ((q1 1 (tp - 1) - (q1 0 (tp - 1)) + 1) / 2)))), (2, .int (nI (tp - 1))), (0, .ref (a 0))]) C.1 C.2.1 dX4_cutAll_248 rfl hl (by decide) rfl (fun ls hl => ?_)
                  refine lv_aload_n C.1 C.2.1 dX4_cutAll_249 rfl (lv_at hl 3 rfl) ?_
                  refine lv_dup C.1 C.2.1 dX4_cutAll_250 rfl ?_
                  refine x_get (C := RX4) (T := TX4) (N := 37) (v := .int (nI tp)) C inX4 hH 0 gM_0 rfl 29 (by decide) rfl rfl 3 rfl dX4_cutAll_251 ?_
                  refine lv_iconst (v := nI 1) C.1 C.2.1 dX4_cutAll_254 (by decide) ?_
                  refine lv_isub C.1 C.2.1 dX4_cutAll_255 ?_
                  refine x_toi (pk_sub (a := tp) (b := 1) (by omega)) ?_
                  refine x_put (C := RX4) (T := TX4) (N := 37) (v := .int (nI (tp - 1))) (w' := wM G a S ((tS (joinT T1 n1 (q1 4 (tp - 1)) got) 11 (rw g1))) (kw q1) (joinZ Z1 n1 (q1 4 (tp - 1)) got) L ((tS ((tS F 6 (nI (n1 + 1)))) 5 (nI (tp - 1))))) C inX4 tyX4 tyX4_ok nmX4 hH 0 gM_0 rfl 29 (by decide) rfl rfl rfl rfl (Nat.le_of_ble_eq_true rfl) fM_0_29 3 rfl dX4_cutAll_256 (fun H locs hH => ?_)
                  refine lv_goto (tgt := 40) C.1 C.2.1 dX4_cutAll_259 (by decide) ?_
                  exact ih40 n1 (joinT T1 n1 (q1 4 (tp - 1)) got) (joinZ Z1 n1 (q1 4 (tp - 1)) got) (n1 + 1) g1 q1 (tp - 1) _ _ _ (by omega) (by simp only [cmS, c_3, c_4, c_5, c_6, and_self, and_true, true_and, and_false, false_and, or_true, true_or, or_false, false_or, not_true_eq_false, not_false_eq_true, Classical.not_not, if_true, if_false, reduceIte] at hf; exact hf) (by simp only [cmS, c_3, c_4, c_5, c_6, and_self, and_true, true_and, and_false, false_and, or_true, true_or, or_false, false_or, not_true_eq_false, not_false_eq_true, Classical.not_not, if_true, if_false, reduceIte] at hok; exact hok) hH (lv_sub hl [3, 0] rfl)
                · rw [nI_eq (a := q1 3 (tp - 1)) (b := 1) (by omega) (by omega)] at c_6
                  refine lv_aload_n C.1 C.2.1 dX4_cutAll_201 rfl (lv_at hl 2 rfl) ?_
                  refine x_get (C := RX4) (T := TX4) (N := 37) (v := .ref (a 23)) C inX4 hH 0 gM_0 rfl 34 (by decide) rfl rfl 8 rfl dX4_cutAll_202 ?_
                  refine lv_iload_n C.1 C.2.1 dX4_cutAll_205 rfl (lv_at hl 1 rfl) ?_
                  refine lv_iload_n C.1 C.2.1 dX4_cutAll_206 rfl (lv_at hl 3 rfl) ?_
                  refine x_iast (f := (kw q1) 4) (j := tp - 1) (x := nI got) (w' := wM G a S ((tS T1 11 (rw g1))) ((tS (kw q1) 4 (upd ((kw q1) 4) (tp - 1) (nI got)))) Z1 L ((tS ((tS F 6 (nI n1))) 5 (nI tp)))) C hH 23 gM_23 (by omega) (by decide) sM_23 dX4_cutAll_207 (fun H locs hH => ?_)
                  have hH := x_eqw (w' := wM G a S ((tS T1 11 (rw g1))) (kw (tS q1 4 (updN (q1 4) (tp - 1) got))) Z1 L ((tS ((tS F 6 (nI n1))) 5 (nI tp)))) (by rw [kw_up]) hH
                  refine lv_aload_n C.1 C.2.1 dX4_cutAll_208 rfl (lv_at hl 2 rfl) ?_
                  refine x_get (C := RX4) (T := TX4) (N := 37) (v := .ref (a 22)) C inX4 hH 0 gM_0 rfl 33 (by decide) rfl rfl 6 rfl dX4_cutAll_209 ?_
                  refine lv_iload_n C.1 C.2.1 dX4_cutAll_212 rfl (lv_at hl 1 rfl) ?_
                  refine lv_iconst (v := nI 2) C.1 C.2.1 dX4_cutAll_213 (by decide) ?_
                  refine x_iast (f := (kw (tS q1 4 (updN (q1 4) (tp - 1) got))) 3) (j := tp - 1) (x := nI 2) (w' := wM G a S ((tS T1 11 (rw g1))) ((tS (kw (tS q1 4 (updN (q1 4) (tp - 1) got))) 3 (upd ((kw (tS q1 4 (updN (q1 4) (tp - 1) got))) 3) (tp - 1) (nI 2)))) Z1 L ((tS ((tS F 6 (nI n1))) 5 (nI tp)))) C hH 22 gM_22 (by omega) (by decide) sM_22 dX4_cutAll_214 (fun H locs hH => ?_)
                  have hH := x_eqw (w' := wM G a S ((tS T1 11 (rw g1))) (kw (tS (tS q1 4 (updN (q1 4) (tp - 1) got)) 3 (updN ((tS q1 4 (updN (q1 4) (tp - 1) got)) 3) (tp - 1) 2))) Z1 L ((tS ((tS F 6 (nI n1))) 5 (nI tp)))) (by rw [kw_up]) hH
                  refine lv_aload_n C.1 C.2.1 dX4_cutAll_215 rfl (lv_at hl 2 rfl) ?_
                  refine lv_iload_n C.1 C.2.1 dX4_cutAll_216 rfl (lv_at hl 0 rfl) ?_
                  refine lv_aload_n C.1 C.2.1 dX4_cutAll_217 rfl (lv_at hl 2 rfl) ?_
                  refine x_get (C := RX4) (T := TX4) (N := 37) (v := .ref (a 20)) C inX4 hH 0 gM_0 rfl 31 (by decide) rfl rfl 5 rfl dX4_cutAll_218 ?_
                  refine lv_iload_n C.1 C.2.1 dX4_cutAll_221 rfl (lv_at hl 1 rfl) ?_
                  refine x_iald (f := (kw (tS (tS q1 4 (updN (q1 4) (tp - 1) got)) 3 (updN ((tS q1 4 (updN (q1 4) (tp - 1) got)) 3) (tp - 1) 2))) 1) (j := tp - 1) (v := nI ((tS (tS q1 4 (updN (q1 4) (tp - 1) got)) 3 (updN ((tS q1 4 (updN (q1 4) (tp - 1) got)) 3) (tp - 1) 2)) 1 (tp - 1))) C hH 20 gM_20 (by omega) (by decide) (rfl) dX4_cutAll_222 ?_
                  refine lv_aload_n C.1 C.2.1 dX4_cutAll_223 rfl (lv_at hl 2 rfl) ?_
                  refine x_get (C := RX4) (T := TX4) (N := 37) (v := .ref (a 21)) C inX4 hH 0 gM_0 rfl 32 (by decide) rfl rfl 7 rfl dX4_cutAll_224 ?_
                  refine lv_iload_n C.1 C.2.1 dX4_cutAll_227 rfl (lv_at hl 1 rfl) ?_
                  refine x_iald (f := (kw (tS (tS q1 4 (updN (q1 4) (tp - 1) got)) 3 (updN ((tS q1 4 (updN (q1 4) (tp - 1) got)) 3) (tp - 1) 2))) 2) (j := tp - 1) (v := nI ((tS (tS q1 4 (updN (q1 4) (tp - 1) got)) 3 (updN ((tS q1 4 (updN (q1 4) (tp - 1) got)) 3) (tp - 1) 2)) 2 (tp - 1))) C hH 21 gM_21 (by omega) (by decide) (rfl) dX4_cutAll_228 ?_
                  refine lv_iconst (v := nI 1) C.1 C.2.1 dX4_cutAll_229 (by decide) ?_
                  refine lv_iadd C.1 C.2.1 dX4_cutAll_230 ?_
                  refine x_toi (nI_add ((tS (tS q1 4 (updN (q1 4) (tp - 1) got)) 3 (updN ((tS q1 4 (updN (q1 4) (tp - 1) got)) 3) (tp - 1) 2)) 2 (tp - 1)) 1) ?_
                  refine x_cv (w' := wM G a S ((tS T1 11 (rw g1))) (kw (pushK (tS (tS q1 4 (updN (q1 4) (tp - 1) got)) 3 (updN ((tS q1 4 (updN (q1 4) (tp - 1) got)) 3) (tp - 1) 2)) tp (q1 0 (tp - 1) + ((q1 1 (tp - 1) - (q1 0 (tp - 1)) + 1) / 2)) ((tS (tS q1 4 (updN (q1 4) (tp - 1) got)) 3 (updN ((tS q1 4 (updN (q1 4) (tp - 1) got)) 3) (tp - 1) 2)) 1 (tp - 1)) ((tS (tS q1 4 (updN (q1 4) (tp - 1) got)) 3 (updN ((tS q1 4 (updN (q1 4) (tp - 1) got)) 3) (tp - 1) 2)) 2 (tp - 1) + 1))) Z1 L ((tS ((tS F 6 (nI n1))) 5 (nI (tp + 1))))) (va_runV (As := [.int (nI (q1 0 (tp - 1) + ((q1 1 (tp - 1) - (q1 0 (tp - 1)) + 1) / 2))), .int (nI ((tS (tS q1 4 (updN (q1 4) (tp - 1) got)) 3 (updN ((tS q1 4 (updN (q1 4) (tp - 1) got)) 3) (tp - 1) 2)) 1 (tp - 1))), .int (nI ((tS (tS q1 4 (updN (q1 4) (tp - 1) got)) 3 (updN ((tS q1 4 (updN (q1 4) (tp - 1) got)) 3) (tp - 1) 2)) 2 (tp - 1) + 1))]) (rest := []) (x_fix C hml) (c_X4_push l G a S ((tS T1 11 (rw g1))) Z1 L ((tS F 6 (nI n1))) (tS (tS q1 4 (updN (q1 4) (tp - 1) got)) 3 (updN ((tS q1 4 (updN (q1 4) (tp - 1) got)) 3) (tp - 1) 2)) (q1 0 (tp - 1) + ((q1 1 (tp - 1) - (q1 0 (tp - 1)) + 1) / 2)) ((tS (tS q1 4 (updN (q1 4) (tp - 1) got)) 3 (updN ((tS q1 4 (updN (q1 4) (tp - 1) got)) 3) (tp - 1) 2)) 1 (tp - 1)) ((tS (tS q1 4 (updN (q1 4) (tp - 1) got)) 3 (updN ((tS q1 4 (updN (q1 4) (tp - 1) got)) 3) (tp - 1) 2)) 2 (tp - 1) + 1) tp (by omega) _) (cwV 3 C.2.2.2.1 gX4_cutAll_X4_push rfl rfl rfl (by decide +kernel) ⟨Nat.le_of_ble_eq_true rfl, Nat.le_of_ble_eq_true rfl⟩) (x_pv C hH rfl gM_0 rfl rfl) rfl rfl hl.1 rfl (lv_room (Nat.le_of_ble_eq_true rfl)) dX4_cutAll_231 ⟨Nat.le_of_ble_eq_true rfl, Nat.le_of_ble_eq_true rfl⟩) hH hA (fun H locs hH => ?_)
                  refine lv_goto (tgt := 259) C.1 C.2.1 dX4_cutAll_234 (by decide) ?_
                  refine lv_goto (tgt := 40) C.1 C.2.1 dX4_cutAll_259 (by decide) ?_
                  exact ih40 got T1 Z1 n1 g1 (pushK (tS (tS q1 4 (updN (q1 4) (tp - 1) got)) 3 (updN ((tS q1 4 (updN (q1 4) (tp - 1) got)) 3) (tp - 1) 2)) tp (q1 0 (tp - 1) + ((q1 1 (tp - 1) - (q1 0 (tp - 1)) + 1) / 2)) ((tS (tS q1 4 (updN (q1 4) (tp - 1) got)) 3 (updN ((tS q1 4 (updN (q1 4) (tp - 1) got)) 3) (tp - 1) 2)) 1 (tp - 1)) ((tS (tS q1 4 (updN (q1 4) (tp - 1) got)) 3 (updN ((tS q1 4 (updN (q1 4) (tp - 1) got)) 3) (tp - 1) 2)) 2 (tp - 1) + 1)) (tp + 1) _ _ _ (by omega) (by simp only [cmS, c_3, c_4, c_5, c_6, and_self, and_true, true_and, and_false, false_and, or_true, true_or, or_false, false_or, not_true_eq_false, not_false_eq_true, Classical.not_not, if_true, if_false, reduceIte] at hf; exact hf) (by simp only [cmS, c_3, c_4, c_5, c_6, and_self, and_true, true_and, and_false, false_and, or_true, true_or, or_false, false_or, not_true_eq_false, not_false_eq_true, Classical.not_not, if_true, if_false, reduceIte] at hok; exact hok) hH (lv_sub hl [2, 3] rfl)
              · rw [xn_eq0 (n := q1 3 (tp - 1)) (by omega)] at c_5
                refine lv_aload_n C.1 C.2.1 dX4_cutAll_130 rfl (lv_at hl 2 rfl) ?_
                refine lv_aload_n C.1 C.2.1 dX4_cutAll_131 rfl (lv_at hl 2 rfl) ?_
                refine x_get (C := RX4) (T := TX4) (N := 37) (v := .ref (a 19)) C inX4 hH 0 gM_0 rfl 30 (by decide) rfl rfl 4 rfl dX4_cutAll_132 ?_
                refine lv_iload_n C.1 C.2.1 dX4_cutAll_135 rfl (lv_at hl 1 rfl) ?_
                refine x_iald (f := (kw q1) 0) (j := tp - 1) (v := nI (q1 0 (tp - 1))) C hH 19 gM_19 (by omega) (by decide) (rfl) dX4_cutAll_136 ?_
                refine lv_aload_n C.1 C.2.1 dX4_cutAll_137 rfl (lv_at hl 2 rfl) ?_
                refine x_get (C := RX4) (T := TX4) (N := 37) (v := .ref (a 20)) C inX4 hH 0 gM_0 rfl 31 (by decide) rfl rfl 5 rfl dX4_cutAll_138 ?_
                refine lv_iload_n C.1 C.2.1 dX4_cutAll_141 rfl (lv_at hl 1 rfl) ?_
                refine x_iald (f := (kw q1) 1) (j := tp - 1) (v := nI (q1 1 (tp - 1))) C hH 20 gM_20 (by omega) (by decide) (rfl) dX4_cutAll_142 ?_
                refine lv_aload_n C.1 C.2.1 dX4_cutAll_143 rfl (lv_at hl 2 rfl) ?_
                refine x_get (C := RX4) (T := TX4) (N := 37) (v := .ref (a 21)) C inX4 hH 0 gM_0 rfl 32 (by decide) rfl rfl 7 rfl dX4_cutAll_144 ?_
                refine lv_iload_n C.1 C.2.1 dX4_cutAll_147 rfl (lv_at hl 1 rfl) ?_
                refine x_iald (f := (kw q1) 2) (j := tp - 1) (v := nI (q1 2 (tp - 1))) C hH 21 gM_21 (by omega) (by decide) (rfl) dX4_cutAll_148 ?_
                refine lv_iconst (v := nI 2) C.1 C.2.1 dX4_cutAll_149 (by decide) ?_
                refine lv_irem C.1 C.2.1 dX4_cutAll_150 (by decide) ?_
                refine x_toi (pk_rem (a := q1 2 (tp - 1)) (d := 2) (by omega) (by decide) (by decide)) ?_
                refine x_mrg (g := F0 m 0 ls []) (pc2 := 159) (v := xb ((q1 2 (tp - 1) % 2 == 0) = true)) (st := [.int (nI (q1 1 (tp - 1))), .int (nI (q1 0 (tp - 1))), .ref (a 0)]) ?_ (fun hm_8 => ?_)
                · refine x_cv (w' := wM G a S ((tS T1 11 (rw (srtF (befM (kA S ((q1 2 (tp - 1) % 2 == 0))) (kB S ((q1 2 (tp - 1) % 2 == 0)))) (q1 0 (tp - 1)) ((q1 1 (tp - 1)) - ((q1 0 (tp - 1)) + 1)) ((q1 0 (tp - 1)) + 1) g1)))) (kw q1) Z1 L ((tS ((tS F 6 (nI n1))) 5 (nI tp)))) (va_runV (As := [.int (nI (q1 0 (tp - 1))), .int (nI (q1 1 (tp - 1))), .int (xb ((q1 2 (tp - 1) % 2 == 0) = true))]) (rest := []) (x_fix C hml) (c_X4_sort l G a S T1 (kw q1) Z1 L ((tS ((tS F 6 (nI n1))) 5 (nI tp))) g1 (q1 0 (tp - 1)) (q1 1 (tp - 1)) ((q1 2 (tp - 1) % 2 == 0)) hg1 (by omega) (by omega) _) (cwV 3 C.2.2.2.1 gX4_cutAll_X4_sort rfl rfl rfl (by decide +kernel) ⟨Nat.le_of_ble_eq_true rfl, Nat.le_of_ble_eq_true rfl⟩) (x_pv C hH rfl gM_0 rfl rfl) rfl rfl hl.1 rfl (lv_room (Nat.le_of_ble_eq_true rfl)) dX4_cutAll_159 ⟨Nat.le_of_ble_eq_true rfl, Nat.le_of_ble_eq_true rfl⟩) hH hA (fun H locs hH => ?_)
                  refine lv_aload_n C.1 C.2.1 dX4_cutAll_162 rfl (lv_at hl 2 rfl) ?_
                  refine x_get (C := RX4) (T := TX4) (N := 37) (v := .ref (a 22)) C inX4 hH 0 gM_0 rfl 33 (by decide) rfl rfl 6 rfl dX4_cutAll_163 ?_
                  refine lv_iload_n C.1 C.2.1 dX4_cutAll_166 rfl (lv_at hl 1 rfl) ?_
                  refine lv_iconst (v := nI 1) C.1 C.2.1 dX4_cutAll_167 (by decide) ?_
                  refine x_iast (f := (kw q1) 3) (j := tp - 1) (x := nI 1) (w' := wM G a S ((tS T1 11 (rw (srtF (befM (kA S ((q1 2 (tp - 1) % 2 == 0))) (kB S ((q1 2 (tp - 1) % 2 == 0)))) (q1 0 (tp - 1)) ((q1 1 (tp - 1)) - ((q1 0 (tp - 1)) + 1)) ((q1 0 (tp - 1)) + 1) g1)))) ((tS (kw q1) 3 (upd ((kw q1) 3) (tp - 1) (nI 1)))) Z1 L ((tS ((tS F 6 (nI n1))) 5 (nI tp)))) C hH 22 gM_22 (by omega) (by decide) sM_22 dX4_cutAll_168 (fun H locs hH => ?_)
                  have hH := x_eqw (w' := wM G a S ((tS T1 11 (rw (srtF (befM (kA S ((q1 2 (tp - 1) % 2 == 0))) (kB S ((q1 2 (tp - 1) % 2 == 0)))) (q1 0 (tp - 1)) ((q1 1 (tp - 1)) - ((q1 0 (tp - 1)) + 1)) ((q1 0 (tp - 1)) + 1) g1)))) (kw (tS q1 3 (updN (q1 3) (tp - 1) 1))) Z1 L ((tS ((tS F 6 (nI n1))) 5 (nI tp)))) (by rw [kw_up]) hH
                  refine lv_aload_n C.1 C.2.1 dX4_cutAll_169 rfl (lv_at hl 2 rfl) ?_
                  refine lv_aload_n C.1 C.2.1 dX4_cutAll_170 rfl (lv_at hl 2 rfl) ?_
                  refine x_get (C := RX4) (T := TX4) (N := 37) (v := .ref (a 19)) C inX4 hH 0 gM_0 rfl 30 (by decide) rfl rfl 4 rfl dX4_cutAll_171 ?_
                  refine lv_iload_n C.1 C.2.1 dX4_cutAll_174 rfl (lv_at hl 1 rfl) ?_
                  refine x_iald (f := (kw (tS q1 3 (updN (q1 3) (tp - 1) 1))) 0) (j := tp - 1) (v := nI ((tS q1 3 (updN (q1 3) (tp - 1) 1)) 0 (tp - 1))) C hH 19 gM_19 (by omega) (by decide) (rfl) dX4_cutAll_175 ?_
                  refine lv_iload_n C.1 C.2.1 dX4_cutAll_176 rfl (lv_at hl 0 rfl) ?_
                  refine lv_aload_n C.1 C.2.1 dX4_cutAll_177 rfl (lv_at hl 2 rfl) ?_
                  refine x_get (C := RX4) (T := TX4) (N := 37) (v := .ref (a 21)) C inX4 hH 0 gM_0 rfl 32 (by decide) rfl rfl 7 rfl dX4_cutAll_178 ?_
                  refine lv_iload_n C.1 C.2.1 dX4_cutAll_181 rfl (lv_at hl 1 rfl) ?_
                  refine x_iald (f := (kw (tS q1 3 (updN (q1 3) (tp - 1) 1))) 2) (j := tp - 1) (v := nI ((tS q1 3 (updN (q1 3) (tp - 1) 1)) 2 (tp - 1))) C hH 21 gM_21 (by omega) (by decide) (rfl) dX4_cutAll_182 ?_
                  refine lv_iconst (v := nI 1) C.1 C.2.1 dX4_cutAll_183 (by decide) ?_
                  refine lv_iadd C.1 C.2.1 dX4_cutAll_184 ?_
                  refine x_toi (nI_add ((tS q1 3 (updN (q1 3) (tp - 1) 1)) 2 (tp - 1)) 1) ?_
                  refine x_cv (w' := wM G a S ((tS T1 11 (rw (srtF (befM (kA S ((q1 2 (tp - 1) % 2 == 0))) (kB S ((q1 2 (tp - 1) % 2 == 0)))) (q1 0 (tp - 1)) ((q1 1 (tp - 1)) - ((q1 0 (tp - 1)) + 1)) ((q1 0 (tp - 1)) + 1) g1)))) (kw (pushK (tS q1 3 (updN (q1 3) (tp - 1) 1)) tp ((tS q1 3 (updN (q1 3) (tp - 1) 1)) 0 (tp - 1)) (q1 0 (tp - 1) + ((q1 1 (tp - 1) - (q1 0 (tp - 1)) + 1) / 2)) ((tS q1 3 (updN (q1 3) (tp - 1) 1)) 2 (tp - 1) + 1))) Z1 L ((tS ((tS F 6 (nI n1))) 5 (nI (tp + 1))))) (va_runV (As := [.int (nI ((tS q1 3 (updN (q1 3) (tp - 1) 1)) 0 (tp - 1))), .int (nI (q1 0 (tp - 1) + ((q1 1 (tp - 1) - (q1 0 (tp - 1)) + 1) / 2))), .int (nI ((tS q1 3 (updN (q1 3) (tp - 1) 1)) 2 (tp - 1) + 1))]) (rest := []) (x_fix C hml) (c_X4_push l G a S ((tS T1 11 (rw (srtF (befM (kA S ((q1 2 (tp - 1) % 2 == 0))) (kB S ((q1 2 (tp - 1) % 2 == 0)))) (q1 0 (tp - 1)) ((q1 1 (tp - 1)) - ((q1 0 (tp - 1)) + 1)) ((q1 0 (tp - 1)) + 1) g1)))) Z1 L ((tS F 6 (nI n1))) (tS q1 3 (updN (q1 3) (tp - 1) 1)) ((tS q1 3 (updN (q1 3) (tp - 1) 1)) 0 (tp - 1)) (q1 0 (tp - 1) + ((q1 1 (tp - 1) - (q1 0 (tp - 1)) + 1) / 2)) ((tS q1 3 (updN (q1 3) (tp - 1) 1)) 2 (tp - 1) + 1) tp (by omega) _) (cwV 3 C.2.2.2.1 gX4_cutAll_X4_push rfl rfl rfl (by decide +kernel) ⟨Nat.le_of_ble_eq_true rfl, Nat.le_of_ble_eq_true rfl⟩) (x_pv C hH rfl gM_0 rfl rfl) rfl rfl hl.1 rfl (lv_room (Nat.le_of_ble_eq_true rfl)) dX4_cutAll_185 ⟨Nat.le_of_ble_eq_true rfl, Nat.le_of_ble_eq_true rfl⟩) hH hA (fun H locs hH => ?_)
                  refine lv_goto (tgt := 259) C.1 C.2.1 dX4_cutAll_188 (by decide) ?_
                  refine lv_goto (tgt := 40) C.1 C.2.1 dX4_cutAll_259 (by decide) ?_
                  exact ih40 got T1 Z1 n1 (srtF (befM (kA S ((q1 2 (tp - 1) % 2 == 0))) (kB S ((q1 2 (tp - 1) % 2 == 0)))) (q1 0 (tp - 1)) ((q1 1 (tp - 1)) - ((q1 0 (tp - 1)) + 1)) ((q1 0 (tp - 1)) + 1) g1) (pushK (tS q1 3 (updN (q1 3) (tp - 1) 1)) tp ((tS q1 3 (updN (q1 3) (tp - 1) 1)) 0 (tp - 1)) (q1 0 (tp - 1) + ((q1 1 (tp - 1) - (q1 0 (tp - 1)) + 1) / 2)) ((tS q1 3 (updN (q1 3) (tp - 1) 1)) 2 (tp - 1) + 1)) (tp + 1) _ _ _ (by omega) (by simp only [cmS, c_3, c_4, c_5, and_self, and_true, true_and, and_false, false_and, or_true, true_or, or_false, false_or, not_true_eq_false, not_false_eq_true, Classical.not_not, if_true, if_false, reduceIte] at hf; exact hf) (by simp only [cmS, c_3, c_4, c_5, and_self, and_true, true_and, and_false, false_and, or_true, true_or, or_false, false_or, not_true_eq_false, not_false_eq_true, Classical.not_not, if_true, if_false, reduceIte] at hok; exact hok) hH (lv_sub hl [2, 3] rfl)
                · refine lv_if_ne (tgt := 158) C.1 C.2.1 dX4_cutAll_151 (by decide) (fun c_9 => ?_) (fun c_9 => ?_)
                  · rw [xn_eq0 (n := (q1 2 (tp - 1)) % 2) (by omega)] at c_9
                    refine lv_iconst (v := nI 0) C.1 C.2.1 dX4_cutAll_158 (by decide) ?_
                    exact x_toi (by first | exact xb_t (beq_iff_eq.mpr c_9) | exact xb_f (fun z => c_9 (beq_iff_eq.mp z))) hm_8
                  · rw [xn_eq0 (n := (q1 2 (tp - 1)) % 2) (by omega)] at c_9
                    refine lv_iconst (v := nI 1) C.1 C.2.1 dX4_cutAll_154 (by decide) ?_
                    refine lv_goto (tgt := 159) C.1 C.2.1 dX4_cutAll_155 (by decide) ?_
                    exact x_toi (by first | exact xb_t (beq_iff_eq.mpr c_9) | exact xb_f (fun z => c_9 (beq_iff_eq.mp z))) hm_8
            · rw [nI_eq (a := q1 1 (tp - 1) - (q1 0 (tp - 1))) (b := 1) (by omega) (by omega)] at c_4
              refine lv_aload_n C.1 C.2.1 dX4_cutAll_96 rfl (lv_at hl 2 rfl) ?_
              refine x_get (C := RX4) (T := TX4) (N := 37) (v := .ref (a 18)) C inX4 hH 0 gM_0 rfl 28 (by decide) rfl rfl 2 rfl dX4_cutAll_97 ?_
              refine lv_aload_n C.1 C.2.1 dX4_cutAll_100 rfl (lv_at hl 2 rfl) ?_
              refine x_get (C := RX4) (T := TX4) (N := 37) (v := .ref (a 19)) C inX4 hH 0 gM_0 rfl 30 (by decide) rfl rfl 4 rfl dX4_cutAll_101 ?_
              refine lv_iload_n C.1 C.2.1 dX4_cutAll_104 rfl (lv_at hl 1 rfl) ?_
              refine x_iald (f := (kw q1) 0) (j := tp - 1) (v := nI (q1 0 (tp - 1))) C hH 19 gM_19 (by omega) (by decide) (rfl) dX4_cutAll_105 ?_
              refine x_iald (f := rw g1) (j := q1 0 (tp - 1)) (v := nI (g1 (q1 0 (tp - 1)))) C hH 18 gM_18 (by omega) (by decide) (rfl) dX4_cutAll_106 ?_
              refine lv_istore_n (lv' := [(1, .int (nI (g1 (q1 0 (tp - 1))))), (3, .int (nI (q1 0 (tp - 1) + ((q1 1 (tp - 1) - (q1 0 (tp - 1)) + 1) / 2)))), (2, .int (nI (tp - 1))), (0, .ref (a 0))]) C.1 C.2.1 dX4_cutAll_107 rfl hl (by decide) rfl (fun ls hl => ?_)
              refine lv_aload_n C.1 C.2.1 dX4_cutAll_108 rfl (lv_at hl 3 rfl) ?_
              refine lv_dup C.1 C.2.1 dX4_cutAll_109 rfl ?_
              refine x_get (C := RX4) (T := TX4) (N := 37) (v := .int (nI tp)) C inX4 hH 0 gM_0 rfl 29 (by decide) rfl rfl 3 rfl dX4_cutAll_110 ?_
              refine lv_iconst (v := nI 1) C.1 C.2.1 dX4_cutAll_113 (by decide) ?_
              refine lv_isub C.1 C.2.1 dX4_cutAll_114 ?_
              refine x_toi (pk_sub (a := tp) (b := 1) (by omega)) ?_
              refine x_put (C := RX4) (T := TX4) (N := 37) (v := .int (nI (tp - 1))) (w' := wM G a S ((tS T1 11 (rw g1))) (kw q1) Z1 L ((tS ((tS F 6 (nI n1))) 5 (nI (tp - 1))))) C inX4 tyX4 tyX4_ok nmX4 hH 0 gM_0 rfl 29 (by decide) rfl rfl rfl rfl (Nat.le_of_ble_eq_true rfl) fM_0_29 3 rfl dX4_cutAll_115 (fun H locs hH => ?_)
              refine lv_goto (tgt := 259) C.1 C.2.1 dX4_cutAll_118 (by decide) ?_
              refine lv_goto (tgt := 40) C.1 C.2.1 dX4_cutAll_259 (by decide) ?_
              exact ih40 (g1 (q1 0 (tp - 1))) T1 Z1 n1 g1 q1 (tp - 1) _ _ _ (by omega) (by simp only [cmS, c_3, c_4, and_self, and_true, true_and, and_false, false_and, or_true, true_or, or_false, false_or, not_true_eq_false, not_false_eq_true, Classical.not_not, if_true, if_false, reduceIte] at hf; exact hf) (by simp only [cmS, c_3, c_4, and_self, and_true, true_and, and_false, false_and, or_true, true_or, or_false, false_or, not_true_eq_false, not_false_eq_true, Classical.not_not, if_true, if_false, reduceIte] at hok; exact hok) hH (lv_sub hl [3, 0] rfl)
      exact lp (N) 0 T Z ct (rowN ct 0 g) (pushK q 0 0 ct 0) 1 _ _ _ (by omega) (hfin) (hok) hH (lv_sub hl [1, 0] rfl)
    | succ n ih2 =>
      intro i g1 H locs ls hin hr hH hl
      refine lv_iload_n C.1 C.2.1 dX4_cutAll_2 rfl (lv_at hl 1 rfl) ?_
      refine lv_aload_n C.1 C.2.1 dX4_cutAll_3 rfl (lv_at hl 0 rfl) ?_
      refine x_get (C := RX4) (T := TX4) (N := 37) (v := .int (F 4)) C inX4 hH 0 gM_0 rfl 1 (by decide) rfl rfl 1 rfl dX4_cutAll_4 ?_
      refine x_toi h4 ?_
      refine lv_icmp_ge (tgt := 23) C.1 C.2.1 dX4_cutAll_7 (by decide) (fun c_10 => absurd ((nI_leI (a := ct) (b := i) (by omega) (by omega)).mp c_10) (by omega)) (fun _ => ?_)
      refine lv_aload_n C.1 C.2.1 dX4_cutAll_10 rfl (lv_at hl 0 rfl) ?_
      refine x_get (C := RX4) (T := TX4) (N := 37) (v := .ref (a 18)) C inX4 hH 0 gM_0 rfl 28 (by decide) rfl rfl 2 rfl dX4_cutAll_11 ?_
      refine lv_iload_n C.1 C.2.1 dX4_cutAll_14 rfl (lv_at hl 1 rfl) ?_
      refine lv_iload_n C.1 C.2.1 dX4_cutAll_15 rfl (lv_at hl 1 rfl) ?_
      refine x_iast (f := rw g1) (j := i) (x := nI i) (w' := wM G a S ((tS T 11 (upd (rw g1) i (nI i)))) (kw q) Z L ((tS F 6 (nI ct)))) C hH 18 gM_18 (by omega) (by decide) sM_18 dX4_cutAll_16 (fun H locs hH => ?_)
      have hH := x_eqw (w' := wM G a S ((tS T 11 (rw (updN g1 i i)))) (kw q) Z L ((tS F 6 (nI ct)))) (by rw [upd_rw]) hH
      refine lv_iinc (v := nI (i + 1)) (lv' := [(1, .int (nI (i + 1))), (0, .ref (a 0))]) C.1 C.2.1 dX4_cutAll_17 hl (k := 1) rfl (nI_add i 1) (by decide) rfl (fun ls hl => ?_)
      refine lv_goto (tgt := 2) C.1 C.2.1 dX4_cutAll_20 (by decide) ?_
      exact ih2 (i + 1) (updN g1 i i) _ _ _ (by omega) (hr) hH (lv_sub hl [1, 0] rfl)
  exact lr (ct) 0 g _ _ _ (by omega) (rfl) hH (lv_sub hl [1, 0] rfl)
