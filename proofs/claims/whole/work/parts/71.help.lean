abbrev rmL : Room := { frames := 40, cells := 1, slots := 6, locals := 1000 }
set_option maxHeartbeats 400000 in
set_option maxRecDepth 100000 in
theorem cL_sink_n (l : Launch) (G : xG) (sa : Nat → Nat) {rm9 : Room} {w w' : va_W} {b0 : Nat} {fs : List Value} (he : w[0]? = some (b0, .inr (3, fs))) (x : Int32) (y : Int32) (z : Int32) (u : Int32) (o : Nat) (f : Nat → Int64) (r : Int32) (hR : rm9.frames ≤ 30 ∧ rm9.locals ≤ 900 ∧ rm9.cells = 0 ∧ rm9.slots = 0) (hM : xMi l yX3_sink wsX3_sink rm9 [.ref b0, .int x, .int y, .int z, .int u] G w r w' 0 0) : xMy l yL_sink wsL_sink rmL [.ref b0, .int x, .int y, .int z, .int u, .ref o] G sa (wO G o f ++ w) (nI 0) (wO G o (vp_updL f 0 r.toInt64) ++ w') := by
  refine x_ofy (cc := cL_sink) (maxL := 7) (by decide) rfl (Nat.le_of_ble_eq_true rfl) ?_
  intro p e s m args below meth c ls A Q C hml hA hH hl hX hN hZ htab hE
  have hl : lv_has ls 7 [(0, .ref b0), (1, .int x), (2, .int y), (3, .int z), (4, .int u), (5, .ref o)] := hl
  refine lv_aload C.1 C.2.1 dL_sink_0 (lv_at hl 5 rfl) ?_
  refine lv_iconst (v := nI 0) C.1 C.2.1 dL_sink_2 (by decide) ?_
  refine lv_aload_n C.1 C.2.1 dL_sink_3 rfl (lv_at hl 0 rfl) ?_
  refine lv_iload_n C.1 C.2.1 dL_sink_4 rfl (lv_at hl 1 rfl) ?_
  refine lv_iload_n C.1 C.2.1 dL_sink_5 rfl (lv_at hl 2 rfl) ?_
  refine lv_iload_n C.1 C.2.1 dL_sink_6 rfl (lv_at hl 3 rfl) ?_
  refine lv_iload C.1 C.2.1 dL_sink_7 (lv_at hl 4 rfl) ?_
  refine x_cri (w1 := wO G o f) (wc' := w') (va_runV (As := [.int x, .int y, .int z, .int u]) (rest := [.int (nI 0), .ref o]) (x_fix C hml) (hM _) (cwV 4 C.2.2.2.1 gL_sink_X3_sink rfl hR.2.2.1 hR.2.2.2 (by decide +kernel) ⟨by show rm9.frames + 1 ≤ 40; omega, by show 8 + (5 + 11) + rm9.locals ≤ 1000; omega⟩) (x_pv C (x_rt hH) rfl he rfl rfl) rfl rfl hl.1 rfl (lv_room (Nat.le_of_ble_eq_true rfl)) dL_sink_9 ⟨Nat.le_of_ble_eq_true rfl, Nat.le_of_ble_eq_true rfl⟩) hH hA (fun H locs hH => ?_)
  refine lv_i2l (v := r.toInt64) C.1 C.2.1 dL_sink_12 rfl ?_
  refine x_last (w' := wO G o (vp_updL f 0 r.toInt64) ++ w') C hH 0 (b := o) (n := 1) (f := f) rfl (j := 0) (by decide) (by decide) rfl dL_sink_13 (fun H locs hH => ?_)
  refine lv_goto (tgt := 25) C.1 C.2.1 dL_sink_14 (by decide) ?_
  refine lv_iconst (v := nI 0) C.1 C.2.1 dL_sink_25 (by decide) ?_
  exact W.widen (k := 1) (n := 6) (by decide) (by decide) (hE _ _ _ _ _ hH rfl dL_sink_26)
set_option maxHeartbeats 400000 in
set_option maxRecDepth 100000 in
theorem cL_sink_x1 (l : Launch) (G : xG) (sa : Nat → Nat) {rm9 : Room} {w : va_W} {b0 : Nat} {fs : List Value} (he : w[0]? = some (b0, .inr (3, fs))) (x : Int32) (y : Int32) (z : Int32) (u : Int32) (o : Nat) (f : Nat → Int64) (hR : rm9.frames ≤ 30 ∧ rm9.locals ≤ 900 ∧ rm9.cells = 1 ∧ rm9.slots = 6) (hM : xMx l yX3_sink wsX3_sink rm9 [.ref b0, .int x, .int y, .int z, .int u] G sa w "java/lang/IllegalArgumentException") : xMy l yL_sink wsL_sink rmL [.ref b0, .int x, .int y, .int z, .int u, .ref o] G sa (wO G o f ++ w) (nI 1) (wO G o f ++ w) := by
  refine x_ofy (cc := cL_sink) (maxL := 7) (by decide) rfl (Nat.le_of_ble_eq_true rfl) ?_
  intro p e s m args below meth c ls A Q C hml hA hH hl hX hN hZ htab hE
  have hl : lv_has ls 7 [(0, .ref b0), (1, .int x), (2, .int y), (3, .int z), (4, .int u), (5, .ref o)] := hl
  refine lv_aload C.1 C.2.1 dL_sink_0 (lv_at hl 5 rfl) ?_
  refine lv_iconst (v := nI 0) C.1 C.2.1 dL_sink_2 (by decide) ?_
  refine lv_aload_n C.1 C.2.1 dL_sink_3 rfl (lv_at hl 0 rfl) ?_
  refine lv_iload_n C.1 C.2.1 dL_sink_4 rfl (lv_at hl 1 rfl) ?_
  refine lv_iload_n C.1 C.2.1 dL_sink_5 rfl (lv_at hl 2 rfl) ?_
  refine lv_iload_n C.1 C.2.1 dL_sink_6 rfl (lv_at hl 3 rfl) ?_
  refine lv_iload C.1 C.2.1 dL_sink_7 (lv_at hl 4 rfl) ?_
  refine x_crx (w1 := wO G o f) (vx_runV (As := [.int x, .int y, .int z, .int u]) (rest := [.int (nI 0), .ref o]) (x_fix C hml) (hM _) (cwV 4 C.2.2.2.1 gL_sink_X3_sink rfl hR.2.2.1 hR.2.2.2 (by decide +kernel) ⟨by show rm9.frames + 1 ≤ 40; omega, by show 8 + (5 + 11) + rm9.locals ≤ 1000; omega⟩) (x_pvx C hX hZ hA (x_rt hH) rfl he rfl rfl) rfl rfl hl.1 rfl (lv_room (Nat.le_of_ble_eq_true rfl)) dL_sink_9 ⟨Nat.le_of_ble_eq_true rfl, Nat.le_of_ble_eq_true rfl⟩) hH hA (fun ce q9 H locs hH hc hv hcl => ?_)
  refine vx_catch (own := RL) (name := "java/lang/IllegalArgumentException") C.2.2.1 [] (⟨0, 14, 17, 13⟩ : ExceptionTableEntry) [(⟨0, 14, 21, 15⟩ : ExceptionTableEntry)] htab (fun z hz => absurd hz List.not_mem_nil) (by decide) (by decide) (C.2.2.2.1 _ (List.mem_of_getElem? (i := 1) rfl)) (va_Nw.use rfl (hX.1 _ (List.mem_of_getElem? (i := 3) rfl))) hc hv hcl ?_
  refine lv_astore (lv' := [(6, .ref q9), (0, .ref b0), (1, .int x), (2, .int y), (3, .int z), (4, .int u), (5, .ref o)]) C.1 C.2.1 dL_sink_17 hl (by decide) rfl (fun ls hl => ?_)
  refine lv_iconst (v := nI 1) C.1 C.2.1 dL_sink_19 (by decide) ?_
  exact W.widen (k := 1) (n := 6) (by decide) (by decide) (hE _ _ _ _ _ hH rfl dL_sink_20)
set_option maxHeartbeats 400000 in
set_option maxRecDepth 100000 in
theorem cL_sink_x2 (l : Launch) (G : xG) (sa : Nat → Nat) {rm9 : Room} {w : va_W} {b0 : Nat} {fs : List Value} (he : w[0]? = some (b0, .inr (3, fs))) (x : Int32) (y : Int32) (z : Int32) (u : Int32) (o : Nat) (f : Nat → Int64) (hR : rm9.frames ≤ 30 ∧ rm9.locals ≤ 900 ∧ rm9.cells = 1 ∧ rm9.slots = 6) (hM : xMx l yX3_sink wsX3_sink rm9 [.ref b0, .int x, .int y, .int z, .int u] G sa w "java/lang/UnsupportedOperationException") : xMy l yL_sink wsL_sink rmL [.ref b0, .int x, .int y, .int z, .int u, .ref o] G sa (wO G o f ++ w) (nI 2) (wO G o f ++ w) := by
  refine x_ofy (cc := cL_sink) (maxL := 7) (by decide) rfl (Nat.le_of_ble_eq_true rfl) ?_
  intro p e s m args below meth c ls A Q C hml hA hH hl hX hN hZ htab hE
  have hl : lv_has ls 7 [(0, .ref b0), (1, .int x), (2, .int y), (3, .int z), (4, .int u), (5, .ref o)] := hl
  refine lv_aload C.1 C.2.1 dL_sink_0 (lv_at hl 5 rfl) ?_
  refine lv_iconst (v := nI 0) C.1 C.2.1 dL_sink_2 (by decide) ?_
  refine lv_aload_n C.1 C.2.1 dL_sink_3 rfl (lv_at hl 0 rfl) ?_
  refine lv_iload_n C.1 C.2.1 dL_sink_4 rfl (lv_at hl 1 rfl) ?_
  refine lv_iload_n C.1 C.2.1 dL_sink_5 rfl (lv_at hl 2 rfl) ?_
  refine lv_iload_n C.1 C.2.1 dL_sink_6 rfl (lv_at hl 3 rfl) ?_
  refine lv_iload C.1 C.2.1 dL_sink_7 (lv_at hl 4 rfl) ?_
  refine x_crx (w1 := wO G o f) (vx_runV (As := [.int x, .int y, .int z, .int u]) (rest := [.int (nI 0), .ref o]) (x_fix C hml) (hM _) (cwV 4 C.2.2.2.1 gL_sink_X3_sink rfl hR.2.2.1 hR.2.2.2 (by decide +kernel) ⟨by show rm9.frames + 1 ≤ 40; omega, by show 8 + (5 + 11) + rm9.locals ≤ 1000; omega⟩) (x_pvx C hX hZ hA (x_rt hH) rfl he rfl rfl) rfl rfl hl.1 rfl (lv_room (Nat.le_of_ble_eq_true rfl)) dL_sink_9 ⟨Nat.le_of_ble_eq_true rfl, Nat.le_of_ble_eq_true rfl⟩) hH hA (fun ce q9 H locs hH hc hv hcl => ?_)
  refine vx_catch (own := RL) (name := "java/lang/UnsupportedOperationException") C.2.2.1 [(⟨0, 14, 17, 13⟩ : ExceptionTableEntry)] (⟨0, 14, 21, 15⟩ : ExceptionTableEntry) [] htab (fun z hz => by rcases List.mem_singleton.mp hz with rfl; exact Or.inr ⟨by decide, "java/lang/IllegalArgumentException", C.2.2.2.1 _ (List.mem_of_getElem? (i := 1) rfl), hN.1⟩) (by decide) (by decide) (C.2.2.2.1 _ (List.mem_of_getElem? (i := 2) rfl)) (va_Nw.use rfl (hX.1 _ (List.mem_of_getElem? (i := 4) rfl))) hc hv hcl ?_
  refine lv_astore (lv' := [(6, .ref q9), (0, .ref b0), (1, .int x), (2, .int y), (3, .int z), (4, .int u), (5, .ref o)]) C.1 C.2.1 dL_sink_21 hl (by decide) rfl (fun ls hl => ?_)
  refine lv_iconst (v := nI 2) C.1 C.2.1 dL_sink_23 (by decide) ?_
  exact W.widen (k := 1) (n := 6) (by decide) (by decide) (hE _ _ _ _ _ hH rfl dL_sink_24)
set_option maxHeartbeats 400000 in
set_option maxRecDepth 100000 in
theorem cL_cut_n (l : Launch) (G : xG) (sa : Nat → Nat) {rm9 : Room} {w w' : va_W} {b0 : Nat} {fs : List Value} (he : w[0]? = some (b0, .inr (3, fs))) (x : Int32) (hR : rm9.frames ≤ 30 ∧ rm9.locals ≤ 900 ∧ rm9.cells = 0 ∧ rm9.slots = 0) (hM : xMv l yX3_cut wsX3_cut rm9 [.ref b0, .int x] G w w' 0 0) : xMy l yL_cut wsL_cut rmL [.ref b0, .int x] G sa ([] ++ w) (nI 0) ([] ++ w') := by
  refine x_ofy (cc := cL_cut) (maxL := 3) (by decide) rfl (Nat.le_of_ble_eq_true rfl) ?_
  intro p e s m args below meth c ls A Q C hml hA hH hl hX hN hZ htab hE
  have hl : lv_has ls 3 [(0, .ref b0), (1, .int x)] := hl
  refine lv_aload_n C.1 C.2.1 dL_cut_0 rfl (lv_at hl 0 rfl) ?_
  refine lv_iload_n C.1 C.2.1 dL_cut_1 rfl (lv_at hl 1 rfl) ?_
  refine x_cv (w := w) (w' := w') (va_runV (As := [.int x]) (rest := []) (x_fix C hml) (hM _) (cwV 1 C.2.2.2.1 gL_cut_X3_cut rfl hR.2.2.1 hR.2.2.2 (by decide +kernel) ⟨by show rm9.frames + 1 ≤ 40; omega, by show 8 + (2 + 11) + rm9.locals ≤ 1000; omega⟩) (x_pv C (x_rt hH) rfl he rfl rfl) rfl rfl hl.1 rfl (lv_room (Nat.le_of_ble_eq_true rfl)) dL_cut_2 ⟨Nat.le_of_ble_eq_true rfl, Nat.le_of_ble_eq_true rfl⟩) (x_rt hH) hA (fun H locs hH => ?_)
  have hH : xH G A s.heap H locs ([] ++ w') := hH
  refine lv_goto (tgt := 11) C.1 C.2.1 dL_cut_5 (by decide) ?_
  refine lv_iconst (v := nI 0) C.1 C.2.1 dL_cut_11 (by decide) ?_
  exact W.widen (k := 1) (n := 6) (by decide) (by decide) (hE _ _ _ _ _ hH rfl dL_cut_12)
set_option maxHeartbeats 400000 in
set_option maxRecDepth 100000 in
theorem cL_cut_x1 (l : Launch) (G : xG) (sa : Nat → Nat) {rm9 : Room} {w : va_W} {b0 : Nat} {fs : List Value} (he : w[0]? = some (b0, .inr (3, fs))) (x : Int32) (hR : rm9.frames ≤ 30 ∧ rm9.locals ≤ 900 ∧ rm9.cells = 1 ∧ rm9.slots = 6) (hM : xMx l yX3_cut wsX3_cut rm9 [.ref b0, .int x] G sa w "java/lang/IllegalArgumentException") : xMy l yL_cut wsL_cut rmL [.ref b0, .int x] G sa ([] ++ w) (nI 1) ([] ++ w) := by
  refine x_ofy (cc := cL_cut) (maxL := 3) (by decide) rfl (Nat.le_of_ble_eq_true rfl) ?_
  intro p e s m args below meth c ls A Q C hml hA hH hl hX hN hZ htab hE
  have hl : lv_has ls 3 [(0, .ref b0), (1, .int x)] := hl
  refine lv_aload_n C.1 C.2.1 dL_cut_0 rfl (lv_at hl 0 rfl) ?_
  refine lv_iload_n C.1 C.2.1 dL_cut_1 rfl (lv_at hl 1 rfl) ?_
  refine x_crx (w1 := []) (vx_runV (As := [.int x]) (rest := []) (x_fix C hml) (hM _) (cwV 1 C.2.2.2.1 gL_cut_X3_cut rfl hR.2.2.1 hR.2.2.2 (by decide +kernel) ⟨by show rm9.frames + 1 ≤ 40; omega, by show 8 + (2 + 11) + rm9.locals ≤ 1000; omega⟩) (x_pvx C hX hZ hA (x_rt hH) rfl he rfl rfl) rfl rfl hl.1 rfl (lv_room (Nat.le_of_ble_eq_true rfl)) dL_cut_2 ⟨Nat.le_of_ble_eq_true rfl, Nat.le_of_ble_eq_true rfl⟩) hH hA (fun ce q9 H locs hH hc hv hcl => ?_)
  refine vx_catch (own := RL) (name := "java/lang/IllegalArgumentException") C.2.2.1 [] (⟨0, 5, 8, 13⟩ : ExceptionTableEntry) [] htab (fun z hz => absurd hz List.not_mem_nil) (by decide) (by decide) (C.2.2.2.1 _ (List.mem_of_getElem? (i := 1) rfl)) (va_Nw.use rfl (hX.1 _ (List.mem_of_getElem? (i := 3) rfl))) hc hv hcl ?_
  refine lv_astore_n (lv' := [(2, .ref q9), (0, .ref b0), (1, .int x)]) C.1 C.2.1 dL_cut_8 rfl hl (by decide) rfl (fun ls hl => ?_)
  refine lv_iconst (v := nI 1) C.1 C.2.1 dL_cut_9 (by decide) ?_
  exact W.widen (k := 1) (n := 6) (by decide) (by decide) (hE _ _ _ _ _ hH rfl dL_cut_10)
set_option maxHeartbeats 400000 in
set_option maxRecDepth 100000 in
theorem cL_source_n (l : Launch) (G : xG) (sa : Nat → Nat) {rm9 : Room} {w w' : va_W} {b0 : Nat} {fs : List Value} (he : w[0]? = some (b0, .inr (3, fs))) (x : Int32) (y : Int32) (hR : rm9.frames ≤ 30 ∧ rm9.locals ≤ 900 ∧ rm9.cells = 0 ∧ rm9.slots = 0) (hM : xMv l yX3_source wsX3_source rm9 [.ref b0, .int x, .int y] G w w' 0 0) : xMy l yL_source wsL_source rmL [.ref b0, .int x, .int y] G sa ([] ++ w) (nI 0) ([] ++ w') := by
  refine x_ofy (cc := cL_source) (maxL := 4) (by decide) rfl (Nat.le_of_ble_eq_true rfl) ?_
  intro p e s m args below meth c ls A Q C hml hA hH hl hX hN hZ htab hE
  have hl : lv_has ls 4 [(0, .ref b0), (1, .int x), (2, .int y)] := hl
  refine lv_aload_n C.1 C.2.1 dL_source_0 rfl (lv_at hl 0 rfl) ?_
  refine lv_iload_n C.1 C.2.1 dL_source_1 rfl (lv_at hl 1 rfl) ?_
  refine lv_iload_n C.1 C.2.1 dL_source_2 rfl (lv_at hl 2 rfl) ?_
  refine x_cv (w := w) (w' := w') (va_runV (As := [.int x, .int y]) (rest := []) (x_fix C hml) (hM _) (cwV 2 C.2.2.2.1 gL_source_X3_source rfl hR.2.2.1 hR.2.2.2 (by decide +kernel) ⟨by show rm9.frames + 1 ≤ 40; omega, by show 8 + (3 + 11) + rm9.locals ≤ 1000; omega⟩) (x_pv C (x_rt hH) rfl he rfl rfl) rfl rfl hl.1 rfl (lv_room (Nat.le_of_ble_eq_true rfl)) dL_source_3 ⟨Nat.le_of_ble_eq_true rfl, Nat.le_of_ble_eq_true rfl⟩) (x_rt hH) hA (fun H locs hH => ?_)
  have hH : xH G A s.heap H locs ([] ++ w') := hH
  refine lv_goto (tgt := 12) C.1 C.2.1 dL_source_6 (by decide) ?_
  refine lv_iconst (v := nI 0) C.1 C.2.1 dL_source_12 (by decide) ?_
  exact W.widen (k := 1) (n := 6) (by decide) (by decide) (hE _ _ _ _ _ hH rfl dL_source_13)
set_option maxHeartbeats 400000 in
set_option maxRecDepth 100000 in
theorem cL_source_x1 (l : Launch) (G : xG) (sa : Nat → Nat) {rm9 : Room} {w : va_W} {b0 : Nat} {fs : List Value} (he : w[0]? = some (b0, .inr (3, fs))) (x : Int32) (y : Int32) (hR : rm9.frames ≤ 30 ∧ rm9.locals ≤ 900 ∧ rm9.cells = 1 ∧ rm9.slots = 6) (hM : xMx l yX3_source wsX3_source rm9 [.ref b0, .int x, .int y] G sa w "java/lang/IllegalArgumentException") : xMy l yL_source wsL_source rmL [.ref b0, .int x, .int y] G sa ([] ++ w) (nI 1) ([] ++ w) := by
  refine x_ofy (cc := cL_source) (maxL := 4) (by decide) rfl (Nat.le_of_ble_eq_true rfl) ?_
  intro p e s m args below meth c ls A Q C hml hA hH hl hX hN hZ htab hE
  have hl : lv_has ls 4 [(0, .ref b0), (1, .int x), (2, .int y)] := hl
  refine lv_aload_n C.1 C.2.1 dL_source_0 rfl (lv_at hl 0 rfl) ?_
  refine lv_iload_n C.1 C.2.1 dL_source_1 rfl (lv_at hl 1 rfl) ?_
  refine lv_iload_n C.1 C.2.1 dL_source_2 rfl (lv_at hl 2 rfl) ?_
  refine x_crx (w1 := []) (vx_runV (As := [.int x, .int y]) (rest := []) (x_fix C hml) (hM _) (cwV 2 C.2.2.2.1 gL_source_X3_source rfl hR.2.2.1 hR.2.2.2 (by decide +kernel) ⟨by show rm9.frames + 1 ≤ 40; omega, by show 8 + (3 + 11) + rm9.locals ≤ 1000; omega⟩) (x_pvx C hX hZ hA (x_rt hH) rfl he rfl rfl) rfl rfl hl.1 rfl (lv_room (Nat.le_of_ble_eq_true rfl)) dL_source_3 ⟨Nat.le_of_ble_eq_true rfl, Nat.le_of_ble_eq_true rfl⟩) hH hA (fun ce q9 H locs hH hc hv hcl => ?_)
  refine vx_catch (own := RL) (name := "java/lang/IllegalArgumentException") C.2.2.1 [] (⟨0, 6, 9, 13⟩ : ExceptionTableEntry) [] htab (fun z hz => absurd hz List.not_mem_nil) (by decide) (by decide) (C.2.2.2.1 _ (List.mem_of_getElem? (i := 1) rfl)) (va_Nw.use rfl (hX.1 _ (List.mem_of_getElem? (i := 3) rfl))) hc hv hcl ?_
  refine lv_astore_n (lv' := [(3, .ref q9), (0, .ref b0), (1, .int x), (2, .int y)]) C.1 C.2.1 dL_source_9 rfl hl (by decide) rfl (fun ls hl => ?_)
  refine lv_iconst (v := nI 1) C.1 C.2.1 dL_source_10 (by decide) ?_
  exact W.widen (k := 1) (n := 6) (by decide) (by decide) (hE _ _ _ _ _ hH rfl dL_source_11)
set_option maxHeartbeats 400000 in
set_option maxRecDepth 100000 in
theorem cL_wires_n (l : Launch) (G : xG) (sa : Nat → Nat) {rm9 : Room} {w w' : va_W} {b0 : Nat} {fs : List Value} (he : w[0]? = some (b0, .inr (3, fs))) (x : Int32) (y : Int32) (hR : rm9.frames ≤ 30 ∧ rm9.locals ≤ 900 ∧ rm9.cells = 0 ∧ rm9.slots = 0) (hM : xMv l yX3_wires wsX3_wires rm9 [.ref b0, .int x, .int y] G w w' 0 0) : xMy l yL_wires wsL_wires rmL [.ref b0, .int x, .int y] G sa ([] ++ w) (nI 0) ([] ++ w') := by
  refine x_ofy (cc := cL_wires) (maxL := 4) (by decide) rfl (Nat.le_of_ble_eq_true rfl) ?_
  intro p e s m args below meth c ls A Q C hml hA hH hl hX hN hZ htab hE
  have hl : lv_has ls 4 [(0, .ref b0), (1, .int x), (2, .int y)] := hl
  refine lv_aload_n C.1 C.2.1 dL_wires_0 rfl (lv_at hl 0 rfl) ?_
  refine lv_iload_n C.1 C.2.1 dL_wires_1 rfl (lv_at hl 1 rfl) ?_
  refine lv_iload_n C.1 C.2.1 dL_wires_2 rfl (lv_at hl 2 rfl) ?_
  refine x_cv (w := w) (w' := w') (va_runV (As := [.int x, .int y]) (rest := []) (x_fix C hml) (hM _) (cwV 2 C.2.2.2.1 gL_wires_X3_wires rfl hR.2.2.1 hR.2.2.2 (by decide +kernel) ⟨by show rm9.frames + 1 ≤ 40; omega, by show 8 + (3 + 11) + rm9.locals ≤ 1000; omega⟩) (x_pv C (x_rt hH) rfl he rfl rfl) rfl rfl hl.1 rfl (lv_room (Nat.le_of_ble_eq_true rfl)) dL_wires_3 ⟨Nat.le_of_ble_eq_true rfl, Nat.le_of_ble_eq_true rfl⟩) (x_rt hH) hA (fun H locs hH => ?_)
  have hH : xH G A s.heap H locs ([] ++ w') := hH
  refine lv_goto (tgt := 12) C.1 C.2.1 dL_wires_6 (by decide) ?_
  refine lv_iconst (v := nI 0) C.1 C.2.1 dL_wires_12 (by decide) ?_
  exact W.widen (k := 1) (n := 6) (by decide) (by decide) (hE _ _ _ _ _ hH rfl dL_wires_13)
set_option maxHeartbeats 400000 in
set_option maxRecDepth 100000 in
theorem cL_wires_x1 (l : Launch) (G : xG) (sa : Nat → Nat) {rm9 : Room} {w : va_W} {b0 : Nat} {fs : List Value} (he : w[0]? = some (b0, .inr (3, fs))) (x : Int32) (y : Int32) (hR : rm9.frames ≤ 30 ∧ rm9.locals ≤ 900 ∧ rm9.cells = 1 ∧ rm9.slots = 6) (hM : xMx l yX3_wires wsX3_wires rm9 [.ref b0, .int x, .int y] G sa w "java/lang/IllegalArgumentException") : xMy l yL_wires wsL_wires rmL [.ref b0, .int x, .int y] G sa ([] ++ w) (nI 1) ([] ++ w) := by
  refine x_ofy (cc := cL_wires) (maxL := 4) (by decide) rfl (Nat.le_of_ble_eq_true rfl) ?_
  intro p e s m args below meth c ls A Q C hml hA hH hl hX hN hZ htab hE
  have hl : lv_has ls 4 [(0, .ref b0), (1, .int x), (2, .int y)] := hl
  refine lv_aload_n C.1 C.2.1 dL_wires_0 rfl (lv_at hl 0 rfl) ?_
  refine lv_iload_n C.1 C.2.1 dL_wires_1 rfl (lv_at hl 1 rfl) ?_
  refine lv_iload_n C.1 C.2.1 dL_wires_2 rfl (lv_at hl 2 rfl) ?_
  refine x_crx (w1 := []) (vx_runV (As := [.int x, .int y]) (rest := []) (x_fix C hml) (hM _) (cwV 2 C.2.2.2.1 gL_wires_X3_wires rfl hR.2.2.1 hR.2.2.2 (by decide +kernel) ⟨by show rm9.frames + 1 ≤ 40; omega, by show 8 + (3 + 11) + rm9.locals ≤ 1000; omega⟩) (x_pvx C hX hZ hA (x_rt hH) rfl he rfl rfl) rfl rfl hl.1 rfl (lv_room (Nat.le_of_ble_eq_true rfl)) dL_wires_3 ⟨Nat.le_of_ble_eq_true rfl, Nat.le_of_ble_eq_true rfl⟩) hH hA (fun ce q9 H locs hH hc hv hcl => ?_)
  refine vx_catch (own := RL) (name := "java/lang/IllegalArgumentException") C.2.2.1 [] (⟨0, 6, 9, 13⟩ : ExceptionTableEntry) [] htab (fun z hz => absurd hz List.not_mem_nil) (by decide) (by decide) (C.2.2.2.1 _ (List.mem_of_getElem? (i := 1) rfl)) (va_Nw.use rfl (hX.1 _ (List.mem_of_getElem? (i := 3) rfl))) hc hv hcl ?_
  refine lv_astore_n (lv' := [(3, .ref q9), (0, .ref b0), (1, .int x), (2, .int y)]) C.1 C.2.1 dL_wires_9 rfl hl (by decide) rfl (fun ls hl => ?_)
  refine lv_iconst (v := nI 1) C.1 C.2.1 dL_wires_10 (by decide) ?_
  exact W.widen (k := 1) (n := 6) (by decide) (by decide) (hE _ _ _ _ _ hH rfl dL_wires_11)
set_option maxHeartbeats 400000 in
set_option maxRecDepth 100000 in
theorem cL_buffer_n (l : Launch) (G : xG) (sa : Nat → Nat) {rm9 : Room} {w w' : va_W} {b0 : Nat} {fs : List Value} (he : w[0]? = some (b0, .inr (3, fs))) (x : Int32) (y : Int32) (z : Int32) (hR : rm9.frames ≤ 30 ∧ rm9.locals ≤ 900 ∧ rm9.cells = 0 ∧ rm9.slots = 0) (hM : xMv l yX3_buffer wsX3_buffer rm9 [.ref b0, .int x, .int y, .int z] G w w' 0 0) : xMy l yL_buffer wsL_buffer rmL [.ref b0, .int x, .int y, .int z] G sa ([] ++ w) (nI 0) ([] ++ w') := by
  refine x_ofy (cc := cL_buffer) (maxL := 5) (by decide) rfl (Nat.le_of_ble_eq_true rfl) ?_
  intro p e s m args below meth c ls A Q C hml hA hH hl hX hN hZ htab hE
  have hl : lv_has ls 5 [(0, .ref b0), (1, .int x), (2, .int y), (3, .int z)] := hl
  refine lv_aload_n C.1 C.2.1 dL_buffer_0 rfl (lv_at hl 0 rfl) ?_
  refine lv_iload_n C.1 C.2.1 dL_buffer_1 rfl (lv_at hl 1 rfl) ?_
  refine lv_iload_n C.1 C.2.1 dL_buffer_2 rfl (lv_at hl 2 rfl) ?_
  refine lv_iload_n C.1 C.2.1 dL_buffer_3 rfl (lv_at hl 3 rfl) ?_
  refine x_cv (w := w) (w' := w') (va_runV (As := [.int x, .int y, .int z]) (rest := []) (x_fix C hml) (hM _) (cwV 3 C.2.2.2.1 gL_buffer_X3_buffer rfl hR.2.2.1 hR.2.2.2 (by decide +kernel) ⟨by show rm9.frames + 1 ≤ 40; omega, by show 8 + (4 + 11) + rm9.locals ≤ 1000; omega⟩) (x_pv C (x_rt hH) rfl he rfl rfl) rfl rfl hl.1 rfl (lv_room (Nat.le_of_ble_eq_true rfl)) dL_buffer_4 ⟨Nat.le_of_ble_eq_true rfl, Nat.le_of_ble_eq_true rfl⟩) (x_rt hH) hA (fun H locs hH => ?_)
  have hH : xH G A s.heap H locs ([] ++ w') := hH
  refine lv_goto (tgt := 14) C.1 C.2.1 dL_buffer_7 (by decide) ?_
  refine lv_iconst (v := nI 0) C.1 C.2.1 dL_buffer_14 (by decide) ?_
  exact W.widen (k := 1) (n := 6) (by decide) (by decide) (hE _ _ _ _ _ hH rfl dL_buffer_15)
set_option maxHeartbeats 400000 in
set_option maxRecDepth 100000 in
theorem cL_buffer_x1 (l : Launch) (G : xG) (sa : Nat → Nat) {rm9 : Room} {w : va_W} {b0 : Nat} {fs : List Value} (he : w[0]? = some (b0, .inr (3, fs))) (x : Int32) (y : Int32) (z : Int32) (hR : rm9.frames ≤ 30 ∧ rm9.locals ≤ 900 ∧ rm9.cells = 1 ∧ rm9.slots = 6) (hM : xMx l yX3_buffer wsX3_buffer rm9 [.ref b0, .int x, .int y, .int z] G sa w "java/lang/IllegalArgumentException") : xMy l yL_buffer wsL_buffer rmL [.ref b0, .int x, .int y, .int z] G sa ([] ++ w) (nI 1) ([] ++ w) := by
  refine x_ofy (cc := cL_buffer) (maxL := 5) (by decide) rfl (Nat.le_of_ble_eq_true rfl) ?_
  intro p e s m args below meth c ls A Q C hml hA hH hl hX hN hZ htab hE
  have hl : lv_has ls 5 [(0, .ref b0), (1, .int x), (2, .int y), (3, .int z)] := hl
  refine lv_aload_n C.1 C.2.1 dL_buffer_0 rfl (lv_at hl 0 rfl) ?_
  refine lv_iload_n C.1 C.2.1 dL_buffer_1 rfl (lv_at hl 1 rfl) ?_
  refine lv_iload_n C.1 C.2.1 dL_buffer_2 rfl (lv_at hl 2 rfl) ?_
  refine lv_iload_n C.1 C.2.1 dL_buffer_3 rfl (lv_at hl 3 rfl) ?_
  refine x_crx (w1 := []) (vx_runV (As := [.int x, .int y, .int z]) (rest := []) (x_fix C hml) (hM _) (cwV 3 C.2.2.2.1 gL_buffer_X3_buffer rfl hR.2.2.1 hR.2.2.2 (by decide +kernel) ⟨by show rm9.frames + 1 ≤ 40; omega, by show 8 + (4 + 11) + rm9.locals ≤ 1000; omega⟩) (x_pvx C hX hZ hA (x_rt hH) rfl he rfl rfl) rfl rfl hl.1 rfl (lv_room (Nat.le_of_ble_eq_true rfl)) dL_buffer_4 ⟨Nat.le_of_ble_eq_true rfl, Nat.le_of_ble_eq_true rfl⟩) hH hA (fun ce q9 H locs hH hc hv hcl => ?_)
  refine vx_catch (own := RL) (name := "java/lang/IllegalArgumentException") C.2.2.1 [] (⟨0, 7, 10, 13⟩ : ExceptionTableEntry) [] htab (fun z hz => absurd hz List.not_mem_nil) (by decide) (by decide) (C.2.2.2.1 _ (List.mem_of_getElem? (i := 1) rfl)) (va_Nw.use rfl (hX.1 _ (List.mem_of_getElem? (i := 3) rfl))) hc hv hcl ?_
  refine lv_astore (lv' := [(4, .ref q9), (0, .ref b0), (1, .int x), (2, .int y), (3, .int z)]) C.1 C.2.1 dL_buffer_10 hl (by decide) rfl (fun ls hl => ?_)
  refine lv_iconst (v := nI 1) C.1 C.2.1 dL_buffer_12 (by decide) ?_
  exact W.widen (k := 1) (n := 6) (by decide) (by decide) (hE _ _ _ _ _ hH rfl dL_buffer_13)
set_option maxHeartbeats 400000 in
set_option maxRecDepth 100000 in
theorem cL_build_n (l : Launch) (G : xG) (sa : Nat → Nat) {rm9 : Room} {w w' : va_W} {b0 : Nat} {fs : List Value} (he : w[0]? = some (b0, .inr (3, fs))) (x : Int32) (o : Nat) (f : Nat → Int64) (r : Int32) (hR : rm9.frames ≤ 30 ∧ rm9.locals ≤ 900 ∧ rm9.cells = 0 ∧ rm9.slots = 0) (hM : xMi l yX3_build wsX3_build rm9 [.ref b0, .int x] G w r w' 0 0) : xMy l yL_build wsL_build rmL [.ref b0, .int x, .ref o] G sa (wO G o f ++ w) (nI 0) (wO G o (vp_updL f 0 r.toInt64) ++ w') := by
  refine x_ofy (cc := cL_build) (maxL := 4) (by decide) rfl (Nat.le_of_ble_eq_true rfl) ?_
  intro p e s m args below meth c ls A Q C hml hA hH hl hX hN hZ htab hE
  have hl : lv_has ls 4 [(0, .ref b0), (1, .int x), (2, .ref o)] := hl
  refine lv_aload_n C.1 C.2.1 dL_build_0 rfl (lv_at hl 2 rfl) ?_
  refine lv_iconst (v := nI 0) C.1 C.2.1 dL_build_1 (by decide) ?_
  refine lv_aload_n C.1 C.2.1 dL_build_2 rfl (lv_at hl 0 rfl) ?_
  refine lv_iload_n C.1 C.2.1 dL_build_3 rfl (lv_at hl 1 rfl) ?_
  refine x_cri (w1 := wO G o f) (wc' := w') (va_runV (As := [.int x]) (rest := [.int (nI 0), .ref o]) (x_fix C hml) (hM _) (cwV 1 C.2.2.2.1 gL_build_X3_build rfl hR.2.2.1 hR.2.2.2 (by decide +kernel) ⟨by show rm9.frames + 1 ≤ 40; omega, by show 8 + (2 + 11) + rm9.locals ≤ 1000; omega⟩) (x_pv C (x_rt hH) rfl he rfl rfl) rfl rfl hl.1 rfl (lv_room (Nat.le_of_ble_eq_true rfl)) dL_build_4 ⟨Nat.le_of_ble_eq_true rfl, Nat.le_of_ble_eq_true rfl⟩) hH hA (fun H locs hH => ?_)
  refine lv_i2l (v := r.toInt64) C.1 C.2.1 dL_build_7 rfl ?_
  refine x_last (w' := wO G o (vp_updL f 0 r.toInt64) ++ w') C hH 0 (b := o) (n := 1) (f := f) rfl (j := 0) (by decide) (by decide) rfl dL_build_8 (fun H locs hH => ?_)
  refine lv_goto (tgt := 18) C.1 C.2.1 dL_build_9 (by decide) ?_
  refine lv_iconst (v := nI 0) C.1 C.2.1 dL_build_18 (by decide) ?_
  exact W.widen (k := 1) (n := 6) (by decide) (by decide) (hE _ _ _ _ _ hH rfl dL_build_19)
set_option maxHeartbeats 400000 in
set_option maxRecDepth 100000 in
theorem cL_build_x1 (l : Launch) (G : xG) (sa : Nat → Nat) {rm9 : Room} {w : va_W} {b0 : Nat} {fs : List Value} (he : w[0]? = some (b0, .inr (3, fs))) (x : Int32) (o : Nat) (f : Nat → Int64) (hR : rm9.frames ≤ 30 ∧ rm9.locals ≤ 900 ∧ rm9.cells = 1 ∧ rm9.slots = 6) (hM : xMx l yX3_build wsX3_build rm9 [.ref b0, .int x] G sa w "java/lang/IllegalArgumentException") : xMy l yL_build wsL_build rmL [.ref b0, .int x, .ref o] G sa (wO G o f ++ w) (nI 1) (wO G o f ++ w) := by
  refine x_ofy (cc := cL_build) (maxL := 4) (by decide) rfl (Nat.le_of_ble_eq_true rfl) ?_
  intro p e s m args below meth c ls A Q C hml hA hH hl hX hN hZ htab hE
  have hl : lv_has ls 4 [(0, .ref b0), (1, .int x), (2, .ref o)] := hl
  refine lv_aload_n C.1 C.2.1 dL_build_0 rfl (lv_at hl 2 rfl) ?_
  refine lv_iconst (v := nI 0) C.1 C.2.1 dL_build_1 (by decide) ?_
  refine lv_aload_n C.1 C.2.1 dL_build_2 rfl (lv_at hl 0 rfl) ?_
  refine lv_iload_n C.1 C.2.1 dL_build_3 rfl (lv_at hl 1 rfl) ?_
  refine x_crx (w1 := wO G o f) (vx_runV (As := [.int x]) (rest := [.int (nI 0), .ref o]) (x_fix C hml) (hM _) (cwV 1 C.2.2.2.1 gL_build_X3_build rfl hR.2.2.1 hR.2.2.2 (by decide +kernel) ⟨by show rm9.frames + 1 ≤ 40; omega, by show 8 + (2 + 11) + rm9.locals ≤ 1000; omega⟩) (x_pvx C hX hZ hA (x_rt hH) rfl he rfl rfl) rfl rfl hl.1 rfl (lv_room (Nat.le_of_ble_eq_true rfl)) dL_build_4 ⟨Nat.le_of_ble_eq_true rfl, Nat.le_of_ble_eq_true rfl⟩) hH hA (fun ce q9 H locs hH hc hv hcl => ?_)
  refine vx_catch (own := RL) (name := "java/lang/IllegalArgumentException") C.2.2.1 [] (⟨0, 9, 12, 13⟩ : ExceptionTableEntry) [(⟨0, 9, 15, 36⟩ : ExceptionTableEntry)] htab (fun z hz => absurd hz List.not_mem_nil) (by decide) (by decide) (C.2.2.2.1 _ (List.mem_of_getElem? (i := 1) rfl)) (va_Nw.use rfl (hX.1 _ (List.mem_of_getElem? (i := 3) rfl))) hc hv hcl ?_
  refine lv_astore_n (lv' := [(3, .ref q9), (0, .ref b0), (1, .int x), (2, .ref o)]) C.1 C.2.1 dL_build_12 rfl hl (by decide) rfl (fun ls hl => ?_)
  refine lv_iconst (v := nI 1) C.1 C.2.1 dL_build_13 (by decide) ?_
  exact W.widen (k := 1) (n := 6) (by decide) (by decide) (hE _ _ _ _ _ hH rfl dL_build_14)
set_option maxHeartbeats 400000 in
set_option maxRecDepth 100000 in
theorem cL_build_x2 (l : Launch) (G : xG) (sa : Nat → Nat) {rm9 : Room} {w : va_W} {b0 : Nat} {fs : List Value} (he : w[0]? = some (b0, .inr (3, fs))) (x : Int32) (o : Nat) (f : Nat → Int64) (hR : rm9.frames ≤ 30 ∧ rm9.locals ≤ 900 ∧ rm9.cells = 1 ∧ rm9.slots = 6) (hM : xMx l yX3_build wsX3_build rm9 [.ref b0, .int x] G sa w "java/util/NoSuchElementException") : xMy l yL_build wsL_build rmL [.ref b0, .int x, .ref o] G sa (wO G o f ++ w) (nI 2) (wO G o f ++ w) := by
  refine x_ofy (cc := cL_build) (maxL := 4) (by decide) rfl (Nat.le_of_ble_eq_true rfl) ?_
  intro p e s m args below meth c ls A Q C hml hA hH hl hX hN hZ htab hE
  have hl : lv_has ls 4 [(0, .ref b0), (1, .int x), (2, .ref o)] := hl
  refine lv_aload_n C.1 C.2.1 dL_build_0 rfl (lv_at hl 2 rfl) ?_
  refine lv_iconst (v := nI 0) C.1 C.2.1 dL_build_1 (by decide) ?_
  refine lv_aload_n C.1 C.2.1 dL_build_2 rfl (lv_at hl 0 rfl) ?_
  refine lv_iload_n C.1 C.2.1 dL_build_3 rfl (lv_at hl 1 rfl) ?_
  refine x_crx (w1 := wO G o f) (vx_runV (As := [.int x]) (rest := [.int (nI 0), .ref o]) (x_fix C hml) (hM _) (cwV 1 C.2.2.2.1 gL_build_X3_build rfl hR.2.2.1 hR.2.2.2 (by decide +kernel) ⟨by show rm9.frames + 1 ≤ 40; omega, by show 8 + (2 + 11) + rm9.locals ≤ 1000; omega⟩) (x_pvx C hX hZ hA (x_rt hH) rfl he rfl rfl) rfl rfl hl.1 rfl (lv_room (Nat.le_of_ble_eq_true rfl)) dL_build_4 ⟨Nat.le_of_ble_eq_true rfl, Nat.le_of_ble_eq_true rfl⟩) hH hA (fun ce q9 H locs hH hc hv hcl => ?_)
  refine vx_catch (own := RL) (name := "java/util/NoSuchElementException") C.2.2.1 [(⟨0, 9, 12, 13⟩ : ExceptionTableEntry)] (⟨0, 9, 15, 36⟩ : ExceptionTableEntry) [] htab (fun z hz => by rcases List.mem_singleton.mp hz with rfl; exact Or.inr ⟨by decide, "java/lang/IllegalArgumentException", C.2.2.2.1 _ (List.mem_of_getElem? (i := 1) rfl), hN.2.1⟩) (by decide) (by decide) (C.2.2.2.1 _ (List.mem_of_getElem? (i := 2) rfl)) (va_Nw.use rfl (hX.1 _ (List.mem_of_getElem? (i := 5) rfl))) hc hv hcl ?_
  refine lv_astore_n (lv' := [(3, .ref q9), (0, .ref b0), (1, .int x), (2, .ref o)]) C.1 C.2.1 dL_build_15 rfl hl (by decide) rfl (fun ls hl => ?_)
  refine lv_iconst (v := nI 2) C.1 C.2.1 dL_build_16 (by decide) ?_
  exact W.widen (k := 1) (n := 6) (by decide) (by decide) (hE _ _ _ _ _ hH rfl dL_build_17)
set_option maxHeartbeats 400000 in
set_option maxRecDepth 100000 in
theorem cL_node_n (l : Launch) (G : xG) (sa : Nat → Nat) {rm9 : Room} {w w' : va_W} {b0 : Nat} {fs : List Value} (he : w[0]? = some (b0, .inr (3, fs))) (x : Int32) (y : Int32) (o : Nat) (f : Nat → Int64) (r : Int32) (hR : rm9.frames ≤ 30 ∧ rm9.locals ≤ 900 ∧ rm9.cells = 0 ∧ rm9.slots = 0) (hM : xMi l yX3_node wsX3_node rm9 [.ref b0, .int x, .int y] G w r w' 0 0) : xMy l yL_node wsL_node rmL [.ref b0, .int x, .int y, .ref o] G sa (wO G o f ++ w) (nI 0) (wO G o (vp_updL f 0 r.toInt64) ++ w') := by
  refine x_ofy (cc := cL_node) (maxL := 5) (by decide) rfl (Nat.le_of_ble_eq_true rfl) ?_
  intro p e s m args below meth c ls A Q C hml hA hH hl hX hN hZ htab hE
  have hl : lv_has ls 5 [(0, .ref b0), (1, .int x), (2, .int y), (3, .ref o)] := hl
  refine lv_aload_n C.1 C.2.1 dL_node_0 rfl (lv_at hl 3 rfl) ?_
  refine lv_iconst (v := nI 0) C.1 C.2.1 dL_node_1 (by decide) ?_
  refine lv_aload_n C.1 C.2.1 dL_node_2 rfl (lv_at hl 0 rfl) ?_
  refine lv_iload_n C.1 C.2.1 dL_node_3 rfl (lv_at hl 1 rfl) ?_
  refine lv_iload_n C.1 C.2.1 dL_node_4 rfl (lv_at hl 2 rfl) ?_
  refine x_cri (w1 := wO G o f) (wc' := w') (va_runV (As := [.int x, .int y]) (rest := [.int (nI 0), .ref o]) (x_fix C hml) (hM _) (cwV 2 C.2.2.2.1 gL_node_X3_node rfl hR.2.2.1 hR.2.2.2 (by decide +kernel) ⟨by show rm9.frames + 1 ≤ 40; omega, by show 8 + (3 + 11) + rm9.locals ≤ 1000; omega⟩) (x_pv C (x_rt hH) rfl he rfl rfl) rfl rfl hl.1 rfl (lv_room (Nat.le_of_ble_eq_true rfl)) dL_node_5 ⟨Nat.le_of_ble_eq_true rfl, Nat.le_of_ble_eq_true rfl⟩) hH hA (fun H locs hH => ?_)
  refine lv_i2l (v := r.toInt64) C.1 C.2.1 dL_node_8 rfl ?_
  refine x_last (w' := wO G o (vp_updL f 0 r.toInt64) ++ w') C hH 0 (b := o) (n := 1) (f := f) rfl (j := 0) (by decide) (by decide) rfl dL_node_9 (fun H locs hH => ?_)
  refine lv_goto (tgt := 21) C.1 C.2.1 dL_node_10 (by decide) ?_
  refine lv_iconst (v := nI 0) C.1 C.2.1 dL_node_21 (by decide) ?_
  exact W.widen (k := 1) (n := 6) (by decide) (by decide) (hE _ _ _ _ _ hH rfl dL_node_22)
set_option maxHeartbeats 400000 in
set_option maxRecDepth 100000 in
theorem cL_node_x1 (l : Launch) (G : xG) (sa : Nat → Nat) {rm9 : Room} {w : va_W} {b0 : Nat} {fs : List Value} (he : w[0]? = some (b0, .inr (3, fs))) (x : Int32) (y : Int32) (o : Nat) (f : Nat → Int64) (hR : rm9.frames ≤ 30 ∧ rm9.locals ≤ 900 ∧ rm9.cells = 1 ∧ rm9.slots = 6) (hM : xMx l yX3_node wsX3_node rm9 [.ref b0, .int x, .int y] G sa w "java/lang/IllegalStateException") : xMy l yL_node wsL_node rmL [.ref b0, .int x, .int y, .ref o] G sa (wO G o f ++ w) (nI 1) (wO G o f ++ w) := by
  refine x_ofy (cc := cL_node) (maxL := 5) (by decide) rfl (Nat.le_of_ble_eq_true rfl) ?_
  intro p e s m args below meth c ls A Q C hml hA hH hl hX hN hZ htab hE
  have hl : lv_has ls 5 [(0, .ref b0), (1, .int x), (2, .int y), (3, .ref o)] := hl
  refine lv_aload_n C.1 C.2.1 dL_node_0 rfl (lv_at hl 3 rfl) ?_
  refine lv_iconst (v := nI 0) C.1 C.2.1 dL_node_1 (by decide) ?_
  refine lv_aload_n C.1 C.2.1 dL_node_2 rfl (lv_at hl 0 rfl) ?_
  refine lv_iload_n C.1 C.2.1 dL_node_3 rfl (lv_at hl 1 rfl) ?_
  refine lv_iload_n C.1 C.2.1 dL_node_4 rfl (lv_at hl 2 rfl) ?_
  refine x_crx (w1 := wO G o f) (vx_runV (As := [.int x, .int y]) (rest := [.int (nI 0), .ref o]) (x_fix C hml) (hM _) (cwV 2 C.2.2.2.1 gL_node_X3_node rfl hR.2.2.1 hR.2.2.2 (by decide +kernel) ⟨by show rm9.frames + 1 ≤ 40; omega, by show 8 + (3 + 11) + rm9.locals ≤ 1000; omega⟩) (x_pvx C hX hZ hA (x_rt hH) rfl he rfl rfl) rfl rfl hl.1 rfl (lv_room (Nat.le_of_ble_eq_true rfl)) dL_node_5 ⟨Nat.le_of_ble_eq_true rfl, Nat.le_of_ble_eq_true rfl⟩) hH hA (fun ce q9 H locs hH hc hv hcl => ?_)
  refine vx_catch (own := RL) (name := "java/lang/IllegalStateException") C.2.2.1 [] (⟨0, 10, 13, 42⟩ : ExceptionTableEntry) [(⟨0, 10, 17, 44⟩ : ExceptionTableEntry)] htab (fun z hz => absurd hz List.not_mem_nil) (by decide) (by decide) (C.2.2.2.1 _ (List.mem_of_getElem? (i := 1) rfl)) (va_Nw.use rfl (hX.1 _ (List.mem_of_getElem? (i := 6) rfl))) hc hv hcl ?_
  refine lv_astore (lv' := [(4, .ref q9), (0, .ref b0), (1, .int x), (2, .int y), (3, .ref o)]) C.1 C.2.1 dL_node_13 hl (by decide) rfl (fun ls hl => ?_)
  refine lv_iconst (v := nI 1) C.1 C.2.1 dL_node_15 (by decide) ?_
  exact W.widen (k := 1) (n := 6) (by decide) (by decide) (hE _ _ _ _ _ hH rfl dL_node_16)
set_option maxHeartbeats 400000 in
set_option maxRecDepth 100000 in
theorem cL_node_x2 (l : Launch) (G : xG) (sa : Nat → Nat) {rm9 : Room} {w : va_W} {b0 : Nat} {fs : List Value} (he : w[0]? = some (b0, .inr (3, fs))) (x : Int32) (y : Int32) (o : Nat) (f : Nat → Int64) (hR : rm9.frames ≤ 30 ∧ rm9.locals ≤ 900 ∧ rm9.cells = 1 ∧ rm9.slots = 6) (hM : xMx l yX3_node wsX3_node rm9 [.ref b0, .int x, .int y] G sa w "java/lang/IndexOutOfBoundsException") : xMy l yL_node wsL_node rmL [.ref b0, .int x, .int y, .ref o] G sa (wO G o f ++ w) (nI 2) (wO G o f ++ w) := by
  refine x_ofy (cc := cL_node) (maxL := 5) (by decide) rfl (Nat.le_of_ble_eq_true rfl) ?_
  intro p e s m args below meth c ls A Q C hml hA hH hl hX hN hZ htab hE
  have hl : lv_has ls 5 [(0, .ref b0), (1, .int x), (2, .int y), (3, .ref o)] := hl
  refine lv_aload_n C.1 C.2.1 dL_node_0 rfl (lv_at hl 3 rfl) ?_
  refine lv_iconst (v := nI 0) C.1 C.2.1 dL_node_1 (by decide) ?_
  refine lv_aload_n C.1 C.2.1 dL_node_2 rfl (lv_at hl 0 rfl) ?_
  refine lv_iload_n C.1 C.2.1 dL_node_3 rfl (lv_at hl 1 rfl) ?_
  refine lv_iload_n C.1 C.2.1 dL_node_4 rfl (lv_at hl 2 rfl) ?_
  refine x_crx (w1 := wO G o f) (vx_runV (As := [.int x, .int y]) (rest := [.int (nI 0), .ref o]) (x_fix C hml) (hM _) (cwV 2 C.2.2.2.1 gL_node_X3_node rfl hR.2.2.1 hR.2.2.2 (by decide +kernel) ⟨by show rm9.frames + 1 ≤ 40; omega, by show 8 + (3 + 11) + rm9.locals ≤ 1000; omega⟩) (x_pvx C hX hZ hA (x_rt hH) rfl he rfl rfl) rfl rfl hl.1 rfl (lv_room (Nat.le_of_ble_eq_true rfl)) dL_node_5 ⟨Nat.le_of_ble_eq_true rfl, Nat.le_of_ble_eq_true rfl⟩) hH hA (fun ce q9 H locs hH hc hv hcl => ?_)
  refine vx_catch (own := RL) (name := "java/lang/IndexOutOfBoundsException") C.2.2.1 [(⟨0, 10, 13, 42⟩ : ExceptionTableEntry)] (⟨0, 10, 17, 44⟩ : ExceptionTableEntry) [] htab (fun z hz => by rcases List.mem_singleton.mp hz with rfl; exact Or.inr ⟨by decide, "java/lang/IllegalStateException", C.2.2.2.1 _ (List.mem_of_getElem? (i := 1) rfl), hN.2.2⟩) (by decide) (by decide) (C.2.2.2.1 _ (List.mem_of_getElem? (i := 2) rfl)) (va_Nw.use rfl (hX.1 _ (List.mem_of_getElem? (i := 7) rfl))) hc hv hcl ?_
  refine lv_astore (lv' := [(4, .ref q9), (0, .ref b0), (1, .int x), (2, .int y), (3, .ref o)]) C.1 C.2.1 dL_node_17 hl (by decide) rfl (fun ls hl => ?_)
  refine lv_iconst (v := nI 2) C.1 C.2.1 dL_node_19 (by decide) ?_
  exact W.widen (k := 1) (n := 6) (by decide) (by decide) (hE _ _ _ _ _ hH rfl dL_node_20)
set_option maxHeartbeats 400000 in
set_option maxRecDepth 100000 in
theorem cL_length_n (l : Launch) (G : xG) (sa : Nat → Nat) {rm9 : Room} {w w' : va_W} {b0 : Nat} {fs : List Value} (he : w[0]? = some (b0, .inr (3, fs))) (o : Nat) (f : Nat → Int64) (r : Int32) (hR : rm9.frames ≤ 30 ∧ rm9.locals ≤ 900 ∧ rm9.cells = 0 ∧ rm9.slots = 0) (hM : xMi l yX3_length wsX3_length rm9 [.ref b0] G w r w' 0 0) : xMy l yL_length wsL_length rmL [.ref b0, .ref o] G sa (wO G o f ++ w) (nI 0) (wO G o (vp_updL f 0 r.toInt64) ++ w') := by
  refine x_ofy (cc := cL_length) (maxL := 3) (by decide) rfl (Nat.le_of_ble_eq_true rfl) ?_
  intro p e s m args below meth c ls A Q C hml hA hH hl hX hN hZ htab hE
  have hl : lv_has ls 3 [(0, .ref b0), (1, .ref o)] := hl
  refine lv_aload_n C.1 C.2.1 dL_length_0 rfl (lv_at hl 1 rfl) ?_
  refine lv_iconst (v := nI 0) C.1 C.2.1 dL_length_1 (by decide) ?_
  refine lv_aload_n C.1 C.2.1 dL_length_2 rfl (lv_at hl 0 rfl) ?_
  refine x_cri (w1 := wO G o f) (wc' := w') (va_runV (As := []) (rest := [.int (nI 0), .ref o]) (x_fix C hml) (hM _) (cwV 0 C.2.2.2.1 gL_length_X3_length rfl hR.2.2.1 hR.2.2.2 (by decide +kernel) ⟨by show rm9.frames + 1 ≤ 40; omega, by show 8 + (1 + 11) + rm9.locals ≤ 1000; omega⟩) (x_pv C (x_rt hH) rfl he rfl rfl) rfl rfl hl.1 rfl (lv_room (Nat.le_of_ble_eq_true rfl)) dL_length_3 ⟨Nat.le_of_ble_eq_true rfl, Nat.le_of_ble_eq_true rfl⟩) hH hA (fun H locs hH => ?_)
  refine lv_i2l (v := r.toInt64) C.1 C.2.1 dL_length_6 rfl ?_
  refine x_last (w' := wO G o (vp_updL f 0 r.toInt64) ++ w') C hH 0 (b := o) (n := 1) (f := f) rfl (j := 0) (by decide) (by decide) rfl dL_length_7 (fun H locs hH => ?_)
  refine lv_goto (tgt := 14) C.1 C.2.1 dL_length_8 (by decide) ?_
  refine lv_iconst (v := nI 0) C.1 C.2.1 dL_length_14 (by decide) ?_
  exact W.widen (k := 1) (n := 6) (by decide) (by decide) (hE _ _ _ _ _ hH rfl dL_length_15)
set_option maxHeartbeats 400000 in
set_option maxRecDepth 100000 in
theorem cL_length_x1 (l : Launch) (G : xG) (sa : Nat → Nat) {rm9 : Room} {w : va_W} {b0 : Nat} {fs : List Value} (he : w[0]? = some (b0, .inr (3, fs))) (o : Nat) (f : Nat → Int64) (hR : rm9.frames ≤ 30 ∧ rm9.locals ≤ 900 ∧ rm9.cells = 1 ∧ rm9.slots = 6) (hM : xMx l yX3_length wsX3_length rm9 [.ref b0] G sa w "java/lang/IllegalStateException") : xMy l yL_length wsL_length rmL [.ref b0, .ref o] G sa (wO G o f ++ w) (nI 1) (wO G o f ++ w) := by
  refine x_ofy (cc := cL_length) (maxL := 3) (by decide) rfl (Nat.le_of_ble_eq_true rfl) ?_
  intro p e s m args below meth c ls A Q C hml hA hH hl hX hN hZ htab hE
  have hl : lv_has ls 3 [(0, .ref b0), (1, .ref o)] := hl
  refine lv_aload_n C.1 C.2.1 dL_length_0 rfl (lv_at hl 1 rfl) ?_
  refine lv_iconst (v := nI 0) C.1 C.2.1 dL_length_1 (by decide) ?_
  refine lv_aload_n C.1 C.2.1 dL_length_2 rfl (lv_at hl 0 rfl) ?_
  refine x_crx (w1 := wO G o f) (vx_runV (As := []) (rest := [.int (nI 0), .ref o]) (x_fix C hml) (hM _) (cwV 0 C.2.2.2.1 gL_length_X3_length rfl hR.2.2.1 hR.2.2.2 (by decide +kernel) ⟨by show rm9.frames + 1 ≤ 40; omega, by show 8 + (1 + 11) + rm9.locals ≤ 1000; omega⟩) (x_pvx C hX hZ hA (x_rt hH) rfl he rfl rfl) rfl rfl hl.1 rfl (lv_room (Nat.le_of_ble_eq_true rfl)) dL_length_3 ⟨Nat.le_of_ble_eq_true rfl, Nat.le_of_ble_eq_true rfl⟩) hH hA (fun ce q9 H locs hH hc hv hcl => ?_)
  refine vx_catch (own := RL) (name := "java/lang/IllegalStateException") C.2.2.1 [] (⟨0, 8, 11, 42⟩ : ExceptionTableEntry) [] htab (fun z hz => absurd hz List.not_mem_nil) (by decide) (by decide) (C.2.2.2.1 _ (List.mem_of_getElem? (i := 1) rfl)) (va_Nw.use rfl (hX.1 _ (List.mem_of_getElem? (i := 6) rfl))) hc hv hcl ?_
  refine lv_astore_n (lv' := [(2, .ref q9), (0, .ref b0), (1, .ref o)]) C.1 C.2.1 dL_length_11 rfl hl (by decide) rfl (fun ls hl => ?_)
  refine lv_iconst (v := nI 1) C.1 C.2.1 dL_length_12 (by decide) ?_
  exact W.widen (k := 1) (n := 6) (by decide) (by decide) (hE _ _ _ _ _ hH rfl dL_length_13)
set_option maxHeartbeats 400000 in
set_option maxRecDepth 100000 in
theorem cL_depth_n (l : Launch) (G : xG) (sa : Nat → Nat) {rm9 : Room} {w w' : va_W} {b0 : Nat} {fs : List Value} (he : w[0]? = some (b0, .inr (3, fs))) (x : Int32) (o : Nat) (f : Nat → Int64) (r : Int32) (hR : rm9.frames ≤ 30 ∧ rm9.locals ≤ 900 ∧ rm9.cells = 0 ∧ rm9.slots = 0) (hM : xMi l yX3_depth wsX3_depth rm9 [.ref b0, .int x] G w r w' 0 0) : xMy l yL_depth wsL_depth rmL [.ref b0, .int x, .ref o] G sa (wO G o f ++ w) (nI 0) (wO G o (vp_updL f 0 r.toInt64) ++ w') := by
  refine x_ofy (cc := cL_depth) (maxL := 4) (by decide) rfl (Nat.le_of_ble_eq_true rfl) ?_
  intro p e s m args below meth c ls A Q C hml hA hH hl hX hN hZ htab hE
  have hl : lv_has ls 4 [(0, .ref b0), (1, .int x), (2, .ref o)] := hl
  refine lv_aload_n C.1 C.2.1 dL_depth_0 rfl (lv_at hl 2 rfl) ?_
  refine lv_iconst (v := nI 0) C.1 C.2.1 dL_depth_1 (by decide) ?_
  refine lv_aload_n C.1 C.2.1 dL_depth_2 rfl (lv_at hl 0 rfl) ?_
  refine lv_iload_n C.1 C.2.1 dL_depth_3 rfl (lv_at hl 1 rfl) ?_
  refine x_cri (w1 := wO G o f) (wc' := w') (va_runV (As := [.int x]) (rest := [.int (nI 0), .ref o]) (x_fix C hml) (hM _) (cwV 1 C.2.2.2.1 gL_depth_X3_depth rfl hR.2.2.1 hR.2.2.2 (by decide +kernel) ⟨by show rm9.frames + 1 ≤ 40; omega, by show 8 + (2 + 11) + rm9.locals ≤ 1000; omega⟩) (x_pv C (x_rt hH) rfl he rfl rfl) rfl rfl hl.1 rfl (lv_room (Nat.le_of_ble_eq_true rfl)) dL_depth_4 ⟨Nat.le_of_ble_eq_true rfl, Nat.le_of_ble_eq_true rfl⟩) hH hA (fun H locs hH => ?_)
  refine lv_i2l (v := r.toInt64) C.1 C.2.1 dL_depth_7 rfl ?_
  refine x_last (w' := wO G o (vp_updL f 0 r.toInt64) ++ w') C hH 0 (b := o) (n := 1) (f := f) rfl (j := 0) (by decide) (by decide) rfl dL_depth_8 (fun H locs hH => ?_)
  refine lv_goto (tgt := 18) C.1 C.2.1 dL_depth_9 (by decide) ?_
  refine lv_iconst (v := nI 0) C.1 C.2.1 dL_depth_18 (by decide) ?_
  exact W.widen (k := 1) (n := 6) (by decide) (by decide) (hE _ _ _ _ _ hH rfl dL_depth_19)
set_option maxHeartbeats 400000 in
set_option maxRecDepth 100000 in
theorem cL_depth_x1 (l : Launch) (G : xG) (sa : Nat → Nat) {rm9 : Room} {w : va_W} {b0 : Nat} {fs : List Value} (he : w[0]? = some (b0, .inr (3, fs))) (x : Int32) (o : Nat) (f : Nat → Int64) (hR : rm9.frames ≤ 30 ∧ rm9.locals ≤ 900 ∧ rm9.cells = 1 ∧ rm9.slots = 6) (hM : xMx l yX3_depth wsX3_depth rm9 [.ref b0, .int x] G sa w "java/lang/IllegalStateException") : xMy l yL_depth wsL_depth rmL [.ref b0, .int x, .ref o] G sa (wO G o f ++ w) (nI 1) (wO G o f ++ w) := by
  refine x_ofy (cc := cL_depth) (maxL := 4) (by decide) rfl (Nat.le_of_ble_eq_true rfl) ?_
  intro p e s m args below meth c ls A Q C hml hA hH hl hX hN hZ htab hE
  have hl : lv_has ls 4 [(0, .ref b0), (1, .int x), (2, .ref o)] := hl
  refine lv_aload_n C.1 C.2.1 dL_depth_0 rfl (lv_at hl 2 rfl) ?_
  refine lv_iconst (v := nI 0) C.1 C.2.1 dL_depth_1 (by decide) ?_
  refine lv_aload_n C.1 C.2.1 dL_depth_2 rfl (lv_at hl 0 rfl) ?_
  refine lv_iload_n C.1 C.2.1 dL_depth_3 rfl (lv_at hl 1 rfl) ?_
  refine x_crx (w1 := wO G o f) (vx_runV (As := [.int x]) (rest := [.int (nI 0), .ref o]) (x_fix C hml) (hM _) (cwV 1 C.2.2.2.1 gL_depth_X3_depth rfl hR.2.2.1 hR.2.2.2 (by decide +kernel) ⟨by show rm9.frames + 1 ≤ 40; omega, by show 8 + (2 + 11) + rm9.locals ≤ 1000; omega⟩) (x_pvx C hX hZ hA (x_rt hH) rfl he rfl rfl) rfl rfl hl.1 rfl (lv_room (Nat.le_of_ble_eq_true rfl)) dL_depth_4 ⟨Nat.le_of_ble_eq_true rfl, Nat.le_of_ble_eq_true rfl⟩) hH hA (fun ce q9 H locs hH hc hv hcl => ?_)
  refine vx_catch (own := RL) (name := "java/lang/IllegalStateException") C.2.2.1 [] (⟨0, 9, 12, 42⟩ : ExceptionTableEntry) [(⟨0, 9, 15, 44⟩ : ExceptionTableEntry)] htab (fun z hz => absurd hz List.not_mem_nil) (by decide) (by decide) (C.2.2.2.1 _ (List.mem_of_getElem? (i := 1) rfl)) (va_Nw.use rfl (hX.1 _ (List.mem_of_getElem? (i := 6) rfl))) hc hv hcl ?_
  refine lv_astore_n (lv' := [(3, .ref q9), (0, .ref b0), (1, .int x), (2, .ref o)]) C.1 C.2.1 dL_depth_12 rfl hl (by decide) rfl (fun ls hl => ?_)
  refine lv_iconst (v := nI 1) C.1 C.2.1 dL_depth_13 (by decide) ?_
  exact W.widen (k := 1) (n := 6) (by decide) (by decide) (hE _ _ _ _ _ hH rfl dL_depth_14)
set_option maxHeartbeats 400000 in
set_option maxRecDepth 100000 in
theorem cL_depth_x2 (l : Launch) (G : xG) (sa : Nat → Nat) {rm9 : Room} {w : va_W} {b0 : Nat} {fs : List Value} (he : w[0]? = some (b0, .inr (3, fs))) (x : Int32) (o : Nat) (f : Nat → Int64) (hR : rm9.frames ≤ 30 ∧ rm9.locals ≤ 900 ∧ rm9.cells = 1 ∧ rm9.slots = 6) (hM : xMx l yX3_depth wsX3_depth rm9 [.ref b0, .int x] G sa w "java/lang/IndexOutOfBoundsException") : xMy l yL_depth wsL_depth rmL [.ref b0, .int x, .ref o] G sa (wO G o f ++ w) (nI 2) (wO G o f ++ w) := by
  refine x_ofy (cc := cL_depth) (maxL := 4) (by decide) rfl (Nat.le_of_ble_eq_true rfl) ?_
  intro p e s m args below meth c ls A Q C hml hA hH hl hX hN hZ htab hE
  have hl : lv_has ls 4 [(0, .ref b0), (1, .int x), (2, .ref o)] := hl
  refine lv_aload_n C.1 C.2.1 dL_depth_0 rfl (lv_at hl 2 rfl) ?_
  refine lv_iconst (v := nI 0) C.1 C.2.1 dL_depth_1 (by decide) ?_
  refine lv_aload_n C.1 C.2.1 dL_depth_2 rfl (lv_at hl 0 rfl) ?_
  refine lv_iload_n C.1 C.2.1 dL_depth_3 rfl (lv_at hl 1 rfl) ?_
  refine x_crx (w1 := wO G o f) (vx_runV (As := [.int x]) (rest := [.int (nI 0), .ref o]) (x_fix C hml) (hM _) (cwV 1 C.2.2.2.1 gL_depth_X3_depth rfl hR.2.2.1 hR.2.2.2 (by decide +kernel) ⟨by show rm9.frames + 1 ≤ 40; omega, by show 8 + (2 + 11) + rm9.locals ≤ 1000; omega⟩) (x_pvx C hX hZ hA (x_rt hH) rfl he rfl rfl) rfl rfl hl.1 rfl (lv_room (Nat.le_of_ble_eq_true rfl)) dL_depth_4 ⟨Nat.le_of_ble_eq_true rfl, Nat.le_of_ble_eq_true rfl⟩) hH hA (fun ce q9 H locs hH hc hv hcl => ?_)
  refine vx_catch (own := RL) (name := "java/lang/IndexOutOfBoundsException") C.2.2.1 [(⟨0, 9, 12, 42⟩ : ExceptionTableEntry)] (⟨0, 9, 15, 44⟩ : ExceptionTableEntry) [] htab (fun z hz => by rcases List.mem_singleton.mp hz with rfl; exact Or.inr ⟨by decide, "java/lang/IllegalStateException", C.2.2.2.1 _ (List.mem_of_getElem? (i := 1) rfl), hN.2.2⟩) (by decide) (by decide) (C.2.2.2.1 _ (List.mem_of_getElem? (i := 2) rfl)) (va_Nw.use rfl (hX.1 _ (List.mem_of_getElem? (i := 7) rfl))) hc hv hcl ?_
  refine lv_astore_n (lv' := [(3, .ref q9), (0, .ref b0), (1, .int x), (2, .ref o)]) C.1 C.2.1 dL_depth_15 rfl hl (by decide) rfl (fun ls hl => ?_)
  refine lv_iconst (v := nI 2) C.1 C.2.1 dL_depth_16 (by decide) ?_
  exact W.widen (k := 1) (n := 6) (by decide) (by decide) (hE _ _ _ _ _ hH rfl dL_depth_17)
set_option maxHeartbeats 400000 in
set_option maxRecDepth 100000 in
theorem cL_set_n (l : Launch) (G : xG) (sa : Nat → Nat) {rm9 : Room} {w w' : va_W} {b0 : Nat} {fs : List Value} (he : w[0]? = some (b0, .inr (3, fs))) (x : Int32) (y : Int32) (o : Nat) (f : Nat → Int64) (r : Int32) (hR : rm9.frames ≤ 30 ∧ rm9.locals ≤ 900 ∧ rm9.cells = 0 ∧ rm9.slots = 0) (hM : xMi l yX3_set wsX3_set rm9 [.ref b0, .int x, .int y] G w r w' 0 0) : xMy l yL_set wsL_set rmL [.ref b0, .int x, .int y, .ref o] G sa (wO G o f ++ w) (nI 0) (wO G o (vp_updL f 0 (if r = 0 then 0 else 1)) ++ w') := by
  refine x_ofy (cc := cL_set) (maxL := 5) (by decide) rfl (Nat.le_of_ble_eq_true rfl) ?_
  intro p e s m args below meth c ls A Q C hml hA hH hl hX hN hZ htab hE
  have hl : lv_has ls 5 [(0, .ref b0), (1, .int x), (2, .int y), (3, .ref o)] := hl
  refine lv_aload_n C.1 C.2.1 dL_set_0 rfl (lv_at hl 3 rfl) ?_
  refine lv_iconst (v := nI 0) C.1 C.2.1 dL_set_1 (by decide) ?_
  refine lv_aload_n C.1 C.2.1 dL_set_2 rfl (lv_at hl 0 rfl) ?_
  refine lv_iload_n C.1 C.2.1 dL_set_3 rfl (lv_at hl 1 rfl) ?_
  refine lv_iload_n C.1 C.2.1 dL_set_4 rfl (lv_at hl 2 rfl) ?_
  refine x_cri (w1 := wO G o f) (wc' := w') (va_runV (As := [.int x, .int y]) (rest := [.int (nI 0), .ref o]) (x_fix C hml) (hM _) (cwV 2 C.2.2.2.1 gL_set_X3_set rfl hR.2.2.1 hR.2.2.2 (by decide +kernel) ⟨by show rm9.frames + 1 ≤ 40; omega, by show 8 + (5 + 11) + rm9.locals ≤ 1000; omega⟩) (x_pv C (x_rt hH) rfl he rfl rfl) rfl rfl hl.1 rfl (lv_room (Nat.le_of_ble_eq_true rfl)) dL_set_5 ⟨Nat.le_of_ble_eq_true rfl, Nat.le_of_ble_eq_true rfl⟩) hH hA (fun H locs hH => ?_)
  refine lv_if_eq (tgt := 15) C.1 C.2.1 dL_set_8 (by decide) (fun h0 => ?_) (fun h0 => ?_)
  · rw [if_pos h0] at hE
    refine lv_lconst (v := 0) C.1 C.2.1 dL_set_15 (by decide) ?_
    refine x_last (w' := wO G o (vp_updL f 0 0) ++ w') C hH 0 (b := o) (n := 1) (f := f) rfl (j := 0) (by decide) (by decide) rfl dL_set_16 (fun H locs hH => ?_)
    refine lv_goto (tgt := 28) C.1 C.2.1 dL_set_17 (by decide) ?_
    refine lv_iconst (v := nI 0) C.1 C.2.1 dL_set_28 (by decide) ?_
    exact W.widen (k := 1) (n := 6) (by decide) (by decide) (hE _ _ _ _ _ hH rfl dL_set_29)
  · rw [if_neg h0] at hE
    refine lv_lconst (v := 1) C.1 C.2.1 dL_set_11 (by decide) ?_
    refine lv_goto (tgt := 16) C.1 C.2.1 dL_set_12 (by decide) ?_
    refine x_last (w' := wO G o (vp_updL f 0 1) ++ w') C hH 0 (b := o) (n := 1) (f := f) rfl (j := 0) (by decide) (by decide) rfl dL_set_16 (fun H locs hH => ?_)
    refine lv_goto (tgt := 28) C.1 C.2.1 dL_set_17 (by decide) ?_
    refine lv_iconst (v := nI 0) C.1 C.2.1 dL_set_28 (by decide) ?_
    exact W.widen (k := 1) (n := 6) (by decide) (by decide) (hE _ _ _ _ _ hH rfl dL_set_29)
set_option maxHeartbeats 400000 in
set_option maxRecDepth 100000 in
theorem cL_set_x1 (l : Launch) (G : xG) (sa : Nat → Nat) {rm9 : Room} {w : va_W} {b0 : Nat} {fs : List Value} (he : w[0]? = some (b0, .inr (3, fs))) (x : Int32) (y : Int32) (o : Nat) (f : Nat → Int64) (hR : rm9.frames ≤ 30 ∧ rm9.locals ≤ 900 ∧ rm9.cells = 1 ∧ rm9.slots = 6) (hM : xMx l yX3_set wsX3_set rm9 [.ref b0, .int x, .int y] G sa w "java/lang/IllegalStateException") : xMy l yL_set wsL_set rmL [.ref b0, .int x, .int y, .ref o] G sa (wO G o f ++ w) (nI 1) (wO G o f ++ w) := by
  refine x_ofy (cc := cL_set) (maxL := 5) (by decide) rfl (Nat.le_of_ble_eq_true rfl) ?_
  intro p e s m args below meth c ls A Q C hml hA hH hl hX hN hZ htab hE
  have hl : lv_has ls 5 [(0, .ref b0), (1, .int x), (2, .int y), (3, .ref o)] := hl
  refine lv_aload_n C.1 C.2.1 dL_set_0 rfl (lv_at hl 3 rfl) ?_
  refine lv_iconst (v := nI 0) C.1 C.2.1 dL_set_1 (by decide) ?_
  refine lv_aload_n C.1 C.2.1 dL_set_2 rfl (lv_at hl 0 rfl) ?_
  refine lv_iload_n C.1 C.2.1 dL_set_3 rfl (lv_at hl 1 rfl) ?_
  refine lv_iload_n C.1 C.2.1 dL_set_4 rfl (lv_at hl 2 rfl) ?_
  refine x_crx (w1 := wO G o f) (vx_runV (As := [.int x, .int y]) (rest := [.int (nI 0), .ref o]) (x_fix C hml) (hM _) (cwV 2 C.2.2.2.1 gL_set_X3_set rfl hR.2.2.1 hR.2.2.2 (by decide +kernel) ⟨by show rm9.frames + 1 ≤ 40; omega, by show 8 + (5 + 11) + rm9.locals ≤ 1000; omega⟩) (x_pvx C hX hZ hA (x_rt hH) rfl he rfl rfl) rfl rfl hl.1 rfl (lv_room (Nat.le_of_ble_eq_true rfl)) dL_set_5 ⟨Nat.le_of_ble_eq_true rfl, Nat.le_of_ble_eq_true rfl⟩) hH hA (fun ce q9 H locs hH hc hv hcl => ?_)
  refine vx_catch (own := RL) (name := "java/lang/IllegalStateException") C.2.2.1 [] (⟨0, 17, 20, 42⟩ : ExceptionTableEntry) [(⟨0, 17, 24, 44⟩ : ExceptionTableEntry)] htab (fun z hz => absurd hz List.not_mem_nil) (by decide) (by decide) (C.2.2.2.1 _ (List.mem_of_getElem? (i := 1) rfl)) (va_Nw.use rfl (hX.1 _ (List.mem_of_getElem? (i := 6) rfl))) hc hv hcl ?_
  refine lv_astore (lv' := [(4, .ref q9), (0, .ref b0), (1, .int x), (2, .int y), (3, .ref o)]) C.1 C.2.1 dL_set_20 hl (by decide) rfl (fun ls hl => ?_)
  refine lv_iconst (v := nI 1) C.1 C.2.1 dL_set_22 (by decide) ?_
  exact W.widen (k := 1) (n := 6) (by decide) (by decide) (hE _ _ _ _ _ hH rfl dL_set_23)
set_option maxHeartbeats 400000 in
set_option maxRecDepth 100000 in
theorem cL_set_x2 (l : Launch) (G : xG) (sa : Nat → Nat) {rm9 : Room} {w : va_W} {b0 : Nat} {fs : List Value} (he : w[0]? = some (b0, .inr (3, fs))) (x : Int32) (y : Int32) (o : Nat) (f : Nat → Int64) (hR : rm9.frames ≤ 30 ∧ rm9.locals ≤ 900 ∧ rm9.cells = 1 ∧ rm9.slots = 6) (hM : xMx l yX3_set wsX3_set rm9 [.ref b0, .int x, .int y] G sa w "java/lang/IndexOutOfBoundsException") : xMy l yL_set wsL_set rmL [.ref b0, .int x, .int y, .ref o] G sa (wO G o f ++ w) (nI 2) (wO G o f ++ w) := by
  refine x_ofy (cc := cL_set) (maxL := 5) (by decide) rfl (Nat.le_of_ble_eq_true rfl) ?_
  intro p e s m args below meth c ls A Q C hml hA hH hl hX hN hZ htab hE
  have hl : lv_has ls 5 [(0, .ref b0), (1, .int x), (2, .int y), (3, .ref o)] := hl
  refine lv_aload_n C.1 C.2.1 dL_set_0 rfl (lv_at hl 3 rfl) ?_
  refine lv_iconst (v := nI 0) C.1 C.2.1 dL_set_1 (by decide) ?_
  refine lv_aload_n C.1 C.2.1 dL_set_2 rfl (lv_at hl 0 rfl) ?_
  refine lv_iload_n C.1 C.2.1 dL_set_3 rfl (lv_at hl 1 rfl) ?_
  refine lv_iload_n C.1 C.2.1 dL_set_4 rfl (lv_at hl 2 rfl) ?_
  refine x_crx (w1 := wO G o f) (vx_runV (As := [.int x, .int y]) (rest := [.int (nI 0), .ref o]) (x_fix C hml) (hM _) (cwV 2 C.2.2.2.1 gL_set_X3_set rfl hR.2.2.1 hR.2.2.2 (by decide +kernel) ⟨by show rm9.frames + 1 ≤ 40; omega, by show 8 + (5 + 11) + rm9.locals ≤ 1000; omega⟩) (x_pvx C hX hZ hA (x_rt hH) rfl he rfl rfl) rfl rfl hl.1 rfl (lv_room (Nat.le_of_ble_eq_true rfl)) dL_set_5 ⟨Nat.le_of_ble_eq_true rfl, Nat.le_of_ble_eq_true rfl⟩) hH hA (fun ce q9 H locs hH hc hv hcl => ?_)
  refine vx_catch (own := RL) (name := "java/lang/IndexOutOfBoundsException") C.2.2.1 [(⟨0, 17, 20, 42⟩ : ExceptionTableEntry)] (⟨0, 17, 24, 44⟩ : ExceptionTableEntry) [] htab (fun z hz => by rcases List.mem_singleton.mp hz with rfl; exact Or.inr ⟨by decide, "java/lang/IllegalStateException", C.2.2.2.1 _ (List.mem_of_getElem? (i := 1) rfl), hN.2.2⟩) (by decide) (by decide) (C.2.2.2.1 _ (List.mem_of_getElem? (i := 2) rfl)) (va_Nw.use rfl (hX.1 _ (List.mem_of_getElem? (i := 7) rfl))) hc hv hcl ?_
  refine lv_astore (lv' := [(4, .ref q9), (0, .ref b0), (1, .int x), (2, .int y), (3, .ref o)]) C.1 C.2.1 dL_set_24 hl (by decide) rfl (fun ls hl => ?_)
  refine lv_iconst (v := nI 2) C.1 C.2.1 dL_set_26 (by decide) ?_
  exact W.widen (k := 1) (n := 6) (by decide) (by decide) (hE _ _ _ _ _ hH rfl dL_set_27)
set_option maxHeartbeats 400000 in
set_option maxRecDepth 100000 in
theorem cL_setting_n (l : Launch) (G : xG) (sa : Nat → Nat) {rm9 : Room} {w w' : va_W} {b0 : Nat} {fs : List Value} (he : w[0]? = some (b0, .inr (3, fs))) (o : Nat) (f : Nat → Int64) (r : Int32) (hR : rm9.frames ≤ 30 ∧ rm9.locals ≤ 900 ∧ rm9.cells = 0 ∧ rm9.slots = 0) (hM : xMi l yX3_setting wsX3_setting rm9 [.ref b0] G w r w' 0 0) : xMy l yL_setting wsL_setting rmL [.ref b0, .ref o] G sa (wO G o f ++ w) (nI 0) (wO G o (vp_updL f 0 r.toInt64) ++ w') := by
  refine x_ofy (cc := cL_setting) (maxL := 3) (by decide) rfl (Nat.le_of_ble_eq_true rfl) ?_
  intro p e s m args below meth c ls A Q C hml hA hH hl hX hN hZ htab hE
  have hl : lv_has ls 3 [(0, .ref b0), (1, .ref o)] := hl
  refine lv_aload_n C.1 C.2.1 dL_setting_0 rfl (lv_at hl 1 rfl) ?_
  refine lv_iconst (v := nI 0) C.1 C.2.1 dL_setting_1 (by decide) ?_
  refine lv_aload_n C.1 C.2.1 dL_setting_2 rfl (lv_at hl 0 rfl) ?_
  refine x_cri (w1 := wO G o f) (wc' := w') (va_runV (As := []) (rest := [.int (nI 0), .ref o]) (x_fix C hml) (hM _) (cwV 0 C.2.2.2.1 gL_setting_X3_setting rfl hR.2.2.1 hR.2.2.2 (by decide +kernel) ⟨by show rm9.frames + 1 ≤ 40; omega, by show 8 + (1 + 11) + rm9.locals ≤ 1000; omega⟩) (x_pv C (x_rt hH) rfl he rfl rfl) rfl rfl hl.1 rfl (lv_room (Nat.le_of_ble_eq_true rfl)) dL_setting_3 ⟨Nat.le_of_ble_eq_true rfl, Nat.le_of_ble_eq_true rfl⟩) hH hA (fun H locs hH => ?_)
  refine lv_i2l (v := r.toInt64) C.1 C.2.1 dL_setting_6 rfl ?_
  refine x_last (w' := wO G o (vp_updL f 0 r.toInt64) ++ w') C hH 0 (b := o) (n := 1) (f := f) rfl (j := 0) (by decide) (by decide) rfl dL_setting_7 (fun H locs hH => ?_)
  refine lv_goto (tgt := 14) C.1 C.2.1 dL_setting_8 (by decide) ?_
  refine lv_iconst (v := nI 0) C.1 C.2.1 dL_setting_14 (by decide) ?_
  exact W.widen (k := 1) (n := 6) (by decide) (by decide) (hE _ _ _ _ _ hH rfl dL_setting_15)
set_option maxHeartbeats 400000 in
set_option maxRecDepth 100000 in
theorem cL_setting_x1 (l : Launch) (G : xG) (sa : Nat → Nat) {rm9 : Room} {w : va_W} {b0 : Nat} {fs : List Value} (he : w[0]? = some (b0, .inr (3, fs))) (o : Nat) (f : Nat → Int64) (hR : rm9.frames ≤ 30 ∧ rm9.locals ≤ 900 ∧ rm9.cells = 1 ∧ rm9.slots = 6) (hM : xMx l yX3_setting wsX3_setting rm9 [.ref b0] G sa w "java/lang/IllegalStateException") : xMy l yL_setting wsL_setting rmL [.ref b0, .ref o] G sa (wO G o f ++ w) (nI 1) (wO G o f ++ w) := by
  refine x_ofy (cc := cL_setting) (maxL := 3) (by decide) rfl (Nat.le_of_ble_eq_true rfl) ?_
  intro p e s m args below meth c ls A Q C hml hA hH hl hX hN hZ htab hE
  have hl : lv_has ls 3 [(0, .ref b0), (1, .ref o)] := hl
  refine lv_aload_n C.1 C.2.1 dL_setting_0 rfl (lv_at hl 1 rfl) ?_
  refine lv_iconst (v := nI 0) C.1 C.2.1 dL_setting_1 (by decide) ?_
  refine lv_aload_n C.1 C.2.1 dL_setting_2 rfl (lv_at hl 0 rfl) ?_
  refine x_crx (w1 := wO G o f) (vx_runV (As := []) (rest := [.int (nI 0), .ref o]) (x_fix C hml) (hM _) (cwV 0 C.2.2.2.1 gL_setting_X3_setting rfl hR.2.2.1 hR.2.2.2 (by decide +kernel) ⟨by show rm9.frames + 1 ≤ 40; omega, by show 8 + (1 + 11) + rm9.locals ≤ 1000; omega⟩) (x_pvx C hX hZ hA (x_rt hH) rfl he rfl rfl) rfl rfl hl.1 rfl (lv_room (Nat.le_of_ble_eq_true rfl)) dL_setting_3 ⟨Nat.le_of_ble_eq_true rfl, Nat.le_of_ble_eq_true rfl⟩) hH hA (fun ce q9 H locs hH hc hv hcl => ?_)
  refine vx_catch (own := RL) (name := "java/lang/IllegalStateException") C.2.2.1 [] (⟨0, 8, 11, 42⟩ : ExceptionTableEntry) [] htab (fun z hz => absurd hz List.not_mem_nil) (by decide) (by decide) (C.2.2.2.1 _ (List.mem_of_getElem? (i := 1) rfl)) (va_Nw.use rfl (hX.1 _ (List.mem_of_getElem? (i := 6) rfl))) hc hv hcl ?_
  refine lv_astore_n (lv' := [(2, .ref q9), (0, .ref b0), (1, .ref o)]) C.1 C.2.1 dL_setting_11 rfl hl (by decide) rfl (fun ls hl => ?_)
  refine lv_iconst (v := nI 1) C.1 C.2.1 dL_setting_12 (by decide) ?_
  exact W.widen (k := 1) (n := 6) (by decide) (by decide) (hE _ _ _ _ _ hH rfl dL_setting_13)
set_option maxHeartbeats 400000 in
set_option maxRecDepth 100000 in
theorem cL_load_n (l : Launch) (G : xG) (sa : Nat → Nat) {rm9 : Room} {w w' : va_W} {b0 : Nat} {fs : List Value} (he : w[0]? = some (b0, .inr (3, fs))) (x : Int32) (y : Int32) (o : Nat) (f : Nat → Int64) (r : Int64) (hR : rm9.frames ≤ 30 ∧ rm9.locals ≤ 900 ∧ rm9.cells = 0 ∧ rm9.slots = 0) (hM : xMl l yX3_load wsX3_load rm9 [.ref b0, .int x, .int y] G w r w' 0 0) : xMy l yL_load wsL_load rmL [.ref b0, .int x, .int y, .ref o] G sa (wO G o f ++ w) (nI 0) (wO G o (vp_updL f 0 r) ++ w') := by
  refine x_ofy (cc := cL_load) (maxL := 5) (by decide) rfl (Nat.le_of_ble_eq_true rfl) ?_
  intro p e s m args below meth c ls A Q C hml hA hH hl hX hN hZ htab hE
  have hl : lv_has ls 5 [(0, .ref b0), (1, .int x), (2, .int y), (3, .ref o)] := hl
  refine lv_aload_n C.1 C.2.1 dL_load_0 rfl (lv_at hl 3 rfl) ?_
  refine lv_iconst (v := nI 0) C.1 C.2.1 dL_load_1 (by decide) ?_
  refine lv_aload_n C.1 C.2.1 dL_load_2 rfl (lv_at hl 0 rfl) ?_
  refine lv_iload_n C.1 C.2.1 dL_load_3 rfl (lv_at hl 1 rfl) ?_
  refine lv_iload_n C.1 C.2.1 dL_load_4 rfl (lv_at hl 2 rfl) ?_
  refine x_crl (w1 := wO G o f) (wc' := w') (va_runV (As := [.int x, .int y]) (rest := [.int (nI 0), .ref o]) (x_fix C hml) (hM _) (cwV 2 C.2.2.2.1 gL_load_X3_load rfl hR.2.2.1 hR.2.2.2 (by decide +kernel) ⟨by show rm9.frames + 1 ≤ 40; omega, by show 8 + (3 + 11) + rm9.locals ≤ 1000; omega⟩) (x_pv C (x_rt hH) rfl he rfl rfl) rfl rfl hl.1 rfl (lv_room (Nat.le_of_ble_eq_true rfl)) dL_load_5 ⟨Nat.le_of_ble_eq_true rfl, Nat.le_of_ble_eq_true rfl⟩) hH hA (fun H locs hH => ?_)
  refine x_last (w' := wO G o (vp_updL f 0 r) ++ w') C hH 0 (b := o) (n := 1) (f := f) rfl (j := 0) (by decide) (by decide) rfl dL_load_8 (fun H locs hH => ?_)
  refine lv_goto (tgt := 20) C.1 C.2.1 dL_load_9 (by decide) ?_
  refine lv_iconst (v := nI 0) C.1 C.2.1 dL_load_20 (by decide) ?_
  exact W.widen (k := 1) (n := 6) (by decide) (by decide) (hE _ _ _ _ _ hH rfl dL_load_21)
set_option maxHeartbeats 400000 in
set_option maxRecDepth 100000 in
theorem cL_load_x1 (l : Launch) (G : xG) (sa : Nat → Nat) {rm9 : Room} {w : va_W} {b0 : Nat} {fs : List Value} (he : w[0]? = some (b0, .inr (3, fs))) (x : Int32) (y : Int32) (o : Nat) (f : Nat → Int64) (hR : rm9.frames ≤ 30 ∧ rm9.locals ≤ 900 ∧ rm9.cells = 1 ∧ rm9.slots = 6) (hM : xMx l yX3_load wsX3_load rm9 [.ref b0, .int x, .int y] G sa w "java/lang/IllegalStateException") : xMy l yL_load wsL_load rmL [.ref b0, .int x, .int y, .ref o] G sa (wO G o f ++ w) (nI 1) (wO G o f ++ w) := by
  refine x_ofy (cc := cL_load) (maxL := 5) (by decide) rfl (Nat.le_of_ble_eq_true rfl) ?_
  intro p e s m args below meth c ls A Q C hml hA hH hl hX hN hZ htab hE
  have hl : lv_has ls 5 [(0, .ref b0), (1, .int x), (2, .int y), (3, .ref o)] := hl
  refine lv_aload_n C.1 C.2.1 dL_load_0 rfl (lv_at hl 3 rfl) ?_
  refine lv_iconst (v := nI 0) C.1 C.2.1 dL_load_1 (by decide) ?_
  refine lv_aload_n C.1 C.2.1 dL_load_2 rfl (lv_at hl 0 rfl) ?_
  refine lv_iload_n C.1 C.2.1 dL_load_3 rfl (lv_at hl 1 rfl) ?_
  refine lv_iload_n C.1 C.2.1 dL_load_4 rfl (lv_at hl 2 rfl) ?_
  refine x_crx (w1 := wO G o f) (vx_runV (As := [.int x, .int y]) (rest := [.int (nI 0), .ref o]) (x_fix C hml) (hM _) (cwV 2 C.2.2.2.1 gL_load_X3_load rfl hR.2.2.1 hR.2.2.2 (by decide +kernel) ⟨by show rm9.frames + 1 ≤ 40; omega, by show 8 + (3 + 11) + rm9.locals ≤ 1000; omega⟩) (x_pvx C hX hZ hA (x_rt hH) rfl he rfl rfl) rfl rfl hl.1 rfl (lv_room (Nat.le_of_ble_eq_true rfl)) dL_load_5 ⟨Nat.le_of_ble_eq_true rfl, Nat.le_of_ble_eq_true rfl⟩) hH hA (fun ce q9 H locs hH hc hv hcl => ?_)
  refine vx_catch (own := RL) (name := "java/lang/IllegalStateException") C.2.2.1 [] (⟨0, 9, 12, 42⟩ : ExceptionTableEntry) [(⟨0, 9, 16, 44⟩ : ExceptionTableEntry)] htab (fun z hz => absurd hz List.not_mem_nil) (by decide) (by decide) (C.2.2.2.1 _ (List.mem_of_getElem? (i := 1) rfl)) (va_Nw.use rfl (hX.1 _ (List.mem_of_getElem? (i := 6) rfl))) hc hv hcl ?_
  refine lv_astore (lv' := [(4, .ref q9), (0, .ref b0), (1, .int x), (2, .int y), (3, .ref o)]) C.1 C.2.1 dL_load_12 hl (by decide) rfl (fun ls hl => ?_)
  refine lv_iconst (v := nI 1) C.1 C.2.1 dL_load_14 (by decide) ?_
  exact W.widen (k := 1) (n := 6) (by decide) (by decide) (hE _ _ _ _ _ hH rfl dL_load_15)
set_option maxHeartbeats 400000 in
set_option maxRecDepth 100000 in
theorem cL_load_x2 (l : Launch) (G : xG) (sa : Nat → Nat) {rm9 : Room} {w : va_W} {b0 : Nat} {fs : List Value} (he : w[0]? = some (b0, .inr (3, fs))) (x : Int32) (y : Int32) (o : Nat) (f : Nat → Int64) (hR : rm9.frames ≤ 30 ∧ rm9.locals ≤ 900 ∧ rm9.cells = 1 ∧ rm9.slots = 6) (hM : xMx l yX3_load wsX3_load rm9 [.ref b0, .int x, .int y] G sa w "java/lang/IndexOutOfBoundsException") : xMy l yL_load wsL_load rmL [.ref b0, .int x, .int y, .ref o] G sa (wO G o f ++ w) (nI 2) (wO G o f ++ w) := by
  refine x_ofy (cc := cL_load) (maxL := 5) (by decide) rfl (Nat.le_of_ble_eq_true rfl) ?_
  intro p e s m args below meth c ls A Q C hml hA hH hl hX hN hZ htab hE
  have hl : lv_has ls 5 [(0, .ref b0), (1, .int x), (2, .int y), (3, .ref o)] := hl
  refine lv_aload_n C.1 C.2.1 dL_load_0 rfl (lv_at hl 3 rfl) ?_
  refine lv_iconst (v := nI 0) C.1 C.2.1 dL_load_1 (by decide) ?_
  refine lv_aload_n C.1 C.2.1 dL_load_2 rfl (lv_at hl 0 rfl) ?_
  refine lv_iload_n C.1 C.2.1 dL_load_3 rfl (lv_at hl 1 rfl) ?_
  refine lv_iload_n C.1 C.2.1 dL_load_4 rfl (lv_at hl 2 rfl) ?_
  refine x_crx (w1 := wO G o f) (vx_runV (As := [.int x, .int y]) (rest := [.int (nI 0), .ref o]) (x_fix C hml) (hM _) (cwV 2 C.2.2.2.1 gL_load_X3_load rfl hR.2.2.1 hR.2.2.2 (by decide +kernel) ⟨by show rm9.frames + 1 ≤ 40; omega, by show 8 + (3 + 11) + rm9.locals ≤ 1000; omega⟩) (x_pvx C hX hZ hA (x_rt hH) rfl he rfl rfl) rfl rfl hl.1 rfl (lv_room (Nat.le_of_ble_eq_true rfl)) dL_load_5 ⟨Nat.le_of_ble_eq_true rfl, Nat.le_of_ble_eq_true rfl⟩) hH hA (fun ce q9 H locs hH hc hv hcl => ?_)
  refine vx_catch (own := RL) (name := "java/lang/IndexOutOfBoundsException") C.2.2.1 [(⟨0, 9, 12, 42⟩ : ExceptionTableEntry)] (⟨0, 9, 16, 44⟩ : ExceptionTableEntry) [] htab (fun z hz => by rcases List.mem_singleton.mp hz with rfl; exact Or.inr ⟨by decide, "java/lang/IllegalStateException", C.2.2.2.1 _ (List.mem_of_getElem? (i := 1) rfl), hN.2.2⟩) (by decide) (by decide) (C.2.2.2.1 _ (List.mem_of_getElem? (i := 2) rfl)) (va_Nw.use rfl (hX.1 _ (List.mem_of_getElem? (i := 7) rfl))) hc hv hcl ?_
  refine lv_astore (lv' := [(4, .ref q9), (0, .ref b0), (1, .int x), (2, .int y), (3, .ref o)]) C.1 C.2.1 dL_load_16 hl (by decide) rfl (fun ls hl => ?_)
  refine lv_iconst (v := nI 2) C.1 C.2.1 dL_load_18 (by decide) ?_
  exact W.widen (k := 1) (n := 6) (by decide) (by decide) (hE _ _ _ _ _ hH rfl dL_load_19)
set_option maxHeartbeats 400000 in
set_option maxRecDepth 100000 in
theorem cL_delay_n (l : Launch) (G : xG) (sa : Nat → Nat) {rm9 : Room} {w w' : va_W} {b0 : Nat} {fs : List Value} (he : w[0]? = some (b0, .inr (3, fs))) (x : Int32) (o : Nat) (f : Nat → Int64) (r : Int64) (hR : rm9.frames ≤ 30 ∧ rm9.locals ≤ 900 ∧ rm9.cells = 0 ∧ rm9.slots = 0) (hM : xMl l yX3_delay wsX3_delay rm9 [.ref b0, .int x] G w r w' 0 0) : xMy l yL_delay wsL_delay rmL [.ref b0, .int x, .ref o] G sa (wO G o f ++ w) (nI 0) (wO G o (vp_updL f 0 r) ++ w') := by
  refine x_ofy (cc := cL_delay) (maxL := 4) (by decide) rfl (Nat.le_of_ble_eq_true rfl) ?_
  intro p e s m args below meth c ls A Q C hml hA hH hl hX hN hZ htab hE
  have hl : lv_has ls 4 [(0, .ref b0), (1, .int x), (2, .ref o)] := hl
  refine lv_aload_n C.1 C.2.1 dL_delay_0 rfl (lv_at hl 2 rfl) ?_
  refine lv_iconst (v := nI 0) C.1 C.2.1 dL_delay_1 (by decide) ?_
  refine lv_aload_n C.1 C.2.1 dL_delay_2 rfl (lv_at hl 0 rfl) ?_
  refine lv_iload_n C.1 C.2.1 dL_delay_3 rfl (lv_at hl 1 rfl) ?_
  refine x_crl (w1 := wO G o f) (wc' := w') (va_runV (As := [.int x]) (rest := [.int (nI 0), .ref o]) (x_fix C hml) (hM _) (cwV 1 C.2.2.2.1 gL_delay_X3_delay rfl hR.2.2.1 hR.2.2.2 (by decide +kernel) ⟨by show rm9.frames + 1 ≤ 40; omega, by show 8 + (2 + 11) + rm9.locals ≤ 1000; omega⟩) (x_pv C (x_rt hH) rfl he rfl rfl) rfl rfl hl.1 rfl (lv_room (Nat.le_of_ble_eq_true rfl)) dL_delay_4 ⟨Nat.le_of_ble_eq_true rfl, Nat.le_of_ble_eq_true rfl⟩) hH hA (fun H locs hH => ?_)
  refine x_last (w' := wO G o (vp_updL f 0 r) ++ w') C hH 0 (b := o) (n := 1) (f := f) rfl (j := 0) (by decide) (by decide) rfl dL_delay_7 (fun H locs hH => ?_)
  refine lv_goto (tgt := 17) C.1 C.2.1 dL_delay_8 (by decide) ?_
  refine lv_iconst (v := nI 0) C.1 C.2.1 dL_delay_17 (by decide) ?_
  exact W.widen (k := 1) (n := 6) (by decide) (by decide) (hE _ _ _ _ _ hH rfl dL_delay_18)
set_option maxHeartbeats 400000 in
set_option maxRecDepth 100000 in
theorem cL_delay_x1 (l : Launch) (G : xG) (sa : Nat → Nat) {rm9 : Room} {w : va_W} {b0 : Nat} {fs : List Value} (he : w[0]? = some (b0, .inr (3, fs))) (x : Int32) (o : Nat) (f : Nat → Int64) (hR : rm9.frames ≤ 30 ∧ rm9.locals ≤ 900 ∧ rm9.cells = 1 ∧ rm9.slots = 6) (hM : xMx l yX3_delay wsX3_delay rm9 [.ref b0, .int x] G sa w "java/lang/IllegalStateException") : xMy l yL_delay wsL_delay rmL [.ref b0, .int x, .ref o] G sa (wO G o f ++ w) (nI 1) (wO G o f ++ w) := by
  refine x_ofy (cc := cL_delay) (maxL := 4) (by decide) rfl (Nat.le_of_ble_eq_true rfl) ?_
  intro p e s m args below meth c ls A Q C hml hA hH hl hX hN hZ htab hE
  have hl : lv_has ls 4 [(0, .ref b0), (1, .int x), (2, .ref o)] := hl
  refine lv_aload_n C.1 C.2.1 dL_delay_0 rfl (lv_at hl 2 rfl) ?_
  refine lv_iconst (v := nI 0) C.1 C.2.1 dL_delay_1 (by decide) ?_
  refine lv_aload_n C.1 C.2.1 dL_delay_2 rfl (lv_at hl 0 rfl) ?_
  refine lv_iload_n C.1 C.2.1 dL_delay_3 rfl (lv_at hl 1 rfl) ?_
  refine x_crx (w1 := wO G o f) (vx_runV (As := [.int x]) (rest := [.int (nI 0), .ref o]) (x_fix C hml) (hM _) (cwV 1 C.2.2.2.1 gL_delay_X3_delay rfl hR.2.2.1 hR.2.2.2 (by decide +kernel) ⟨by show rm9.frames + 1 ≤ 40; omega, by show 8 + (2 + 11) + rm9.locals ≤ 1000; omega⟩) (x_pvx C hX hZ hA (x_rt hH) rfl he rfl rfl) rfl rfl hl.1 rfl (lv_room (Nat.le_of_ble_eq_true rfl)) dL_delay_4 ⟨Nat.le_of_ble_eq_true rfl, Nat.le_of_ble_eq_true rfl⟩) hH hA (fun ce q9 H locs hH hc hv hcl => ?_)
  refine vx_catch (own := RL) (name := "java/lang/IllegalStateException") C.2.2.1 [] (⟨0, 8, 11, 42⟩ : ExceptionTableEntry) [(⟨0, 8, 14, 44⟩ : ExceptionTableEntry)] htab (fun z hz => absurd hz List.not_mem_nil) (by decide) (by decide) (C.2.2.2.1 _ (List.mem_of_getElem? (i := 1) rfl)) (va_Nw.use rfl (hX.1 _ (List.mem_of_getElem? (i := 6) rfl))) hc hv hcl ?_
  refine lv_astore_n (lv' := [(3, .ref q9), (0, .ref b0), (1, .int x), (2, .ref o)]) C.1 C.2.1 dL_delay_11 rfl hl (by decide) rfl (fun ls hl => ?_)
  refine lv_iconst (v := nI 1) C.1 C.2.1 dL_delay_12 (by decide) ?_
  exact W.widen (k := 1) (n := 6) (by decide) (by decide) (hE _ _ _ _ _ hH rfl dL_delay_13)
set_option maxHeartbeats 400000 in
set_option maxRecDepth 100000 in
theorem cL_delay_x2 (l : Launch) (G : xG) (sa : Nat → Nat) {rm9 : Room} {w : va_W} {b0 : Nat} {fs : List Value} (he : w[0]? = some (b0, .inr (3, fs))) (x : Int32) (o : Nat) (f : Nat → Int64) (hR : rm9.frames ≤ 30 ∧ rm9.locals ≤ 900 ∧ rm9.cells = 1 ∧ rm9.slots = 6) (hM : xMx l yX3_delay wsX3_delay rm9 [.ref b0, .int x] G sa w "java/lang/IndexOutOfBoundsException") : xMy l yL_delay wsL_delay rmL [.ref b0, .int x, .ref o] G sa (wO G o f ++ w) (nI 2) (wO G o f ++ w) := by
  refine x_ofy (cc := cL_delay) (maxL := 4) (by decide) rfl (Nat.le_of_ble_eq_true rfl) ?_
  intro p e s m args below meth c ls A Q C hml hA hH hl hX hN hZ htab hE
  have hl : lv_has ls 4 [(0, .ref b0), (1, .int x), (2, .ref o)] := hl
  refine lv_aload_n C.1 C.2.1 dL_delay_0 rfl (lv_at hl 2 rfl) ?_
  refine lv_iconst (v := nI 0) C.1 C.2.1 dL_delay_1 (by decide) ?_
  refine lv_aload_n C.1 C.2.1 dL_delay_2 rfl (lv_at hl 0 rfl) ?_
  refine lv_iload_n C.1 C.2.1 dL_delay_3 rfl (lv_at hl 1 rfl) ?_
  refine x_crx (w1 := wO G o f) (vx_runV (As := [.int x]) (rest := [.int (nI 0), .ref o]) (x_fix C hml) (hM _) (cwV 1 C.2.2.2.1 gL_delay_X3_delay rfl hR.2.2.1 hR.2.2.2 (by decide +kernel) ⟨by show rm9.frames + 1 ≤ 40; omega, by show 8 + (2 + 11) + rm9.locals ≤ 1000; omega⟩) (x_pvx C hX hZ hA (x_rt hH) rfl he rfl rfl) rfl rfl hl.1 rfl (lv_room (Nat.le_of_ble_eq_true rfl)) dL_delay_4 ⟨Nat.le_of_ble_eq_true rfl, Nat.le_of_ble_eq_true rfl⟩) hH hA (fun ce q9 H locs hH hc hv hcl => ?_)
  refine vx_catch (own := RL) (name := "java/lang/IndexOutOfBoundsException") C.2.2.1 [(⟨0, 8, 11, 42⟩ : ExceptionTableEntry)] (⟨0, 8, 14, 44⟩ : ExceptionTableEntry) [] htab (fun z hz => by rcases List.mem_singleton.mp hz with rfl; exact Or.inr ⟨by decide, "java/lang/IllegalStateException", C.2.2.2.1 _ (List.mem_of_getElem? (i := 1) rfl), hN.2.2⟩) (by decide) (by decide) (C.2.2.2.1 _ (List.mem_of_getElem? (i := 2) rfl)) (va_Nw.use rfl (hX.1 _ (List.mem_of_getElem? (i := 7) rfl))) hc hv hcl ?_
  refine lv_astore_n (lv' := [(3, .ref q9), (0, .ref b0), (1, .int x), (2, .ref o)]) C.1 C.2.1 dL_delay_14 rfl hl (by decide) rfl (fun ls hl => ?_)
  refine lv_iconst (v := nI 2) C.1 C.2.1 dL_delay_15 (by decide) ?_
  exact W.widen (k := 1) (n := 6) (by decide) (by decide) (hE _ _ _ _ _ hH rfl dL_delay_16)
set_option maxHeartbeats 400000 in
set_option maxRecDepth 100000 in
theorem cL_slack_n (l : Launch) (G : xG) (sa : Nat → Nat) {rm9 : Room} {w w' : va_W} {b0 : Nat} {fs : List Value} (he : w[0]? = some (b0, .inr (3, fs))) (o : Nat) (f : Nat → Int64) (r : Int64) (hR : rm9.frames ≤ 30 ∧ rm9.locals ≤ 900 ∧ rm9.cells = 0 ∧ rm9.slots = 0) (hM : xMl l yX3_slack wsX3_slack rm9 [.ref b0] G w r w' 0 0) : xMy l yL_slack wsL_slack rmL [.ref b0, .ref o] G sa (wO G o f ++ w) (nI 0) (wO G o (vp_updL f 0 r) ++ w') := by
  refine x_ofy (cc := cL_slack) (maxL := 3) (by decide) rfl (Nat.le_of_ble_eq_true rfl) ?_
  intro p e s m args below meth c ls A Q C hml hA hH hl hX hN hZ htab hE
  have hl : lv_has ls 3 [(0, .ref b0), (1, .ref o)] := hl
  refine lv_aload_n C.1 C.2.1 dL_slack_0 rfl (lv_at hl 1 rfl) ?_
  refine lv_iconst (v := nI 0) C.1 C.2.1 dL_slack_1 (by decide) ?_
  refine lv_aload_n C.1 C.2.1 dL_slack_2 rfl (lv_at hl 0 rfl) ?_
  refine x_crl (w1 := wO G o f) (wc' := w') (va_runV (As := []) (rest := [.int (nI 0), .ref o]) (x_fix C hml) (hM _) (cwV 0 C.2.2.2.1 gL_slack_X3_slack rfl hR.2.2.1 hR.2.2.2 (by decide +kernel) ⟨by show rm9.frames + 1 ≤ 40; omega, by show 8 + (1 + 11) + rm9.locals ≤ 1000; omega⟩) (x_pv C (x_rt hH) rfl he rfl rfl) rfl rfl hl.1 rfl (lv_room (Nat.le_of_ble_eq_true rfl)) dL_slack_3 ⟨Nat.le_of_ble_eq_true rfl, Nat.le_of_ble_eq_true rfl⟩) hH hA (fun H locs hH => ?_)
  refine x_last (w' := wO G o (vp_updL f 0 r) ++ w') C hH 0 (b := o) (n := 1) (f := f) rfl (j := 0) (by decide) (by decide) rfl dL_slack_6 (fun H locs hH => ?_)
  refine lv_goto (tgt := 13) C.1 C.2.1 dL_slack_7 (by decide) ?_
  refine lv_iconst (v := nI 0) C.1 C.2.1 dL_slack_13 (by decide) ?_
  exact W.widen (k := 1) (n := 6) (by decide) (by decide) (hE _ _ _ _ _ hH rfl dL_slack_14)
set_option maxHeartbeats 400000 in
set_option maxRecDepth 100000 in
theorem cL_slack_x1 (l : Launch) (G : xG) (sa : Nat → Nat) {rm9 : Room} {w : va_W} {b0 : Nat} {fs : List Value} (he : w[0]? = some (b0, .inr (3, fs))) (o : Nat) (f : Nat → Int64) (hR : rm9.frames ≤ 30 ∧ rm9.locals ≤ 900 ∧ rm9.cells = 1 ∧ rm9.slots = 6) (hM : xMx l yX3_slack wsX3_slack rm9 [.ref b0] G sa w "java/lang/IllegalStateException") : xMy l yL_slack wsL_slack rmL [.ref b0, .ref o] G sa (wO G o f ++ w) (nI 1) (wO G o f ++ w) := by
  refine x_ofy (cc := cL_slack) (maxL := 3) (by decide) rfl (Nat.le_of_ble_eq_true rfl) ?_
  intro p e s m args below meth c ls A Q C hml hA hH hl hX hN hZ htab hE
  have hl : lv_has ls 3 [(0, .ref b0), (1, .ref o)] := hl
  refine lv_aload_n C.1 C.2.1 dL_slack_0 rfl (lv_at hl 1 rfl) ?_
  refine lv_iconst (v := nI 0) C.1 C.2.1 dL_slack_1 (by decide) ?_
  refine lv_aload_n C.1 C.2.1 dL_slack_2 rfl (lv_at hl 0 rfl) ?_
  refine x_crx (w1 := wO G o f) (vx_runV (As := []) (rest := [.int (nI 0), .ref o]) (x_fix C hml) (hM _) (cwV 0 C.2.2.2.1 gL_slack_X3_slack rfl hR.2.2.1 hR.2.2.2 (by decide +kernel) ⟨by show rm9.frames + 1 ≤ 40; omega, by show 8 + (1 + 11) + rm9.locals ≤ 1000; omega⟩) (x_pvx C hX hZ hA (x_rt hH) rfl he rfl rfl) rfl rfl hl.1 rfl (lv_room (Nat.le_of_ble_eq_true rfl)) dL_slack_3 ⟨Nat.le_of_ble_eq_true rfl, Nat.le_of_ble_eq_true rfl⟩) hH hA (fun ce q9 H locs hH hc hv hcl => ?_)
  refine vx_catch (own := RL) (name := "java/lang/IllegalStateException") C.2.2.1 [] (⟨0, 7, 10, 42⟩ : ExceptionTableEntry) [] htab (fun z hz => absurd hz List.not_mem_nil) (by decide) (by decide) (C.2.2.2.1 _ (List.mem_of_getElem? (i := 1) rfl)) (va_Nw.use rfl (hX.1 _ (List.mem_of_getElem? (i := 6) rfl))) hc hv hcl ?_
  refine lv_astore_n (lv' := [(2, .ref q9), (0, .ref b0), (1, .ref o)]) C.1 C.2.1 dL_slack_10 rfl hl (by decide) rfl (fun ls hl => ?_)
  refine lv_iconst (v := nI 1) C.1 C.2.1 dL_slack_11 (by decide) ?_
  exact W.widen (k := 1) (n := 6) (by decide) (by decide) (hE _ _ _ _ _ hH rfl dL_slack_12)
set_option maxHeartbeats 400000 in
set_option maxRecDepth 100000 in
theorem cL_best_n (l : Launch) (G : xG) (sa : Nat → Nat) {rm9 : Room} {w w' : va_W} {b0 : Nat} {fs : List Value} (he : w[0]? = some (b0, .inr (3, fs))) (o : Nat) (f : Nat → Int64) (r : Int64) (hR : rm9.frames ≤ 30 ∧ rm9.locals ≤ 900 ∧ rm9.cells = 0 ∧ rm9.slots = 0) (hM : xMl l yX3_best wsX3_best rm9 [.ref b0] G w r w' 0 0) : xMy l yL_best wsL_best rmL [.ref b0, .ref o] G sa (wO G o f ++ w) (nI 0) (wO G o (vp_updL f 0 r) ++ w') := by
  refine x_ofy (cc := cL_best) (maxL := 3) (by decide) rfl (Nat.le_of_ble_eq_true rfl) ?_
  intro p e s m args below meth c ls A Q C hml hA hH hl hX hN hZ htab hE
  have hl : lv_has ls 3 [(0, .ref b0), (1, .ref o)] := hl
  refine lv_aload_n C.1 C.2.1 dL_best_0 rfl (lv_at hl 1 rfl) ?_
  refine lv_iconst (v := nI 0) C.1 C.2.1 dL_best_1 (by decide) ?_
  refine lv_aload_n C.1 C.2.1 dL_best_2 rfl (lv_at hl 0 rfl) ?_
  refine x_crl (w1 := wO G o f) (wc' := w') (va_runV (As := []) (rest := [.int (nI 0), .ref o]) (x_fix C hml) (hM _) (cwV 0 C.2.2.2.1 gL_best_X3_best rfl hR.2.2.1 hR.2.2.2 (by decide +kernel) ⟨by show rm9.frames + 1 ≤ 40; omega, by show 8 + (1 + 11) + rm9.locals ≤ 1000; omega⟩) (x_pv C (x_rt hH) rfl he rfl rfl) rfl rfl hl.1 rfl (lv_room (Nat.le_of_ble_eq_true rfl)) dL_best_3 ⟨Nat.le_of_ble_eq_true rfl, Nat.le_of_ble_eq_true rfl⟩) hH hA (fun H locs hH => ?_)
  refine x_last (w' := wO G o (vp_updL f 0 r) ++ w') C hH 0 (b := o) (n := 1) (f := f) rfl (j := 0) (by decide) (by decide) rfl dL_best_6 (fun H locs hH => ?_)
  refine lv_goto (tgt := 13) C.1 C.2.1 dL_best_7 (by decide) ?_
  refine lv_iconst (v := nI 0) C.1 C.2.1 dL_best_13 (by decide) ?_
  exact W.widen (k := 1) (n := 6) (by decide) (by decide) (hE _ _ _ _ _ hH rfl dL_best_14)
set_option maxHeartbeats 400000 in
set_option maxRecDepth 100000 in
theorem cL_best_x1 (l : Launch) (G : xG) (sa : Nat → Nat) {rm9 : Room} {w : va_W} {b0 : Nat} {fs : List Value} (he : w[0]? = some (b0, .inr (3, fs))) (o : Nat) (f : Nat → Int64) (hR : rm9.frames ≤ 30 ∧ rm9.locals ≤ 900 ∧ rm9.cells = 1 ∧ rm9.slots = 6) (hM : xMx l yX3_best wsX3_best rm9 [.ref b0] G sa w "java/lang/IllegalStateException") : xMy l yL_best wsL_best rmL [.ref b0, .ref o] G sa (wO G o f ++ w) (nI 1) (wO G o f ++ w) := by
  refine x_ofy (cc := cL_best) (maxL := 3) (by decide) rfl (Nat.le_of_ble_eq_true rfl) ?_
  intro p e s m args below meth c ls A Q C hml hA hH hl hX hN hZ htab hE
  have hl : lv_has ls 3 [(0, .ref b0), (1, .ref o)] := hl
  refine lv_aload_n C.1 C.2.1 dL_best_0 rfl (lv_at hl 1 rfl) ?_
  refine lv_iconst (v := nI 0) C.1 C.2.1 dL_best_1 (by decide) ?_
  refine lv_aload_n C.1 C.2.1 dL_best_2 rfl (lv_at hl 0 rfl) ?_
  refine x_crx (w1 := wO G o f) (vx_runV (As := []) (rest := [.int (nI 0), .ref o]) (x_fix C hml) (hM _) (cwV 0 C.2.2.2.1 gL_best_X3_best rfl hR.2.2.1 hR.2.2.2 (by decide +kernel) ⟨by show rm9.frames + 1 ≤ 40; omega, by show 8 + (1 + 11) + rm9.locals ≤ 1000; omega⟩) (x_pvx C hX hZ hA (x_rt hH) rfl he rfl rfl) rfl rfl hl.1 rfl (lv_room (Nat.le_of_ble_eq_true rfl)) dL_best_3 ⟨Nat.le_of_ble_eq_true rfl, Nat.le_of_ble_eq_true rfl⟩) hH hA (fun ce q9 H locs hH hc hv hcl => ?_)
  refine vx_catch (own := RL) (name := "java/lang/IllegalStateException") C.2.2.1 [] (⟨0, 7, 10, 42⟩ : ExceptionTableEntry) [] htab (fun z hz => absurd hz List.not_mem_nil) (by decide) (by decide) (C.2.2.2.1 _ (List.mem_of_getElem? (i := 1) rfl)) (va_Nw.use rfl (hX.1 _ (List.mem_of_getElem? (i := 6) rfl))) hc hv hcl ?_
  refine lv_astore_n (lv' := [(2, .ref q9), (0, .ref b0), (1, .ref o)]) C.1 C.2.1 dL_best_10 rfl hl (by decide) rfl (fun ls hl => ?_)
  refine lv_iconst (v := nI 1) C.1 C.2.1 dL_best_11 (by decide) ?_
  exact W.widen (k := 1) (n := 6) (by decide) (by decide) (hE _ _ _ _ _ hH rfl dL_best_12)
set_option maxHeartbeats 400000 in
set_option maxRecDepth 100000 in
theorem cL_improve_n (l : Launch) (G : xG) (sa : Nat → Nat) {rm9 : Room} {w w' : va_W} {b0 : Nat} {fs : List Value} (he : w[0]? = some (b0, .inr (3, fs))) (o : Nat) (f : Nat → Int64) (r : Int32) (hR : rm9.frames ≤ 30 ∧ rm9.locals ≤ 900 ∧ rm9.cells = 0 ∧ rm9.slots = 0) (hM : xMi l yX3_improve wsX3_improve rm9 [.ref b0] G w r w' 0 0) : xMy l yL_improve wsL_improve rmL [.ref b0, .ref o] G sa (wO G o f ++ w) (nI 0) (wO G o (vp_updL f 0 r.toInt64) ++ w') := by
  refine x_ofy (cc := cL_improve) (maxL := 3) (by decide) rfl (Nat.le_of_ble_eq_true rfl) ?_
  intro p e s m args below meth c ls A Q C hml hA hH hl hX hN hZ htab hE
  have hl : lv_has ls 3 [(0, .ref b0), (1, .ref o)] := hl
  refine lv_aload_n C.1 C.2.1 dL_improve_0 rfl (lv_at hl 1 rfl) ?_
  refine lv_iconst (v := nI 0) C.1 C.2.1 dL_improve_1 (by decide) ?_
  refine lv_aload_n C.1 C.2.1 dL_improve_2 rfl (lv_at hl 0 rfl) ?_
  refine x_cri (w1 := wO G o f) (wc' := w') (va_runV (As := []) (rest := [.int (nI 0), .ref o]) (x_fix C hml) (hM _) (cwV 0 C.2.2.2.1 gL_improve_X3_improve rfl hR.2.2.1 hR.2.2.2 (by decide +kernel) ⟨by show rm9.frames + 1 ≤ 40; omega, by show 8 + (1 + 11) + rm9.locals ≤ 1000; omega⟩) (x_pv C (x_rt hH) rfl he rfl rfl) rfl rfl hl.1 rfl (lv_room (Nat.le_of_ble_eq_true rfl)) dL_improve_3 ⟨Nat.le_of_ble_eq_true rfl, Nat.le_of_ble_eq_true rfl⟩) hH hA (fun H locs hH => ?_)
  refine lv_i2l (v := r.toInt64) C.1 C.2.1 dL_improve_6 rfl ?_
  refine x_last (w' := wO G o (vp_updL f 0 r.toInt64) ++ w') C hH 0 (b := o) (n := 1) (f := f) rfl (j := 0) (by decide) (by decide) rfl dL_improve_7 (fun H locs hH => ?_)
  refine lv_goto (tgt := 14) C.1 C.2.1 dL_improve_8 (by decide) ?_
  refine lv_iconst (v := nI 0) C.1 C.2.1 dL_improve_14 (by decide) ?_
  exact W.widen (k := 1) (n := 6) (by decide) (by decide) (hE _ _ _ _ _ hH rfl dL_improve_15)
set_option maxHeartbeats 400000 in
set_option maxRecDepth 100000 in
theorem cL_improve_x1 (l : Launch) (G : xG) (sa : Nat → Nat) {rm9 : Room} {w : va_W} {b0 : Nat} {fs : List Value} (he : w[0]? = some (b0, .inr (3, fs))) (o : Nat) (f : Nat → Int64) (hR : rm9.frames ≤ 30 ∧ rm9.locals ≤ 900 ∧ rm9.cells = 1 ∧ rm9.slots = 6) (hM : xMx l yX3_improve wsX3_improve rm9 [.ref b0] G sa w "java/lang/IllegalStateException") : xMy l yL_improve wsL_improve rmL [.ref b0, .ref o] G sa (wO G o f ++ w) (nI 1) (wO G o f ++ w) := by
  refine x_ofy (cc := cL_improve) (maxL := 3) (by decide) rfl (Nat.le_of_ble_eq_true rfl) ?_
  intro p e s m args below meth c ls A Q C hml hA hH hl hX hN hZ htab hE
  have hl : lv_has ls 3 [(0, .ref b0), (1, .ref o)] := hl
  refine lv_aload_n C.1 C.2.1 dL_improve_0 rfl (lv_at hl 1 rfl) ?_
  refine lv_iconst (v := nI 0) C.1 C.2.1 dL_improve_1 (by decide) ?_
  refine lv_aload_n C.1 C.2.1 dL_improve_2 rfl (lv_at hl 0 rfl) ?_
  refine x_crx (w1 := wO G o f) (vx_runV (As := []) (rest := [.int (nI 0), .ref o]) (x_fix C hml) (hM _) (cwV 0 C.2.2.2.1 gL_improve_X3_improve rfl hR.2.2.1 hR.2.2.2 (by decide +kernel) ⟨by show rm9.frames + 1 ≤ 40; omega, by show 8 + (1 + 11) + rm9.locals ≤ 1000; omega⟩) (x_pvx C hX hZ hA (x_rt hH) rfl he rfl rfl) rfl rfl hl.1 rfl (lv_room (Nat.le_of_ble_eq_true rfl)) dL_improve_3 ⟨Nat.le_of_ble_eq_true rfl, Nat.le_of_ble_eq_true rfl⟩) hH hA (fun ce q9 H locs hH hc hv hcl => ?_)
  refine vx_catch (own := RL) (name := "java/lang/IllegalStateException") C.2.2.1 [] (⟨0, 8, 11, 42⟩ : ExceptionTableEntry) [] htab (fun z hz => absurd hz List.not_mem_nil) (by decide) (by decide) (C.2.2.2.1 _ (List.mem_of_getElem? (i := 1) rfl)) (va_Nw.use rfl (hX.1 _ (List.mem_of_getElem? (i := 6) rfl))) hc hv hcl ?_
  refine lv_astore_n (lv' := [(2, .ref q9), (0, .ref b0), (1, .ref o)]) C.1 C.2.1 dL_improve_11 rfl hl (by decide) rfl (fun ls hl => ?_)
  refine lv_iconst (v := nI 1) C.1 C.2.1 dL_improve_12 (by decide) ?_
  exact W.widen (k := 1) (n := 6) (by decide) (by decide) (hE _ _ _ _ _ hH rfl dL_improve_13)
