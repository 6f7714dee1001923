def xsa (s : State) (k : Nat) : Nat := match (Term.string RX3 k).eval #[] s none [] s with
  | some (.ref a) => a
  | _ => 0
theorem x_str {s : State} {A : Array Value} {k : Nat} {tx : String} (h1 : (Cond.stringRef RX3 k tx).before A s = true) (h2 : (Cond.exactly (.string RX3 k) "java/lang/String").before A s = true) : vk_R RX3 k tx (xsa s k) s := by
  obtain ⟨a, -, -, -, h, -⟩ := Cond.exactly_spec h2
  have h9 : (Term.string RX3 k).eval #[] s none [] s = some (.ref a) := h
  have e : xsa s k = a := by unfold xsa; rw [h9]
  rw [e]
  exact vk_R.of h1 h
theorem x_arrI {s : State} {A : Array Value} (h : (Cond.arrayClass .int).before A s = true) : ∃ cA : ClassId, ArrOfT s cA .int ∧ va_RA s cA .int := by
  obtain ⟨c, k, comp, h1, h2, h3⟩ := Cond.arrayClass_spec h
  exact ⟨c, fun N z => ⟨(fun k h => by cases h), k, h2, comp, h3⟩, h1⟩
theorem x_arrJ {s : State} {A : Array Value} (h : (Cond.arrayClass .long).before A s = true) : ∃ cA : ClassId, ArrOfT s cA .long ∧ va_RA s cA .long := by
  obtain ⟨c, k, comp, h1, h2, h3⟩ := Cond.arrayClass_spec h
  exact ⟨c, fun N z => ⟨(fun k h => by cases h), k, h2, comp, h3⟩, h1⟩
theorem x_arrZ {s : State} {A : Array Value} (h : (Cond.arrayClass .boolean).before A s = true) : ∃ cA : ClassId, ArrOfT s cA .boolean ∧ va_RA s cA .boolean := by
  obtain ⟨c, k, comp, h1, h2, h3⟩ := Cond.arrayClass_spec h
  exact ⟨c, fun N z => ⟨(fun k h => by cases h), k, h2, comp, h3⟩, h1⟩
theorem xW_in : ∀ w ∈ xW, w ∈ lw_tbl := by decide +kernel
theorem xW_ot : ∀ w ∈ xW, w.onTables = true := by decide +kernel
def xsw : List (Nat × String) := [(55, "no such sink can be"), (65, "there are ten sinks"), (72, "there are not so many sinks"), (74, "no such place"), (76, "no such wires"), (85, "no such buffer"), (96, "no such way"), (100, "there is no sink"), (132, "no such node or part"), (153, "no such join"), (158, "no such node"), (192, "there is no tree"), (195, "no such sink")]
theorem xsw_in : ∀ q ∈ xsw, Cond.stringRef RX3 q.1 q.2 ∈ lw_tbl := by decide +kernel
theorem xsw_ex : ∀ q ∈ xsw, Cond.exactly (.string RX3 q.1) "java/lang/String" ∈ flatC (Jvm.Cond.and given_1 narrow_1) := by decide +kernel
def xnw : List Cond := [.methodLinkNest RX2 66 yX3_placeU RX3, .methodLinkNest RX2 70 yX3_placeV RX3, .methodLinkNest RX3 11 yX1_init RX3, .methodLinkNest RX3 18 yX2_init RX3, .methodLinkNest RX3 25 yX0_init RX3]
theorem xnw_in : ∀ w ∈ xnw, w ∈ lw_tbl := by decide +kernel
theorem xnw_ot : ∀ w ∈ xnw, w.onTables = true := by decide +kernel
def xcw : List Cond := [.instantiable RX0 10, .instantiable RX1 5, .instantiable RX2 14, .instantiable RX3 7, .instantiable RX4 37, .arrayClass .int, .arrayClass .long, .arrayClass .boolean, .laysStatic Bundle.tN "UNASSIGNED_STACK" Bundle.steD, .laysStatic Bundle.tN "SUPPRESSED_SENTINEL" Bundle.listD, .initialized Bundle.tN]
theorem xcw_in : ∀ w ∈ xcw, w ∈ lw_tbl := by decide +kernel
def xpw : List Cond := [.not (.castable "java/lang/UnsupportedOperationException" "java/lang/IllegalArgumentException"), .not (.castable "java/util/NoSuchElementException" "java/lang/IllegalArgumentException"), .not (.castable "java/lang/IndexOutOfBoundsException" "java/lang/IllegalStateException"), .isRef (.static Bundle.tN "UNASSIGNED_STACK" Bundle.steD), .isRef (.static Bundle.tN "SUPPRESSED_SENTINEL" Bundle.listD)]
theorem xpw_in : ∀ w ∈ xpw, w ∈ flatC (Jvm.Cond.and given_1 narrow_1) := by decide +kernel
def xCS0 : xCS := (fun _ _ => 0, fun _ _ => 0, fun _ _ => 0, FX0, 0)
def xMS0 : xMS := (fun _ _ => 0, fun _ _ => 0, fun _ _ => 0, fun _ _ => 0, fun _ _ => 0, FM0)
def xSteps (Rel : xCS → xMS → Prop) : Prop := st_sinks Rel ∧ ∀ l : Launch, l.stackTraces = false → ∀ (G : xG) (sa a a' : Nat → Nat) (o : Nat), st_sink l G sa a a' o Rel ∧ st_cut l G sa a a' o Rel ∧ st_source l G sa a a' o Rel ∧ st_wires l G sa a a' o Rel ∧ st_buffer l G sa a a' o Rel ∧ st_build l G sa a a' o Rel ∧ st_node l G sa a a' o Rel ∧ st_length l G sa a a' o Rel ∧ st_depth l G sa a a' o Rel ∧ st_set l G sa a a' o Rel ∧ st_setting l G sa a a' o Rel ∧ st_load l G sa a a' o Rel ∧ st_delay l G sa a a' o Rel ∧ st_slack l G sa a a' o Rel ∧ st_best l G sa a a' o Rel ∧ st_improve l G sa a a' o Rel
set_option maxHeartbeats 4000000 in
set_option maxRecDepth 100000 in
theorem whole_of (Rel : xCS → xMS → Prop) (r0 : Rel xCS0 xMS0) (hst : xSteps Rel) {p : Program} {e : Env} {s : State} {m : MethodId} {below : List Frame} {meth : Method} {c : Code} (l : Launch) (hl0 : l.stackTraces = false) {b L : Nat} {xs : Nat → Int32} (hL : L ≤ 2560) (C0 : lw_At p s m meth c b L xs) : W p l e room_1 s m #[Value.ref b] below meth c s.heap [] 0 0 (lw_Z below #[Value.ref b] s) (entryFrame m ([Value.ref b] : List Value).toArray 8) := by
  obtain ⟨hx, hb, hr, hml, hown, hts, hX9, hbl, hlocks, hgv⟩ := id C0
  have hA : ∀ q : Nat, s.heap.size ≤ q → (fun q : Nat => s.heap.size ≤ q) q := fun _ h => h
  have hq := flat_of_before _ hgv
  have hc : ∀ w ∈ xcw, w.before #[Value.ref b] s = true := fun w h => hts w (xcw_in w h)
  have hpw : ∀ w ∈ xpw, w.before #[Value.ref b] s = true := fun w h => hq w (xpw_in w h)
  obtain ⟨c0, i0, k0⟩ := u_known (C := RX0) (T := TX0) (N := 10) (n := 10) hts inX0 (hc _ (List.mem_of_getElem? (i := 0) rfl))
  obtain ⟨c1, i1, k1⟩ := u_known (C := RX1) (T := TX1) (N := 5) (n := 5) hts inX1 (hc _ (List.mem_of_getElem? (i := 1) rfl))
  obtain ⟨c2, i2, k2⟩ := u_known (C := RX2) (T := TX2) (N := 14) (n := 14) hts inX2 (hc _ (List.mem_of_getElem? (i := 2) rfl))
  obtain ⟨c3, i3, k3⟩ := u_known (C := RX3) (T := TX3) (N := 7) (n := 7) hts inX3 (hc _ (List.mem_of_getElem? (i := 3) rfl))
  obtain ⟨c4, i4, k4⟩ := u_known (C := RX4) (T := TX4) (N := 37) (n := 37) hts inX4 (hc _ (List.mem_of_getElem? (i := 4) rfl))
  obtain ⟨a0, ha0⟩ := x_arrI (hc _ (List.mem_of_getElem? (i := 5) rfl))
  obtain ⟨a1, ha1⟩ := x_arrJ (hc _ (List.mem_of_getElem? (i := 6) rfl))
  obtain ⟨a2, ha2⟩ := x_arrZ (hc _ (List.mem_of_getElem? (i := 7) rfl))
  have hnw : ∀ w ∈ xnw, va_Nw w s := fun w h => va_tabs (xnw_ot w h) rfl (hts w (xnw_in w h))
  obtain ⟨G, hK⟩ : ∃ G : xG, xK G s := by
    refine ⟨((fun k => if k = 0 then c0 else if k = 1 then c1 else if k = 2 then c2 else if k = 3 then c3 else c4, fun k => if k = 0 then i0 else if k = 1 then i1 else if k = 2 then i2 else if k = 3 then i3 else i4), fun k => if k = 0 then a0 else if k = 1 then a1 else a2), ⟨?_, ?_⟩, hnw _ (List.mem_of_getElem? (i := 0) rfl), hnw _ (List.mem_of_getElem? (i := 1) rfl)⟩
    · intro k q hk
      match k, hk with
      | 0, hk => cases hk; exact k0
      | 1, hk => cases hk; exact k1
      | 2, hk => cases hk; exact k2
      | 3, hk => cases hk; exact k3
      | 4, hk => cases hk; exact k4
      | k + 5, hk => simp [vwCl] at hk
    · intro k q hk
      match k, hk with
      | 0, hk => cases hk; exact ha0
      | 1, hk => cases hk; exact ha1
      | 2, hk => cases hk; exact ha2
      | k + 3, hk => simp [xTy] at hk
  have C : xC p c m s #[.ref b] cL_law RL wsL_law G := ⟨hx, hb, hown, fun w h => hts w (wsL_law_in w h), hK⟩
  have hN3 : xN3 s := ⟨hnw _ (List.mem_of_getElem? (i := 2) rfl), hnw _ (List.mem_of_getElem? (i := 3) rfl), hnw _ (List.mem_of_getElem? (i := 4) rfl)⟩
  have hs9 : ∀ q ∈ xsw, vk_R RX3 q.1 q.2 (xsa s q.1) s := fun q h => x_str (hts _ (xsw_in q h)) (hq _ (xsw_ex q h))
  have hX : xX (xsa s) s := ⟨fun w h => va_tabs (xW_ot w h) rfl (hts w (xW_in w h)), hs9 (55, "no such sink can be") (List.mem_of_getElem? (i := 0) rfl), hs9 (65, "there are ten sinks") (List.mem_of_getElem? (i := 1) rfl), hs9 (72, "there are not so many sinks") (List.mem_of_getElem? (i := 2) rfl), hs9 (74, "no such place") (List.mem_of_getElem? (i := 3) rfl), hs9 (76, "no such wires") (List.mem_of_getElem? (i := 4) rfl), hs9 (85, "no such buffer") (List.mem_of_getElem? (i := 5) rfl), hs9 (96, "no such way") (List.mem_of_getElem? (i := 6) rfl), hs9 (100, "there is no sink") (List.mem_of_getElem? (i := 7) rfl), hs9 (132, "no such node or part") (List.mem_of_getElem? (i := 8) rfl), hs9 (153, "no such join") (List.mem_of_getElem? (i := 9) rfl), hs9 (158, "no such node") (List.mem_of_getElem? (i := 10) rfl), hs9 (192, "there is no tree") (List.mem_of_getElem? (i := 11) rfl), hs9 (195, "no such sink") (List.mem_of_getElem? (i := 12) rfl)⟩
  have hN : xN s := ⟨va_Nc.of (hpw _ (List.mem_of_getElem? (i := 0) rfl)), va_Nc.of (hpw _ (List.mem_of_getElem? (i := 1) rfl)), va_Nc.of (hpw _ (List.mem_of_getElem? (i := 2) rfl))⟩
  have hZ : xZ (fun q : Nat => s.heap.size ≤ q) s s.heap := ⟨vx_Zqof (hc _ (List.mem_of_getElem? (i := 8) rfl)) (hc _ (List.mem_of_getElem? (i := 10) rfl)) (hpw _ (List.mem_of_getElem? (i := 3) rfl)) (fun a h => Nat.not_le.mpr h), vx_Zqof (hc _ (List.mem_of_getElem? (i := 9) rfl)) (hc _ (List.mem_of_getElem? (i := 10) rfl)) (hpw _ (List.mem_of_getElem? (i := 4) rfl)) (fun a h => Nat.not_le.mpr h)⟩
  have hH : xH G (fun q : Nat => s.heap.size ≤ q) s.heap s.heap [] [] := ⟨fun k q h => by simp at h, ⟨fun i j p q h => by simp at h, fun k q h => by simp at h⟩, va_S.rf⟩
  have hl := lv_entry ([.ref b]) (n := 8) (Nat.le_of_ble_eq_true rfl)
  rw [lg_entry_eq]
  generalize (lg_sl ([.ref b]) ++ List.replicate (8 - (lg_sl ([.ref b])).length) Slot.unset).toArray = ls at hl ⊢
  have hl : lv_has ls 8 [(0, .ref b)] := hl
  refine x_new (ci := 3) (fs := [.null, .null, .null, .int 0, .int 0, .int 0, .int 0]) (C9 := RX3) (T := TX3) (N := 7) C inlX3 tyX3 tyX3_ok hH hA rfl (fun j hj => by rcases (show j = 0 ∨ j = 1 ∨ j = 2 ∨ j = 3 ∨ j = 4 ∨ j = 5 ∨ j = 6 by omega) with rfl | rfl | rfl | rfl | rfl | rfl | rfl <;> rfl) 0 1 2 rfl rfl rfl (Nat.le_of_ble_eq_true rfl) (Nat.le_of_ble_eq_true rfl) dL_law_0 (fun q1 H hH => ?_)
  refine lv_dup C.1 C.2.1 dL_law_3 rfl ?_
  have hH := x_eqw (w' := [(q1, .inr (3, [.null, .null, .null, .int 0, .int 0, .int 0, .int 0]))]) rfl hH
  refine x_cinit (a9 := _) (x0 := [(q1, .inr (3, [.null, .null, .null, .int 0, .int 0, .int 0, .int 0]))]) (wr := []) (wf := fun u1 => wX G u1 (fun _ _ => 0) (fun _ _ => 0) (fun _ _ => 0) FX0 0) [0] [] (va_runI (As := []) (rest := [.ref q1]) (x_fix C hml) (c_X3_init l G q1 _) (cwI 0 C.2.2.2.1 gL_law_X3_init rfl rfl rfl (C.2.2.2.1 _ (List.mem_of_getElem? (i := 2) rfl)) (C.2.2.2.1 _ (List.mem_of_getElem? (i := 7) rfl)) (C.2.2.2.1 _ (List.mem_of_getElem? (i := 8) rfl)) rfl (by decide +kernel) ⟨Nat.le_of_ble_eq_true rfl, Nat.le_of_ble_eq_true rfl⟩) ⟨x_bc xN3.warm, fun U hU hW => x_pc C.2.2.2.2 hH.1 hH.2.1 xN3.warm hN3 hU hW⟩ rfl rfl hl.1 rfl (lv_room (Nat.le_of_ble_eq_true rfl)) dL_law_4 ⟨Nat.le_of_ble_eq_true rfl, Nat.le_of_ble_eq_true rfl⟩) hH hA rfl rfl (by decide) (by decide) (fun u1 H locs e1 hH2 => ?_)
  subst e1
  have hH := x_eqw (w' := wX G u1 (fun _ _ => 0) (fun _ _ => 0) (fun _ _ => 0) FX0 0) rfl hH2
  refine lv_astore_n (lv' := [(1, .ref (u1 0)), (0, .ref b)]) C.1 C.2.1 dL_law_7 rfl hl (by decide) rfl (fun ls hl => ?_)
  refine x_new (ci := 4) (fs := [.int 0, .int 0, .null, .null, .null, .null, .int 0, .int 0, .int 0, .int 0, .int 0, .int 0, .int 0, .int 0, .int 0, .null, .null, .null, .null, .null, .null, .null, .null, .null, .null, .null, .null, .null, .null, .int 0, .null, .null, .null, .null, .null, .null, .null]) (C9 := RX4) (T := TX4) (N := 37) C inlX4 tyX4 tyX4_ok hH hA rfl (fun j hj => by rcases (show j = 0 ∨ j = 1 ∨ j = 2 ∨ j = 3 ∨ j = 4 ∨ j = 5 ∨ j = 6 ∨ j = 7 ∨ j = 8 ∨ j = 9 ∨ j = 10 ∨ j = 11 ∨ j = 12 ∨ j = 13 ∨ j = 14 ∨ j = 15 ∨ j = 16 ∨ j = 17 ∨ j = 18 ∨ j = 19 ∨ j = 20 ∨ j = 21 ∨ j = 22 ∨ j = 23 ∨ j = 24 ∨ j = 25 ∨ j = 26 ∨ j = 27 ∨ j = 28 ∨ j = 29 ∨ j = 30 ∨ j = 31 ∨ j = 32 ∨ j = 33 ∨ j = 34 ∨ j = 35 ∨ j = 36 by omega) with rfl | rfl | rfl | rfl | rfl | rfl | rfl | rfl | rfl | rfl | rfl | rfl | rfl | rfl | rfl | rfl | rfl | rfl | rfl | rfl | rfl | rfl | rfl | rfl | rfl | rfl | rfl | rfl | rfl | rfl | rfl | rfl | rfl | rfl | rfl | rfl | rfl <;> rfl) 3 4 5 rfl rfl rfl (Nat.le_of_ble_eq_true rfl) (Nat.le_of_ble_eq_true rfl) dL_law_8 (fun q2 H hH => ?_)
  refine lv_dup C.1 C.2.1 dL_law_11 rfl ?_
  refine x_cinit (a9 := _) (x0 := [(q2, .inr (4, [.int 0, .int 0, .null, .null, .null, .null, .int 0, .int 0, .int 0, .int 0, .int 0, .int 0, .int 0, .int 0, .int 0, .null, .null, .null, .null, .null, .null, .null, .null, .null, .null, .null, .null, .null, .null, .int 0, .null, .null, .null, .null, .null, .null, .null]))]) (wr := wX G u1 (fun _ _ => 0) (fun _ _ => 0) (fun _ _ => 0) FX0 0) (wf := fun u2 => wM G u2 (fun _ _ => 0) (fun _ _ => 0) (fun _ _ => 0) (fun _ _ => 0) (fun _ _ => 0) FM0) [23] [0, 1, 2, 3, 4, 5, 6, 7, 8, 9, 10, 11, 12, 13, 14, 15, 16, 17, 18, 19, 20, 21, 22] (va_runI (As := []) (rest := [.ref q2]) (x_fix C hml) (c_X4_init l G q2 _) (cwI 0 C.2.2.2.1 gL_law_X4_init rfl rfl rfl (C.2.2.2.1 _ (List.mem_of_getElem? (i := 5) rfl)) (C.2.2.2.1 _ (List.mem_of_getElem? (i := 68) rfl)) (C.2.2.2.1 _ (List.mem_of_getElem? (i := 69) rfl)) rfl (by decide +kernel) ⟨Nat.le_of_ble_eq_true rfl, Nat.le_of_ble_eq_true rfl⟩) ⟨x_bc (fun _ _ _ h => h), fun U hU hW => x_pc C.2.2.2.2 (hH.1.sub [23] rfl) (hH.2.1.sub [23] (by decide) rfl) (fun _ _ _ h => h) trivial hU hW⟩ rfl rfl hl.1 rfl (lv_room (Nat.le_of_ble_eq_true rfl)) dL_law_12 ⟨Nat.le_of_ble_eq_true rfl, Nat.le_of_ble_eq_true rfl⟩) hH hA rfl rfl (by decide) (by decide) (fun u2 H locs e2 hH2 => ?_)
  subst e2
  have hH := hH2
  refine lv_astore_n (lv' := [(2, .ref (u2 0)), (1, .ref (u1 0)), (0, .ref b)]) C.1 C.2.1 dL_law_15 rfl hl (by decide) rfl (fun ls hl => ?_)
  refine lv_iconst (v := nI 1) C.1 C.2.1 dL_law_16 (by decide) ?_
  refine x_newJ C hH hA 6 rfl (by decide) (Nat.le_of_ble_eq_true rfl) (Nat.le_of_ble_eq_true rfl) dL_law_17 (fun o H hH => ?_)
  refine lv_astore_n (lv' := [(3, .ref o), (2, .ref (u2 0)), (1, .ref (u1 0)), (0, .ref b)]) C.1 C.2.1 dL_law_19 rfl hl (by decide) rfl (fun ls hl => ?_)
  refine lv_iconst (v := nI 0) C.1 C.2.1 dL_law_20 (by decide) ?_
  refine lv_istore (lv' := [(4, .int (nI 0)), (3, .ref o), (2, .ref (u2 0)), (1, .ref (u1 0)), (0, .ref b)]) C.1 C.2.1 dL_law_21 hl (by decide) rfl (fun ls hl => ?_)
  have hH : xH G (fun q : Nat => s.heap.size ≤ q) s.heap H locs (wMs G u2 xMS0 ++ (wO G o (fun _ => 0) ++ wXs G u1 xCS0)) := ⟨hH.1.sub [23, 24, 25, 26, 27, 28, 29, 30, 31, 32, 33, 34, 35, 36, 37, 38, 39, 40, 41, 42, 43, 44, 45, 46, 47, 48, 49, 0, 1, 2, 3, 4, 5, 6, 7, 8, 9, 10, 11, 12, 13, 14, 15, 16, 17, 18, 19, 20, 21, 22] rfl, hH.2.1.sub [23, 24, 25, 26, 27, 28, 29, 30, 31, 32, 33, 34, 35, 36, 37, 38, 39, 40, 41, 42, 43, 44, 45, 46, 47, 48, 49, 0, 1, 2, 3, 4, 5, 6, 7, 8, 9, 10, 11, 12, 13, 14, 15, 16, 17, 18, 19, 20, 21, 22] (by decide) rfl, hH.2.2⟩
  obtain ⟨h5, hst⟩ := hst
  obtain ⟨s_sink, s_cut, s_source, s_wires, s_buffer, s_build, s_node, s_length, s_depth, s_set, s_setting, s_load, s_delay, s_slack, s_best, s_improve⟩ := hst l hl0 G (xsa s) u1 u2 o
  exact law_loop Rel hL C hml hr hlocks hX9 hbl hX hN hZ s_sink s_cut s_source s_wires s_buffer h5 s_build s_node s_length s_depth s_set s_setting s_load s_delay s_slack s_best s_improve (L + 6) 0 xCS0 xMS0 (fun _ => 0) _ _ H locs ls (Nat.zero_le _) (by omega) r0 (Nat.le_of_ble_eq_true rfl) (Nat.le_of_ble_eq_true rfl) hH (lv_sub hl [4, 3, 2, 1, 0] rfl)
