/-! the law's cases -/
section XLAW0
variable {p : Program} {l : Launch} {e : Env} {R : Room} {s : State} {m : MethodId} {args : Array Value} {below : List Frame} {meth : Method} {c : Code} {H : Heap} {locs : List Loc} {cells slots : Nat} {Q : State → Prop}
variable {cc : ByteArray} {pc : Nat} {ls : Array Slot} {rest : List Value} {A : Nat → Prop} {G : xG} {w : va_W} {own : String} {Ts : List Cond}
theorem x_scr (C : xC p c m s args cc own Ts G) {b L : Nat} {xs : Nat → Int32} (hX : va_X b L xs s s.heap) (hbl : b < s.heap.size) (hbA : ¬ A b) (hH : xH G A s.heap H locs w) (j : Nat) (hj : j < L) (hL : L ≤ 2560) (hdg : decode cc pc = .ok (.iaload, 1))
    (kk : W p l e R s m args below meth c H locs cells slots Q (F0 m (pc + 1) ls (.int (xs j) :: rest))) : W p l e R s m args below meth c H locs cells slots Q (F0 m pc ls (.int (nI j) :: .ref b :: rest)) := by
  refine va_sld C.1 C.2.1 hX hbl hbA hH.2.2 (vp_in_nI hj (by omega)) hdg ?_
  rw [nI_clamp (by omega)]
  exact kk
theorem x_nz {x : Int32} (hexec : p.tables.exec = Jvm.exec) (hb : c.code = cc) (d1 : decode cc pc = .ok (.ifCond .eq 7, 3)) (d2 : decode cc (pc + 3) = .ok (.iconst 1, 1)) (d3 : decode cc (pc + 4) = .ok (.goto 4, 3)) (d4 : decode cc (pc + 7) = .ok (.iconst 0, 1))
    (k : W p l e R s m args below meth c H locs cells slots Q (F0 m (pc + 8) ls (.int (xb (¬ x = 0)) :: rest))) : W p l e R s m args below meth c H locs cells slots Q (F0 m pc ls (.int x :: rest)) := by
  refine lv_if_eq (tgt := pc + 7) hexec hb d1 (by omega) (fun h => ?_) (fun h => ?_)
  · refine lv_iconst (v := nI 0) hexec hb d4 (by decide) ?_
    rw [xb_f (P := ¬ x = 0) (fun q => q h)]
    exact k
  · refine lv_iconst (v := nI 1) hexec hb d2 (by decide) ?_
    refine lv_goto (tgt := pc + 8) hexec hb d3 (by omega) ?_
    rw [xb_t (P := ¬ x = 0) h]
    exact k
theorem x_nzl {x : Int32} (hexec : p.tables.exec = Jvm.exec) (hb : c.code = cc) (d1 : decode cc pc = .ok (.ifCond .eq 7, 3)) (d2 : decode cc (pc + 3) = .ok (.lconst 1, 1)) (d3 : decode cc (pc + 4) = .ok (.goto 4, 3)) (d4 : decode cc (pc + 7) = .ok (.lconst 0, 1))
    (k : W p l e R s m args below meth c H locs cells slots Q (F0 m (pc + 8) ls (.long (if x = 0 then 0 else 1) :: rest))) : W p l e R s m args below meth c H locs cells slots Q (F0 m pc ls (.int x :: rest)) := by
  refine lv_if_eq (tgt := pc + 7) hexec hb d1 (by omega) (fun h => ?_) (fun h => ?_)
  · refine lv_lconst (v := 0) hexec hb d4 (by decide) ?_
    rw [if_pos h] at k
    exact k
  · refine lv_lconst (v := 1) hexec hb d2 (by decide) ?_
    refine lv_goto (tgt := pc + 8) hexec hb d3 (by omega) ?_
    rw [if_neg h] at k
    exact k
theorem x_add (a b : Nat) : nI a + nI b = nI (a + b) := (Int32.ofNat_add a b).symm
end XLAW0
section XLAW
variable {p : Program} {l : Launch} {e : Env} {s : State} {m : MethodId} {below : List Frame} {meth : Method} {c : Code} {H : Heap} {locs : List Loc} {cells slots : Nat} {Q : State → Prop}
variable {ls : Array Slot} {A : Nat → Prop} {G : xG} {sa : Nat → Nat} {wx wx' wm wm' : va_W} {x0 m0 o b L i : Nat} {xs : Nat → Int32} {f f' : Nat → Int64} {k : Int32} {rm9 : Room} {fm fm' fx : List Value}
set_option maxHeartbeats 1000000 in
set_option maxRecDepth 100000 in
theorem lc_sink {rb : Int32} (C : xC p c m s #[.ref b] cL_law RL wsL_law G) (hml : c.maxLocals = 8) (hX9 : va_X b L xs s s.heap) (hbl : b < s.heap.size) (hbA : ¬ A b) (hA : ∀ q, s.heap.size ≤ q → A q) (hX : xX sa s) (hN : xN s) (hZ : xZ A s s.heap) (hi : i + 5 ≤ L) (hL : L ≤ 2560)
    (hH : xH G A s.heap H locs (wm ++ (wO G o f ++ wx))) (hl : lv_has ls 8 [(0, .ref b), (1, .ref x0), (2, .ref m0), (3, .ref o), (4, .int (nI i))]) (hem : wm[0]? = some (m0, .inr (4, fm))) (hem' : wm'[0]? = some (m0, .inr (4, fm')))
    (hcells : cells + 1 ≤ 600000) (hslots : slots + 6 ≤ 7000000)
    (h1 : xMy l yL_sink wsL_sink rmL [.ref x0, .int (xs (i + 1)), .int (xs (i + 2)), .int (xs (i + 3)), .int (xs (i + 4)), .ref o] G sa (wO G o f ++ wx) k (wO G o f' ++ wx'))
    (hR : rm9.frames ≤ 30 ∧ rm9.locals ≤ 900 ∧ rm9.cells = 0 ∧ rm9.slots = 0) (h2 : xMi l yX4_sink wsX4_sink rm9 [.ref m0, .int (xs (i + 1)), .int (xs (i + 2)), .int (xs (i + 3)), .int (xs (i + 4))] G wm rb wm' 0 0)
    (h3 : xMi l yX4_thrown wsX4_thrown { frames := 0, cells := 0, slots := 0, locals := 0 } [.ref m0] G wm' k wm' 0 0) (hv : k = 0 → f' 0 = rb.toInt64)
    (kk : ∀ (H1 : Heap) (locs1 : List Loc) (ls1 : Array Slot), xH G A s.heap H1 locs1 (wm' ++ (wO G o f' ++ wx')) → lv_has ls1 8 [(0, .ref b), (1, .ref x0), (2, .ref m0), (3, .ref o), (4, .int (nI i))] → W p l e room_1 s m #[.ref b] below meth c H1 locs1 (cells + 1) (slots + 6) Q (F0 m 1044 ls1 [])) :
    W p l e room_1 s m #[.ref b] below meth c H locs cells slots Q (F0 m 120 ls []) := by
  refine lv_aload_n C.1 C.2.1 dL_law_120 rfl (lv_at hl 1 rfl) ?_
  refine lv_aload_n C.1 C.2.1 dL_law_121 rfl (lv_at hl 0 rfl) ?_
  refine lv_iload C.1 C.2.1 dL_law_122 (lv_at hl 4 rfl) ?_
  refine lv_iconst (v := nI 1) C.1 C.2.1 dL_law_124 (by decide) ?_
  refine lv_iadd C.1 C.2.1 dL_law_125 ?_
  refine x_toi (x_add i 1) ?_
  refine x_scr C hX9 hbl hbA hH (i + 1) (by omega) hL dL_law_126 ?_
  refine lv_aload_n C.1 C.2.1 dL_law_127 rfl (lv_at hl 0 rfl) ?_
  refine lv_iload C.1 C.2.1 dL_law_128 (lv_at hl 4 rfl) ?_
  refine lv_iconst (v := nI 2) C.1 C.2.1 dL_law_130 (by decide) ?_
  refine lv_iadd C.1 C.2.1 dL_law_131 ?_
  refine x_toi (x_add i 2) ?_
  refine x_scr C hX9 hbl hbA hH (i + 2) (by omega) hL dL_law_132 ?_
  refine lv_aload_n C.1 C.2.1 dL_law_133 rfl (lv_at hl 0 rfl) ?_
  refine lv_iload C.1 C.2.1 dL_law_134 (lv_at hl 4 rfl) ?_
  refine lv_iconst (v := nI 3) C.1 C.2.1 dL_law_136 (by decide) ?_
  refine lv_iadd C.1 C.2.1 dL_law_137 ?_
  refine x_toi (x_add i 3) ?_
  refine x_scr C hX9 hbl hbA hH (i + 3) (by omega) hL dL_law_138 ?_
  refine lv_aload_n C.1 C.2.1 dL_law_139 rfl (lv_at hl 0 rfl) ?_
  refine lv_iload C.1 C.2.1 dL_law_140 (lv_at hl 4 rfl) ?_
  refine lv_iconst (v := nI 4) C.1 C.2.1 dL_law_142 (by decide) ?_
  refine lv_iadd C.1 C.2.1 dL_law_143 ?_
  refine x_toi (x_add i 4) ?_
  refine x_scr C hX9 hbl hbA hH (i + 4) (by omega) hL dL_law_144 ?_
  refine lv_aload_n C.1 C.2.1 dL_law_145 rfl (lv_at hl 3 rfl) ?_
  refine x_cri (w1 := wm) (wc := wO G o f ++ wx) (wc' := wO G o f' ++ wx') (vx_runSW (As := [.ref x0, .int (xs (i + 1)), .int (xs (i + 2)), .int (xs (i + 3)), .int (xs (i + 4)), .ref o]) (rest := []) (x_fix C hml) (h1 _) (vx_cwSW 6 C.2.2.2.1 gL_law_L_sink rfl rfl rfl (by decide +kernel) ⟨Nat.le_of_ble_eq_true rfl, Nat.le_of_ble_eq_true rfl⟩) (x_psy C hX hN hZ hA (x_rt hH)) rfl rfl hl.1 rfl (lv_room (Nat.le_of_ble_eq_true rfl)) dL_law_146 ⟨by show cells + 1 ≤ 624656; omega, by show slots + 6 ≤ 7222135; omega⟩) hH hA (fun H locs hH => ?_)
  refine lv_istore (lv' := [(5, .int k), (0, .ref b), (1, .ref x0), (2, .ref m0), (3, .ref o), (4, .int (nI i))]) C.1 C.2.1 dL_law_149 hl (by decide) rfl (fun ls hl => ?_)
  refine lv_aload_n C.1 C.2.1 dL_law_151 rfl (lv_at hl 3 rfl) ?_
  refine lv_aload_n C.1 C.2.1 dL_law_152 rfl (lv_at hl 1 rfl) ?_
  refine lv_iload C.1 C.2.1 dL_law_153 (lv_at hl 5 rfl) ?_
  refine lv_iconst (v := nI 1) C.1 C.2.1 dL_law_155 (by decide) ?_
  refine lv_iadd C.1 C.2.1 dL_law_156 ?_
  refine x_toi (x_add i 1) ?_
  refine x_scr C hX9 hbl hbA hH (i + 1) (by omega) hL dL_law_157 ?_
  refine lv_aload_n C.1 C.2.1 dL_law_158 rfl (lv_at hl 1 rfl) ?_
  refine lv_iload C.1 C.2.1 dL_law_159 (lv_at hl 5 rfl) ?_
  refine lv_iconst (v := nI 2) C.1 C.2.1 dL_law_161 (by decide) ?_
  refine lv_iadd C.1 C.2.1 dL_law_162 ?_
  refine x_toi (x_add i 2) ?_
  refine x_scr C hX9 hbl hbA hH (i + 2) (by omega) hL dL_law_163 ?_
  refine lv_aload_n C.1 C.2.1 dL_law_164 rfl (lv_at hl 1 rfl) ?_
  refine lv_iload C.1 C.2.1 dL_law_165 (lv_at hl 5 rfl) ?_
  refine lv_iconst (v := nI 3) C.1 C.2.1 dL_law_167 (by decide) ?_
  refine lv_iadd C.1 C.2.1 dL_law_168 ?_
  refine x_toi (x_add i 3) ?_
  refine x_scr C hX9 hbl hbA hH (i + 3) (by omega) hL dL_law_169 ?_
  refine lv_aload_n C.1 C.2.1 dL_law_170 rfl (lv_at hl 1 rfl) ?_
  refine lv_iload C.1 C.2.1 dL_law_171 (lv_at hl 5 rfl) ?_
  refine lv_iconst (v := nI 4) C.1 C.2.1 dL_law_173 (by decide) ?_
  refine lv_iadd C.1 C.2.1 dL_law_174 ?_
  refine x_toi (x_add i 4) ?_
  refine x_scr C hX9 hbl hbA hH (i + 4) (by omega) hL dL_law_175 ?_
  refine x_cli (w2 := wO G o f' ++ wx') (wc := wm) (wc' := wm') (va_runV (As := [.int (xs (i + 1)), .int (xs (i + 2)), .int (xs (i + 3)), .int (xs (i + 4))]) (rest := []) (x_fix C hml) (h2 _) (cwV 4 C.2.2.2.1 gL_law_X4_sink rfl hR.2.2.1 hR.2.2.2 (by decide +kernel) ⟨by show rm9.frames + 1 ≤ 2048; omega, by show 8 + (5 + 11) + rm9.locals ≤ 84000; omega⟩) (x_pv C (x_lf hH) rfl hem rfl rfl) rfl rfl hl.1 rfl (lv_room (Nat.le_of_ble_eq_true rfl)) dL_law_176 ⟨by show cells + 1 + 0 ≤ 624656; omega, by show slots + 6 + 0 ≤ 7222135; omega⟩) hH hA (fun H locs hH => ?_)
  refine lv_istore (lv' := [(6, .int rb), (5, .int k), (0, .ref b), (1, .ref x0), (2, .ref m0), (3, .ref o), (4, .int (nI i))]) C.1 C.2.1 dL_law_179 hl (by decide) rfl (fun ls hl => ?_)
  refine lv_aload_n C.1 C.2.1 dL_law_181 rfl (lv_at hl 4 rfl) ?_
  refine x_cli (w2 := wO G o f' ++ wx') (wc := wm') (wc' := wm') (va_runV (As := []) (rest := []) (x_fix C hml) (h3 _) (cwV 0 C.2.2.2.1 gL_law_X4_thrown rfl rfl rfl (by decide +kernel) ⟨Nat.le_of_ble_eq_true rfl, Nat.le_of_ble_eq_true rfl⟩) (x_pv C (x_lf hH) rfl hem' rfl rfl) rfl rfl hl.1 rfl (lv_room (Nat.le_of_ble_eq_true rfl)) dL_law_182 ⟨by show cells + 1 + 0 + 0 ≤ 624656; omega, by show slots + 6 + 0 + 0 ≤ 7222135; omega⟩) hH hA (fun H locs hH => ?_)
  refine lv_iload C.1 C.2.1 dL_law_185 (lv_at hl 1 rfl) ?_
  refine lv_icmp_eq (tgt := 192) C.1 C.2.1 dL_law_187 (by decide) (fun _ => ?_) (fun hne => absurd rfl hne)
  refine lv_iload C.1 C.2.1 dL_law_192 (lv_at hl 1 rfl) ?_
  refine lv_if_ne (tgt := 209) C.1 C.2.1 dL_law_194 (by decide) (fun h0 => ?_) (fun h0 => ?_)
  · refine lv_goto (tgt := 1044) C.1 C.2.1 dL_law_209 (by decide) ?_
    exact kk _ _ _ hH (lv_sub hl [2, 3, 4, 5, 6] rfl)
  · skip
    refine lv_aload_n C.1 C.2.1 dL_law_197 rfl (lv_at hl 5 rfl) ?_
    refine lv_iconst (v := nI 0) C.1 C.2.1 dL_law_198 (by decide) ?_
    have hH2 := x_rt hH
    refine x_lald C hH2 0 (b := o) (n := 1) (f := f') rfl (j := 0) (by decide) (by decide) rfl dL_law_199 ?_
    refine lv_iload C.1 C.2.1 dL_law_200 (lv_at hl 0 rfl) ?_
    refine lv_i2l (v := rb.toInt64) C.1 C.2.1 dL_law_202 rfl ?_
    refine x_lcmp_eq (tgt := 209) C.1 C.2.1 dL_law_203 dL_law_204 (by decide) (fun _ => ?_) (fun hne => absurd (hv h0) hne)
    refine lv_goto (tgt := 1044) C.1 C.2.1 dL_law_209 (by decide) ?_
    exact kk _ _ _ hH (lv_sub hl [2, 3, 4, 5, 6] rfl)
set_option maxHeartbeats 1000000 in
set_option maxRecDepth 100000 in
theorem lc_cut  (C : xC p c m s #[.ref b] cL_law RL wsL_law G) (hml : c.maxLocals = 8) (hX9 : va_X b L xs s s.heap) (hbl : b < s.heap.size) (hbA : ¬ A b) (hA : ∀ q, s.heap.size ≤ q → A q) (hX : xX sa s) (hN : xN s) (hZ : xZ A s s.heap) (hi : i + 5 ≤ L) (hL : L ≤ 2560)
    (hH : xH G A s.heap H locs (wm ++ (wO G o f ++ wx))) (hl : lv_has ls 8 [(0, .ref b), (1, .ref x0), (2, .ref m0), (3, .ref o), (4, .int (nI i))]) (hem : wm[0]? = some (m0, .inr (4, fm))) (hem' : wm'[0]? = some (m0, .inr (4, fm')))
    (hcells : cells + 1 ≤ 600000) (hslots : slots + 6 ≤ 7000000)
    (h1 : xMy l yL_cut wsL_cut rmL [.ref x0, .int (xs (i + 1))] G sa ([] ++ wx) k ([] ++ wx'))
    (hR : rm9.frames ≤ 30 ∧ rm9.locals ≤ 900 ∧ rm9.cells = 0 ∧ rm9.slots = 0) (h2 : xMv l yX4_cut wsX4_cut rm9 [.ref m0, .int (xs (i + 1))] G wm wm' 0 0)
    (h3 : xMi l yX4_thrown wsX4_thrown { frames := 0, cells := 0, slots := 0, locals := 0 } [.ref m0] G wm' k wm' 0 0) (hv : f' = f)
    (kk : ∀ (H1 : Heap) (locs1 : List Loc) (ls1 : Array Slot), xH G A s.heap H1 locs1 (wm' ++ (wO G o f' ++ wx')) → lv_has ls1 8 [(0, .ref b), (1, .ref x0), (2, .ref m0), (3, .ref o), (4, .int (nI i))] → W p l e room_1 s m #[.ref b] below meth c H1 locs1 (cells + 1) (slots + 6) Q (F0 m 1044 ls1 [])) :
    W p l e room_1 s m #[.ref b] below meth c H locs cells slots Q (F0 m 212 ls []) := by
  subst hv
  refine lv_aload_n C.1 C.2.1 dL_law_212 rfl (lv_at hl 1 rfl) ?_
  refine lv_aload_n C.1 C.2.1 dL_law_213 rfl (lv_at hl 0 rfl) ?_
  refine lv_iload C.1 C.2.1 dL_law_214 (lv_at hl 4 rfl) ?_
  refine lv_iconst (v := nI 1) C.1 C.2.1 dL_law_216 (by decide) ?_
  refine lv_iadd C.1 C.2.1 dL_law_217 ?_
  refine x_toi (x_add i 1) ?_
  refine x_scr C hX9 hbl hbA hH (i + 1) (by omega) hL dL_law_218 ?_
  have hH := x_eqw (List.append_assoc wm (wO G o f') wx).symm hH
  refine x_cri (w1 := wm ++ wO G o f') (wc := wx) (wc' := wx') (vx_runSW (As := [.ref x0, .int (xs (i + 1))]) (rest := []) (x_fix C hml) (h1 _) (vx_cwSW 2 C.2.2.2.1 gL_law_L_cut rfl rfl rfl (by decide +kernel) ⟨Nat.le_of_ble_eq_true rfl, Nat.le_of_ble_eq_true rfl⟩) (x_psy C hX hN hZ hA (x_rt hH)) rfl rfl hl.1 rfl (lv_room (Nat.le_of_ble_eq_true rfl)) dL_law_219 ⟨by show cells + 1 ≤ 624656; omega, by show slots + 6 ≤ 7222135; omega⟩) hH hA (fun H locs hH => ?_)
  have hH := x_eqw (List.append_assoc wm (wO G o f') wx') hH
  refine lv_istore (lv' := [(5, .int k), (0, .ref b), (1, .ref x0), (2, .ref m0), (3, .ref o), (4, .int (nI i))]) C.1 C.2.1 dL_law_222 hl (by decide) rfl (fun ls hl => ?_)
  refine lv_aload_n C.1 C.2.1 dL_law_224 rfl (lv_at hl 3 rfl) ?_
  refine lv_aload_n C.1 C.2.1 dL_law_225 rfl (lv_at hl 1 rfl) ?_
  refine lv_iload C.1 C.2.1 dL_law_226 (lv_at hl 5 rfl) ?_
  refine lv_iconst (v := nI 1) C.1 C.2.1 dL_law_228 (by decide) ?_
  refine lv_iadd C.1 C.2.1 dL_law_229 ?_
  refine x_toi (x_add i 1) ?_
  refine x_scr C hX9 hbl hbA hH (i + 1) (by omega) hL dL_law_230 ?_
  refine x_clv (w2 := wO G o f' ++ wx') (wc := wm) (wc' := wm') (va_runV (As := [.int (xs (i + 1))]) (rest := []) (x_fix C hml) (h2 _) (cwV 1 C.2.2.2.1 gL_law_X4_cut rfl hR.2.2.1 hR.2.2.2 (by decide +kernel) ⟨by show rm9.frames + 1 ≤ 2048; omega, by show 8 + (2 + 11) + rm9.locals ≤ 84000; omega⟩) (x_pv C (x_lf hH) rfl hem rfl rfl) rfl rfl hl.1 rfl (lv_room (Nat.le_of_ble_eq_true rfl)) dL_law_231 ⟨by show cells + 1 + 0 ≤ 624656; omega, by show slots + 6 + 0 ≤ 7222135; omega⟩) hH hA (fun H locs hH => ?_)
  refine lv_aload_n C.1 C.2.1 dL_law_234 rfl (lv_at hl 3 rfl) ?_
  refine x_cli (w2 := wO G o f' ++ wx') (wc := wm') (wc' := wm') (va_runV (As := []) (rest := []) (x_fix C hml) (h3 _) (cwV 0 C.2.2.2.1 gL_law_X4_thrown rfl rfl rfl (by decide +kernel) ⟨Nat.le_of_ble_eq_true rfl, Nat.le_of_ble_eq_true rfl⟩) (x_pv C (x_lf hH) rfl hem' rfl rfl) rfl rfl hl.1 rfl (lv_room (Nat.le_of_ble_eq_true rfl)) dL_law_235 ⟨by show cells + 1 + 0 + 0 ≤ 624656; omega, by show slots + 6 + 0 + 0 ≤ 7222135; omega⟩) hH hA (fun H locs hH => ?_)
  refine lv_iload C.1 C.2.1 dL_law_238 (lv_at hl 0 rfl) ?_
  refine lv_icmp_eq (tgt := 245) C.1 C.2.1 dL_law_240 (by decide) (fun _ => ?_) (fun hne => absurd rfl hne)
  refine lv_goto (tgt := 1044) C.1 C.2.1 dL_law_245 (by decide) ?_
  exact kk _ _ _ hH (lv_sub hl [1, 2, 3, 4, 5] rfl)
set_option maxHeartbeats 1000000 in
set_option maxRecDepth 100000 in
theorem lc_source  (C : xC p c m s #[.ref b] cL_law RL wsL_law G) (hml : c.maxLocals = 8) (hX9 : va_X b L xs s s.heap) (hbl : b < s.heap.size) (hbA : ¬ A b) (hA : ∀ q, s.heap.size ≤ q → A q) (hX : xX sa s) (hN : xN s) (hZ : xZ A s s.heap) (hi : i + 5 ≤ L) (hL : L ≤ 2560)
    (hH : xH G A s.heap H locs (wm ++ (wO G o f ++ wx))) (hl : lv_has ls 8 [(0, .ref b), (1, .ref x0), (2, .ref m0), (3, .ref o), (4, .int (nI i))]) (hem : wm[0]? = some (m0, .inr (4, fm))) (hem' : wm'[0]? = some (m0, .inr (4, fm')))
    (hcells : cells + 1 ≤ 600000) (hslots : slots + 6 ≤ 7000000)
    (h1 : xMy l yL_source wsL_source rmL [.ref x0, .int (xs (i + 1)), .int (xs (i + 2))] G sa ([] ++ wx) k ([] ++ wx'))
    (hR : rm9.frames ≤ 30 ∧ rm9.locals ≤ 900 ∧ rm9.cells = 0 ∧ rm9.slots = 0) (h2 : xMv l yX4_source wsX4_source rm9 [.ref m0, .int (xs (i + 1)), .int (xs (i + 2))] G wm wm' 0 0)
    (h3 : xMi l yX4_thrown wsX4_thrown { frames := 0, cells := 0, slots := 0, locals := 0 } [.ref m0] G wm' k wm' 0 0) (hv : f' = f)
    (kk : ∀ (H1 : Heap) (locs1 : List Loc) (ls1 : Array Slot), xH G A s.heap H1 locs1 (wm' ++ (wO G o f' ++ wx')) → lv_has ls1 8 [(0, .ref b), (1, .ref x0), (2, .ref m0), (3, .ref o), (4, .int (nI i))] → W p l e room_1 s m #[.ref b] below meth c H1 locs1 (cells + 1) (slots + 6) Q (F0 m 1044 ls1 [])) :
    W p l e room_1 s m #[.ref b] below meth c H locs cells slots Q (F0 m 248 ls []) := by
  subst hv
  refine lv_aload_n C.1 C.2.1 dL_law_248 rfl (lv_at hl 1 rfl) ?_
  refine lv_aload_n C.1 C.2.1 dL_law_249 rfl (lv_at hl 0 rfl) ?_
  refine lv_iload C.1 C.2.1 dL_law_250 (lv_at hl 4 rfl) ?_
  refine lv_iconst (v := nI 1) C.1 C.2.1 dL_law_252 (by decide) ?_
  refine lv_iadd C.1 C.2.1 dL_law_253 ?_
  refine x_toi (x_add i 1) ?_
  refine x_scr C hX9 hbl hbA hH (i + 1) (by omega) hL dL_law_254 ?_
  refine lv_aload_n C.1 C.2.1 dL_law_255 rfl (lv_at hl 0 rfl) ?_
  refine lv_iload C.1 C.2.1 dL_law_256 (lv_at hl 4 rfl) ?_
  refine lv_iconst (v := nI 2) C.1 C.2.1 dL_law_258 (by decide) ?_
  refine lv_iadd C.1 C.2.1 dL_law_259 ?_
  refine x_toi (x_add i 2) ?_
  refine x_scr C hX9 hbl hbA hH (i + 2) (by omega) hL dL_law_260 ?_
  have hH := x_eqw (List.append_assoc wm (wO G o f') wx).symm hH
  refine x_cri (w1 := wm ++ wO G o f') (wc := wx) (wc' := wx') (vx_runSW (As := [.ref x0, .int (xs (i + 1)), .int (xs (i + 2))]) (rest := []) (x_fix C hml) (h1 _) (vx_cwSW 3 C.2.2.2.1 gL_law_L_source rfl rfl rfl (by decide +kernel) ⟨Nat.le_of_ble_eq_true rfl, Nat.le_of_ble_eq_true rfl⟩) (x_psy C hX hN hZ hA (x_rt hH)) rfl rfl hl.1 rfl (lv_room (Nat.le_of_ble_eq_true rfl)) dL_law_261 ⟨by show cells + 1 ≤ 624656; omega, by show slots + 6 ≤ 7222135; omega⟩) hH hA (fun H locs hH => ?_)
  have hH := x_eqw (List.append_assoc wm (wO G o f') wx') hH
  refine lv_istore (lv' := [(5, .int k), (0, .ref b), (1, .ref x0), (2, .ref m0), (3, .ref o), (4, .int (nI i))]) C.1 C.2.1 dL_law_264 hl (by decide) rfl (fun ls hl => ?_)
  refine lv_aload_n C.1 C.2.1 dL_law_266 rfl (lv_at hl 3 rfl) ?_
  refine lv_aload_n C.1 C.2.1 dL_law_267 rfl (lv_at hl 1 rfl) ?_
  refine lv_iload C.1 C.2.1 dL_law_268 (lv_at hl 5 rfl) ?_
  refine lv_iconst (v := nI 1) C.1 C.2.1 dL_law_270 (by decide) ?_
  refine lv_iadd C.1 C.2.1 dL_law_271 ?_
  refine x_toi (x_add i 1) ?_
  refine x_scr C hX9 hbl hbA hH (i + 1) (by omega) hL dL_law_272 ?_
  refine lv_aload_n C.1 C.2.1 dL_law_273 rfl (lv_at hl 1 rfl) ?_
  refine lv_iload C.1 C.2.1 dL_law_274 (lv_at hl 5 rfl) ?_
  refine lv_iconst (v := nI 2) C.1 C.2.1 dL_law_276 (by decide) ?_
  refine lv_iadd C.1 C.2.1 dL_law_277 ?_
  refine x_toi (x_add i 2) ?_
  refine x_scr C hX9 hbl hbA hH (i + 2) (by omega) hL dL_law_278 ?_
  refine x_clv (w2 := wO G o f' ++ wx') (wc := wm) (wc' := wm') (va_runV (As := [.int (xs (i + 1)), .int (xs (i + 2))]) (rest := []) (x_fix C hml) (h2 _) (cwV 2 C.2.2.2.1 gL_law_X4_source rfl hR.2.2.1 hR.2.2.2 (by decide +kernel) ⟨by show rm9.frames + 1 ≤ 2048; omega, by show 8 + (3 + 11) + rm9.locals ≤ 84000; omega⟩) (x_pv C (x_lf hH) rfl hem rfl rfl) rfl rfl hl.1 rfl (lv_room (Nat.le_of_ble_eq_true rfl)) dL_law_279 ⟨by show cells + 1 + 0 ≤ 624656; omega, by show slots + 6 + 0 ≤ 7222135; omega⟩) hH hA (fun H locs hH => ?_)
  refine lv_aload_n C.1 C.2.1 dL_law_282 rfl (lv_at hl 3 rfl) ?_
  refine x_cli (w2 := wO G o f' ++ wx') (wc := wm') (wc' := wm') (va_runV (As := []) (rest := []) (x_fix C hml) (h3 _) (cwV 0 C.2.2.2.1 gL_law_X4_thrown rfl rfl rfl (by decide +kernel) ⟨Nat.le_of_ble_eq_true rfl, Nat.le_of_ble_eq_true rfl⟩) (x_pv C (x_lf hH) rfl hem' rfl rfl) rfl rfl hl.1 rfl (lv_room (Nat.le_of_ble_eq_true rfl)) dL_law_283 ⟨by show cells + 1 + 0 + 0 ≤ 624656; omega, by show slots + 6 + 0 + 0 ≤ 7222135; omega⟩) hH hA (fun H locs hH => ?_)
  refine lv_iload C.1 C.2.1 dL_law_286 (lv_at hl 0 rfl) ?_
  refine lv_icmp_eq (tgt := 293) C.1 C.2.1 dL_law_288 (by decide) (fun _ => ?_) (fun hne => absurd rfl hne)
  refine lv_goto (tgt := 1044) C.1 C.2.1 dL_law_293 (by decide) ?_
  exact kk _ _ _ hH (lv_sub hl [1, 2, 3, 4, 5] rfl)
set_option maxHeartbeats 1000000 in
set_option maxRecDepth 100000 in
theorem lc_wires  (C : xC p c m s #[.ref b] cL_law RL wsL_law G) (hml : c.maxLocals = 8) (hX9 : va_X b L xs s s.heap) (hbl : b < s.heap.size) (hbA : ¬ A b) (hA : ∀ q, s.heap.size ≤ q → A q) (hX : xX sa s) (hN : xN s) (hZ : xZ A s s.heap) (hi : i + 5 ≤ L) (hL : L ≤ 2560)
    (hH : xH G A s.heap H locs (wm ++ (wO G o f ++ wx))) (hl : lv_has ls 8 [(0, .ref b), (1, .ref x0), (2, .ref m0), (3, .ref o), (4, .int (nI i))]) (hem : wm[0]? = some (m0, .inr (4, fm))) (hem' : wm'[0]? = some (m0, .inr (4, fm')))
    (hcells : cells + 1 ≤ 600000) (hslots : slots + 6 ≤ 7000000)
    (h1 : xMy l yL_wires wsL_wires rmL [.ref x0, .int (xs (i + 1)), .int (xs (i + 2))] G sa ([] ++ wx) k ([] ++ wx'))
    (hR : rm9.frames ≤ 30 ∧ rm9.locals ≤ 900 ∧ rm9.cells = 0 ∧ rm9.slots = 0) (h2 : xMv l yX4_wires wsX4_wires rm9 [.ref m0, .int (xs (i + 1)), .int (xs (i + 2))] G wm wm' 0 0)
    (h3 : xMi l yX4_thrown wsX4_thrown { frames := 0, cells := 0, slots := 0, locals := 0 } [.ref m0] G wm' k wm' 0 0) (hv : f' = f)
    (kk : ∀ (H1 : Heap) (locs1 : List Loc) (ls1 : Array Slot), xH G A s.heap H1 locs1 (wm' ++ (wO G o f' ++ wx')) → lv_has ls1 8 [(0, .ref b), (1, .ref x0), (2, .ref m0), (3, .ref o), (4, .int (nI i))] → W p l e room_1 s m #[.ref b] below meth c H1 locs1 (cells + 1) (slots + 6) Q (F0 m 1044 ls1 [])) :
    W p l e room_1 s m #[.ref b] below meth c H locs cells slots Q (F0 m 296 ls []) := by
  subst hv
  refine lv_aload_n C.1 C.2.1 dL_law_296 rfl (lv_at hl 1 rfl) ?_
  refine lv_aload_n C.1 C.2.1 dL_law_297 rfl (lv_at hl 0 rfl) ?_
  refine lv_iload C.1 C.2.1 dL_law_298 (lv_at hl 4 rfl) ?_
  refine lv_iconst (v := nI 1) C.1 C.2.1 dL_law_300 (by decide) ?_
  refine lv_iadd C.1 C.2.1 dL_law_301 ?_
  refine x_toi (x_add i 1) ?_
  refine x_scr C hX9 hbl hbA hH (i + 1) (by omega) hL dL_law_302 ?_
  refine lv_aload_n C.1 C.2.1 dL_law_303 rfl (lv_at hl 0 rfl) ?_
  refine lv_iload C.1 C.2.1 dL_law_304 (lv_at hl 4 rfl) ?_
  refine lv_iconst (v := nI 2) C.1 C.2.1 dL_law_306 (by decide) ?_
  refine lv_iadd C.1 C.2.1 dL_law_307 ?_
  refine x_toi (x_add i 2) ?_
  refine x_scr C hX9 hbl hbA hH (i + 2) (by omega) hL dL_law_308 ?_
  have hH := x_eqw (List.append_assoc wm (wO G o f') wx).symm hH
  refine x_cri (w1 := wm ++ wO G o f') (wc := wx) (wc' := wx') (vx_runSW (As := [.ref x0, .int (xs (i + 1)), .int (xs (i + 2))]) (rest := []) (x_fix C hml) (h1 _) (vx_cwSW 3 C.2.2.2.1 gL_law_L_wires rfl rfl rfl (by decide +kernel) ⟨Nat.le_of_ble_eq_true rfl, Nat.le_of_ble_eq_true rfl⟩) (x_psy C hX hN hZ hA (x_rt hH)) rfl rfl hl.1 rfl (lv_room (Nat.le_of_ble_eq_true rfl)) dL_law_309 ⟨by show cells + 1 ≤ 624656; omega, by show slots + 6 ≤ 7222135; omega⟩) hH hA (fun H locs hH => ?_)
  have hH := x_eqw (List.append_assoc wm (wO G o f') wx') hH
  refine lv_istore (lv' := [(5, .int k), (0, .ref b), (1, .ref x0), (2, .ref m0), (3, .ref o), (4, .int (nI i))]) C.1 C.2.1 dL_law_312 hl (by decide) rfl (fun ls hl => ?_)
  refine lv_aload_n C.1 C.2.1 dL_law_314 rfl (lv_at hl 3 rfl) ?_
  refine lv_aload_n C.1 C.2.1 dL_law_315 rfl (lv_at hl 1 rfl) ?_
  refine lv_iload C.1 C.2.1 dL_law_316 (lv_at hl 5 rfl) ?_
  refine lv_iconst (v := nI 1) C.1 C.2.1 dL_law_318 (by decide) ?_
  refine lv_iadd C.1 C.2.1 dL_law_319 ?_
  refine x_toi (x_add i 1) ?_
  refine x_scr C hX9 hbl hbA hH (i + 1) (by omega) hL dL_law_320 ?_
  refine lv_aload_n C.1 C.2.1 dL_law_321 rfl (lv_at hl 1 rfl) ?_
  refine lv_iload C.1 C.2.1 dL_law_322 (lv_at hl 5 rfl) ?_
  refine lv_iconst (v := nI 2) C.1 C.2.1 dL_law_324 (by decide) ?_
  refine lv_iadd C.1 C.2.1 dL_law_325 ?_
  refine x_toi (x_add i 2) ?_
  refine x_scr C hX9 hbl hbA hH (i + 2) (by omega) hL dL_law_326 ?_
  refine x_clv (w2 := wO G o f' ++ wx') (wc := wm) (wc' := wm') (va_runV (As := [.int (xs (i + 1)), .int (xs (i + 2))]) (rest := []) (x_fix C hml) (h2 _) (cwV 2 C.2.2.2.1 gL_law_X4_wires rfl hR.2.2.1 hR.2.2.2 (by decide +kernel) ⟨by show rm9.frames + 1 ≤ 2048; omega, by show 8 + (3 + 11) + rm9.locals ≤ 84000; omega⟩) (x_pv C (x_lf hH) rfl hem rfl rfl) rfl rfl hl.1 rfl (lv_room (Nat.le_of_ble_eq_true rfl)) dL_law_327 ⟨by show cells + 1 + 0 ≤ 624656; omega, by show slots + 6 + 0 ≤ 7222135; omega⟩) hH hA (fun H locs hH => ?_)
  refine lv_aload_n C.1 C.2.1 dL_law_330 rfl (lv_at hl 3 rfl) ?_
  refine x_cli (w2 := wO G o f' ++ wx') (wc := wm') (wc' := wm') (va_runV (As := []) (rest := []) (x_fix C hml) (h3 _) (cwV 0 C.2.2.2.1 gL_law_X4_thrown rfl rfl rfl (by decide +kernel) ⟨Nat.le_of_ble_eq_true rfl, Nat.le_of_ble_eq_true rfl⟩) (x_pv C (x_lf hH) rfl hem' rfl rfl) rfl rfl hl.1 rfl (lv_room (Nat.le_of_ble_eq_true rfl)) dL_law_331 ⟨by show cells + 1 + 0 + 0 ≤ 624656; omega, by show slots + 6 + 0 + 0 ≤ 7222135; omega⟩) hH hA (fun H locs hH => ?_)
  refine lv_iload C.1 C.2.1 dL_law_334 (lv_at hl 0 rfl) ?_
  refine lv_icmp_eq (tgt := 341) C.1 C.2.1 dL_law_336 (by decide) (fun _ => ?_) (fun hne => absurd rfl hne)
  refine lv_goto (tgt := 1044) C.1 C.2.1 dL_law_341 (by decide) ?_
  exact kk _ _ _ hH (lv_sub hl [1, 2, 3, 4, 5] rfl)
set_option maxHeartbeats 1000000 in
set_option maxRecDepth 100000 in
theorem lc_buffer  (C : xC p c m s #[.ref b] cL_law RL wsL_law G) (hml : c.maxLocals = 8) (hX9 : va_X b L xs s s.heap) (hbl : b < s.heap.size) (hbA : ¬ A b) (hA : ∀ q, s.heap.size ≤ q → A q) (hX : xX sa s) (hN : xN s) (hZ : xZ A s s.heap) (hi : i + 5 ≤ L) (hL : L ≤ 2560)
    (hH : xH G A s.heap H locs (wm ++ (wO G o f ++ wx))) (hl : lv_has ls 8 [(0, .ref b), (1, .ref x0), (2, .ref m0), (3, .ref o), (4, .int (nI i))]) (hem : wm[0]? = some (m0, .inr (4, fm))) (hem' : wm'[0]? = some (m0, .inr (4, fm')))
    (hcells : cells + 1 ≤ 600000) (hslots : slots + 6 ≤ 7000000)
    (h1 : xMy l yL_buffer wsL_buffer rmL [.ref x0, .int (xs (i + 1)), .int (xs (i + 2)), .int (xs (i + 3))] G sa ([] ++ wx) k ([] ++ wx'))
    (hR : rm9.frames ≤ 30 ∧ rm9.locals ≤ 900 ∧ rm9.cells = 0 ∧ rm9.slots = 0) (h2 : xMv l yX4_buffer wsX4_buffer rm9 [.ref m0, .int (xs (i + 1)), .int (xs (i + 2)), .int (xs (i + 3))] G wm wm' 0 0)
    (h3 : xMi l yX4_thrown wsX4_thrown { frames := 0, cells := 0, slots := 0, locals := 0 } [.ref m0] G wm' k wm' 0 0) (hv : f' = f)
    (kk : ∀ (H1 : Heap) (locs1 : List Loc) (ls1 : Array Slot), xH G A s.heap H1 locs1 (wm' ++ (wO G o f' ++ wx')) → lv_has ls1 8 [(0, .ref b), (1, .ref x0), (2, .ref m0), (3, .ref o), (4, .int (nI i))] → W p l e room_1 s m #[.ref b] below meth c H1 locs1 (cells + 1) (slots + 6) Q (F0 m 1044 ls1 [])) :
    W p l e room_1 s m #[.ref b] below meth c H locs cells slots Q (F0 m 344 ls []) := by
  subst hv
  refine lv_aload_n C.1 C.2.1 dL_law_344 rfl (lv_at hl 1 rfl) ?_
  refine lv_aload_n C.1 C.2.1 dL_law_345 rfl (lv_at hl 0 rfl) ?_
  refine lv_iload C.1 C.2.1 dL_law_346 (lv_at hl 4 rfl) ?_
  refine lv_iconst (v := nI 1) C.1 C.2.1 dL_law_348 (by decide) ?_
  refine lv_iadd C.1 C.2.1 dL_law_349 ?_
  refine x_toi (x_add i 1) ?_
  refine x_scr C hX9 hbl hbA hH (i + 1) (by omega) hL dL_law_350 ?_
  refine lv_aload_n C.1 C.2.1 dL_law_351 rfl (lv_at hl 0 rfl) ?_
  refine lv_iload C.1 C.2.1 dL_law_352 (lv_at hl 4 rfl) ?_
  refine lv_iconst (v := nI 2) C.1 C.2.1 dL_law_354 (by decide) ?_
  refine lv_iadd C.1 C.2.1 dL_law_355 ?_
  refine x_toi (x_add i 2) ?_
  refine x_scr C hX9 hbl hbA hH (i + 2) (by omega) hL dL_law_356 ?_
  refine lv_aload_n C.1 C.2.1 dL_law_357 rfl (lv_at hl 0 rfl) ?_
  refine lv_iload C.1 C.2.1 dL_law_358 (lv_at hl 4 rfl) ?_
  refine lv_iconst (v := nI 3) C.1 C.2.1 dL_law_360 (by decide) ?_
  refine lv_iadd C.1 C.2.1 dL_law_361 ?_
  refine x_toi (x_add i 3) ?_
  refine x_scr C hX9 hbl hbA hH (i + 3) (by omega) hL dL_law_362 ?_
  have hH := x_eqw (List.append_assoc wm (wO G o f') wx).symm hH
  refine x_cri (w1 := wm ++ wO G o f') (wc := wx) (wc' := wx') (vx_runSW (As := [.ref x0, .int (xs (i + 1)), .int (xs (i + 2)), .int (xs (i + 3))]) (rest := []) (x_fix C hml) (h1 _) (vx_cwSW 4 C.2.2.2.1 gL_law_L_buffer rfl rfl rfl (by decide +kernel) ⟨Nat.le_of_ble_eq_true rfl, Nat.le_of_ble_eq_true rfl⟩) (x_psy C hX hN hZ hA (x_rt hH)) rfl rfl hl.1 rfl (lv_room (Nat.le_of_ble_eq_true rfl)) dL_law_363 ⟨by show cells + 1 ≤ 624656; omega, by show slots + 6 ≤ 7222135; omega⟩) hH hA (fun H locs hH => ?_)
  have hH := x_eqw (List.append_assoc wm (wO G o f') wx') hH
  refine lv_istore (lv' := [(5, .int k), (0, .ref b), (1, .ref x0), (2, .ref m0), (3, .ref o), (4, .int (nI i))]) C.1 C.2.1 dL_law_366 hl (by decide) rfl (fun ls hl => ?_)
  refine lv_aload_n C.1 C.2.1 dL_law_368 rfl (lv_at hl 3 rfl) ?_
  refine lv_aload_n C.1 C.2.1 dL_law_369 rfl (lv_at hl 1 rfl) ?_
  refine lv_iload C.1 C.2.1 dL_law_370 (lv_at hl 5 rfl) ?_
  refine lv_iconst (v := nI 1) C.1 C.2.1 dL_law_372 (by decide) ?_
  refine lv_iadd C.1 C.2.1 dL_law_373 ?_
  refine x_toi (x_add i 1) ?_
  refine x_scr C hX9 hbl hbA hH (i + 1) (by omega) hL dL_law_374 ?_
  refine lv_aload_n C.1 C.2.1 dL_law_375 rfl (lv_at hl 1 rfl) ?_
  refine lv_iload C.1 C.2.1 dL_law_376 (lv_at hl 5 rfl) ?_
  refine lv_iconst (v := nI 2) C.1 C.2.1 dL_law_378 (by decide) ?_
  refine lv_iadd C.1 C.2.1 dL_law_379 ?_
  refine x_toi (x_add i 2) ?_
  refine x_scr C hX9 hbl hbA hH (i + 2) (by omega) hL dL_law_380 ?_
  refine lv_aload_n C.1 C.2.1 dL_law_381 rfl (lv_at hl 1 rfl) ?_
  refine lv_iload C.1 C.2.1 dL_law_382 (lv_at hl 5 rfl) ?_
  refine lv_iconst (v := nI 3) C.1 C.2.1 dL_law_384 (by decide) ?_
  refine lv_iadd C.1 C.2.1 dL_law_385 ?_
  refine x_toi (x_add i 3) ?_
  refine x_scr C hX9 hbl hbA hH (i + 3) (by omega) hL dL_law_386 ?_
  refine x_clv (w2 := wO G o f' ++ wx') (wc := wm) (wc' := wm') (va_runV (As := [.int (xs (i + 1)), .int (xs (i + 2)), .int (xs (i + 3))]) (rest := []) (x_fix C hml) (h2 _) (cwV 3 C.2.2.2.1 gL_law_X4_buffer rfl hR.2.2.1 hR.2.2.2 (by decide +kernel) ⟨by show rm9.frames + 1 ≤ 2048; omega, by show 8 + (4 + 11) + rm9.locals ≤ 84000; omega⟩) (x_pv C (x_lf hH) rfl hem rfl rfl) rfl rfl hl.1 rfl (lv_room (Nat.le_of_ble_eq_true rfl)) dL_law_387 ⟨by show cells + 1 + 0 ≤ 624656; omega, by show slots + 6 + 0 ≤ 7222135; omega⟩) hH hA (fun H locs hH => ?_)
  refine lv_aload_n C.1 C.2.1 dL_law_390 rfl (lv_at hl 3 rfl) ?_
  refine x_cli (w2 := wO G o f' ++ wx') (wc := wm') (wc' := wm') (va_runV (As := []) (rest := []) (x_fix C hml) (h3 _) (cwV 0 C.2.2.2.1 gL_law_X4_thrown rfl rfl rfl (by decide +kernel) ⟨Nat.le_of_ble_eq_true rfl, Nat.le_of_ble_eq_true rfl⟩) (x_pv C (x_lf hH) rfl hem' rfl rfl) rfl rfl hl.1 rfl (lv_room (Nat.le_of_ble_eq_true rfl)) dL_law_391 ⟨by show cells + 1 + 0 + 0 ≤ 624656; omega, by show slots + 6 + 0 + 0 ≤ 7222135; omega⟩) hH hA (fun H locs hH => ?_)
  refine lv_iload C.1 C.2.1 dL_law_394 (lv_at hl 0 rfl) ?_
  refine lv_icmp_eq (tgt := 401) C.1 C.2.1 dL_law_396 (by decide) (fun _ => ?_) (fun hne => absurd rfl hne)
  refine lv_goto (tgt := 1044) C.1 C.2.1 dL_law_401 (by decide) ?_
  exact kk _ _ _ hH (lv_sub hl [1, 2, 3, 4, 5] rfl)
set_option maxHeartbeats 1000000 in
set_option maxRecDepth 100000 in
theorem lc_build {rb : Int32} (C : xC p c m s #[.ref b] cL_law RL wsL_law G) (hml : c.maxLocals = 8) (hX9 : va_X b L xs s s.heap) (hbl : b < s.heap.size) (hbA : ¬ A b) (hA : ∀ q, s.heap.size ≤ q → A q) (hX : xX sa s) (hN : xN s) (hZ : xZ A s s.heap) (hi : i + 5 ≤ L) (hL : L ≤ 2560)
    (hH : xH G A s.heap H locs (wm ++ (wO G o f ++ wx))) (hl : lv_has ls 8 [(0, .ref b), (1, .ref x0), (2, .ref m0), (3, .ref o), (4, .int (nI i))]) (hem : wm[0]? = some (m0, .inr (4, fm))) (hem' : wm'[0]? = some (m0, .inr (4, fm')))
    (hcells : cells + 1 ≤ 600000) (hslots : slots + 6 ≤ 7000000)
    (h1 : xMy l yL_build wsL_build rmL [.ref x0, .int (xs (i + 1)), .ref o] G sa (wO G o f ++ wx) k (wO G o f' ++ wx'))
    (hR : rm9.frames ≤ 30 ∧ rm9.locals ≤ 900 ∧ rm9.cells = 0 ∧ rm9.slots = 0) (h2 : xMi l yX4_build wsX4_build rm9 [.ref m0, .int (xs (i + 1))] G wm rb wm' 0 0)
    (h3 : xMi l yX4_thrown wsX4_thrown { frames := 0, cells := 0, slots := 0, locals := 0 } [.ref m0] G wm' k wm' 0 0) (hv : k = 0 → f' 0 = rb.toInt64)
    (kk : ∀ (H1 : Heap) (locs1 : List Loc) (ls1 : Array Slot), xH G A s.heap H1 locs1 (wm' ++ (wO G o f' ++ wx')) → lv_has ls1 8 [(0, .ref b), (1, .ref x0), (2, .ref m0), (3, .ref o), (4, .int (nI i))] → W p l e room_1 s m #[.ref b] below meth c H1 locs1 (cells + 1) (slots + 6) Q (F0 m 1044 ls1 [])) :
    W p l e room_1 s m #[.ref b] below meth c H locs cells slots Q (F0 m 417 ls []) := by
  refine lv_aload_n C.1 C.2.1 dL_law_417 rfl (lv_at hl 1 rfl) ?_
  refine lv_aload_n C.1 C.2.1 dL_law_418 rfl (lv_at hl 0 rfl) ?_
  refine lv_iload C.1 C.2.1 dL_law_419 (lv_at hl 4 rfl) ?_
  refine lv_iconst (v := nI 1) C.1 C.2.1 dL_law_421 (by decide) ?_
  refine lv_iadd C.1 C.2.1 dL_law_422 ?_
  refine x_toi (x_add i 1) ?_
  refine x_scr C hX9 hbl hbA hH (i + 1) (by omega) hL dL_law_423 ?_
  refine lv_aload_n C.1 C.2.1 dL_law_424 rfl (lv_at hl 3 rfl) ?_
  refine x_cri (w1 := wm) (wc := wO G o f ++ wx) (wc' := wO G o f' ++ wx') (vx_runSW (As := [.ref x0, .int (xs (i + 1)), .ref o]) (rest := []) (x_fix C hml) (h1 _) (vx_cwSW 3 C.2.2.2.1 gL_law_L_build rfl rfl rfl (by decide +kernel) ⟨Nat.le_of_ble_eq_true rfl, Nat.le_of_ble_eq_true rfl⟩) (x_psy C hX hN hZ hA (x_rt hH)) rfl rfl hl.1 rfl (lv_room (Nat.le_of_ble_eq_true rfl)) dL_law_425 ⟨by show cells + 1 ≤ 624656; omega, by show slots + 6 ≤ 7222135; omega⟩) hH hA (fun H locs hH => ?_)
  refine lv_istore (lv' := [(5, .int k), (0, .ref b), (1, .ref x0), (2, .ref m0), (3, .ref o), (4, .int (nI i))]) C.1 C.2.1 dL_law_428 hl (by decide) rfl (fun ls hl => ?_)
  refine lv_aload_n C.1 C.2.1 dL_law_430 rfl (lv_at hl 3 rfl) ?_
  refine lv_aload_n C.1 C.2.1 dL_law_431 rfl (lv_at hl 1 rfl) ?_
  refine lv_iload C.1 C.2.1 dL_law_432 (lv_at hl 5 rfl) ?_
  refine lv_iconst (v := nI 1) C.1 C.2.1 dL_law_434 (by decide) ?_
  refine lv_iadd C.1 C.2.1 dL_law_435 ?_
  refine x_toi (x_add i 1) ?_
  refine x_scr C hX9 hbl hbA hH (i + 1) (by omega) hL dL_law_436 ?_
  refine x_cli (w2 := wO G o f' ++ wx') (wc := wm) (wc' := wm') (va_runV (As := [.int (xs (i + 1))]) (rest := []) (x_fix C hml) (h2 _) (cwV 1 C.2.2.2.1 gL_law_X4_build rfl hR.2.2.1 hR.2.2.2 (by decide +kernel) ⟨by show rm9.frames + 1 ≤ 2048; omega, by show 8 + (2 + 11) + rm9.locals ≤ 84000; omega⟩) (x_pv C (x_lf hH) rfl hem rfl rfl) rfl rfl hl.1 rfl (lv_room (Nat.le_of_ble_eq_true rfl)) dL_law_437 ⟨by show cells + 1 + 0 ≤ 624656; omega, by show slots + 6 + 0 ≤ 7222135; omega⟩) hH hA (fun H locs hH => ?_)
  refine lv_istore (lv' := [(6, .int rb), (5, .int k), (0, .ref b), (1, .ref x0), (2, .ref m0), (3, .ref o), (4, .int (nI i))]) C.1 C.2.1 dL_law_440 hl (by decide) rfl (fun ls hl => ?_)
  refine lv_aload_n C.1 C.2.1 dL_law_442 rfl (lv_at hl 4 rfl) ?_
  refine x_cli (w2 := wO G o f' ++ wx') (wc := wm') (wc' := wm') (va_runV (As := []) (rest := []) (x_fix C hml) (h3 _) (cwV 0 C.2.2.2.1 gL_law_X4_thrown rfl rfl rfl (by decide +kernel) ⟨Nat.le_of_ble_eq_true rfl, Nat.le_of_ble_eq_true rfl⟩) (x_pv C (x_lf hH) rfl hem' rfl rfl) rfl rfl hl.1 rfl (lv_room (Nat.le_of_ble_eq_true rfl)) dL_law_443 ⟨by show cells + 1 + 0 + 0 ≤ 624656; omega, by show slots + 6 + 0 + 0 ≤ 7222135; omega⟩) hH hA (fun H locs hH => ?_)
  refine lv_iload C.1 C.2.1 dL_law_446 (lv_at hl 1 rfl) ?_
  refine lv_icmp_eq (tgt := 453) C.1 C.2.1 dL_law_448 (by decide) (fun _ => ?_) (fun hne => absurd rfl hne)
  refine lv_iload C.1 C.2.1 dL_law_453 (lv_at hl 1 rfl) ?_
  refine lv_if_ne (tgt := 470) C.1 C.2.1 dL_law_455 (by decide) (fun h0 => ?_) (fun h0 => ?_)
  · refine lv_goto (tgt := 1044) C.1 C.2.1 dL_law_470 (by decide) ?_
    exact kk _ _ _ hH (lv_sub hl [2, 3, 4, 5, 6] rfl)
  · skip
    refine lv_aload_n C.1 C.2.1 dL_law_458 rfl (lv_at hl 5 rfl) ?_
    refine lv_iconst (v := nI 0) C.1 C.2.1 dL_law_459 (by decide) ?_
    have hH2 := x_rt hH
    refine x_lald C hH2 0 (b := o) (n := 1) (f := f') rfl (j := 0) (by decide) (by decide) rfl dL_law_460 ?_
    refine lv_iload C.1 C.2.1 dL_law_461 (lv_at hl 0 rfl) ?_
    refine lv_i2l (v := rb.toInt64) C.1 C.2.1 dL_law_463 rfl ?_
    refine x_lcmp_eq (tgt := 470) C.1 C.2.1 dL_law_464 dL_law_465 (by decide) (fun _ => ?_) (fun hne => absurd (hv h0) hne)
    refine lv_goto (tgt := 1044) C.1 C.2.1 dL_law_470 (by decide) ?_
    exact kk _ _ _ hH (lv_sub hl [2, 3, 4, 5, 6] rfl)
set_option maxHeartbeats 1000000 in
set_option maxRecDepth 100000 in
theorem lc_node {rb : Int32} (C : xC p c m s #[.ref b] cL_law RL wsL_law G) (hml : c.maxLocals = 8) (hX9 : va_X b L xs s s.heap) (hbl : b < s.heap.size) (hbA : ¬ A b) (hA : ∀ q, s.heap.size ≤ q → A q) (hX : xX sa s) (hN : xN s) (hZ : xZ A s s.heap) (hi : i + 5 ≤ L) (hL : L ≤ 2560)
    (hH : xH G A s.heap H locs (wm ++ (wO G o f ++ wx))) (hl : lv_has ls 8 [(0, .ref b), (1, .ref x0), (2, .ref m0), (3, .ref o), (4, .int (nI i))]) (hem : wm[0]? = some (m0, .inr (4, fm))) (hem' : wm'[0]? = some (m0, .inr (4, fm')))
    (hcells : cells + 1 ≤ 600000) (hslots : slots + 6 ≤ 7000000)
    (h1 : xMy l yL_node wsL_node rmL [.ref x0, .int (xs (i + 1)), .int (xs (i + 2)), .ref o] G sa (wO G o f ++ wx) k (wO G o f' ++ wx'))
    (hR : rm9.frames ≤ 30 ∧ rm9.locals ≤ 900 ∧ rm9.cells = 0 ∧ rm9.slots = 0) (h2 : xMi l yX4_node wsX4_node rm9 [.ref m0, .int (xs (i + 1)), .int (xs (i + 2))] G wm rb wm' 0 0)
    (h3 : xMi l yX4_thrown wsX4_thrown { frames := 0, cells := 0, slots := 0, locals := 0 } [.ref m0] G wm' k wm' 0 0) (hv : k = 0 → f' 0 = rb.toInt64)
    (kk : ∀ (H1 : Heap) (locs1 : List Loc) (ls1 : Array Slot), xH G A s.heap H1 locs1 (wm' ++ (wO G o f' ++ wx')) → lv_has ls1 8 [(0, .ref b), (1, .ref x0), (2, .ref m0), (3, .ref o), (4, .int (nI i))] → W p l e room_1 s m #[.ref b] below meth c H1 locs1 (cells + 1) (slots + 6) Q (F0 m 1044 ls1 [])) :
    W p l e room_1 s m #[.ref b] below meth c H locs cells slots Q (F0 m 473 ls []) := by
  refine lv_aload_n C.1 C.2.1 dL_law_473 rfl (lv_at hl 1 rfl) ?_
  refine lv_aload_n C.1 C.2.1 dL_law_474 rfl (lv_at hl 0 rfl) ?_
  refine lv_iload C.1 C.2.1 dL_law_475 (lv_at hl 4 rfl) ?_
  refine lv_iconst (v := nI 1) C.1 C.2.1 dL_law_477 (by decide) ?_
  refine lv_iadd C.1 C.2.1 dL_law_478 ?_
  refine x_toi (x_add i 1) ?_
  refine x_scr C hX9 hbl hbA hH (i + 1) (by omega) hL dL_law_479 ?_
  refine lv_aload_n C.1 C.2.1 dL_law_480 rfl (lv_at hl 0 rfl) ?_
  refine lv_iload C.1 C.2.1 dL_law_481 (lv_at hl 4 rfl) ?_
  refine lv_iconst (v := nI 2) C.1 C.2.1 dL_law_483 (by decide) ?_
  refine lv_iadd C.1 C.2.1 dL_law_484 ?_
  refine x_toi (x_add i 2) ?_
  refine x_scr C hX9 hbl hbA hH (i + 2) (by omega) hL dL_law_485 ?_
  refine lv_aload_n C.1 C.2.1 dL_law_486 rfl (lv_at hl 3 rfl) ?_
  refine x_cri (w1 := wm) (wc := wO G o f ++ wx) (wc' := wO G o f' ++ wx') (vx_runSW (As := [.ref x0, .int (xs (i + 1)), .int (xs (i + 2)), .ref o]) (rest := []) (x_fix C hml) (h1 _) (vx_cwSW 4 C.2.2.2.1 gL_law_L_node rfl rfl rfl (by decide +kernel) ⟨Nat.le_of_ble_eq_true rfl, Nat.le_of_ble_eq_true rfl⟩) (x_psy C hX hN hZ hA (x_rt hH)) rfl rfl hl.1 rfl (lv_room (Nat.le_of_ble_eq_true rfl)) dL_law_487 ⟨by show cells + 1 ≤ 624656; omega, by show slots + 6 ≤ 7222135; omega⟩) hH hA (fun H locs hH => ?_)
  refine lv_istore (lv' := [(5, .int k), (0, .ref b), (1, .ref x0), (2, .ref m0), (3, .ref o), (4, .int (nI i))]) C.1 C.2.1 dL_law_490 hl (by decide) rfl (fun ls hl => ?_)
  refine lv_aload_n C.1 C.2.1 dL_law_492 rfl (lv_at hl 3 rfl) ?_
  refine lv_aload_n C.1 C.2.1 dL_law_493 rfl (lv_at hl 1 rfl) ?_
  refine lv_iload C.1 C.2.1 dL_law_494 (lv_at hl 5 rfl) ?_
  refine lv_iconst (v := nI 1) C.1 C.2.1 dL_law_496 (by decide) ?_
  refine lv_iadd C.1 C.2.1 dL_law_497 ?_
  refine x_toi (x_add i 1) ?_
  refine x_scr C hX9 hbl hbA hH (i + 1) (by omega) hL dL_law_498 ?_
  refine lv_aload_n C.1 C.2.1 dL_law_499 rfl (lv_at hl 1 rfl) ?_
  refine lv_iload C.1 C.2.1 dL_law_500 (lv_at hl 5 rfl) ?_
  refine lv_iconst (v := nI 2) C.1 C.2.1 dL_law_502 (by decide) ?_
  refine lv_iadd C.1 C.2.1 dL_law_503 ?_
  refine x_toi (x_add i 2) ?_
  refine x_scr C hX9 hbl hbA hH (i + 2) (by omega) hL dL_law_504 ?_
  refine x_cli (w2 := wO G o f' ++ wx') (wc := wm) (wc' := wm') (va_runV (As := [.int (xs (i + 1)), .int (xs (i + 2))]) (rest := []) (x_fix C hml) (h2 _) (cwV 2 C.2.2.2.1 gL_law_X4_node rfl hR.2.2.1 hR.2.2.2 (by decide +kernel) ⟨by show rm9.frames + 1 ≤ 2048; omega, by show 8 + (3 + 11) + rm9.locals ≤ 84000; omega⟩) (x_pv C (x_lf hH) rfl hem rfl rfl) rfl rfl hl.1 rfl (lv_room (Nat.le_of_ble_eq_true rfl)) dL_law_505 ⟨by show cells + 1 + 0 ≤ 624656; omega, by show slots + 6 + 0 ≤ 7222135; omega⟩) hH hA (fun H locs hH => ?_)
  refine lv_istore (lv' := [(6, .int rb), (5, .int k), (0, .ref b), (1, .ref x0), (2, .ref m0), (3, .ref o), (4, .int (nI i))]) C.1 C.2.1 dL_law_508 hl (by decide) rfl (fun ls hl => ?_)
  refine lv_aload_n C.1 C.2.1 dL_law_510 rfl (lv_at hl 4 rfl) ?_
  refine x_cli (w2 := wO G o f' ++ wx') (wc := wm') (wc' := wm') (va_runV (As := []) (rest := []) (x_fix C hml) (h3 _) (cwV 0 C.2.2.2.1 gL_law_X4_thrown rfl rfl rfl (by decide +kernel) ⟨Nat.le_of_ble_eq_true rfl, Nat.le_of_ble_eq_true rfl⟩) (x_pv C (x_lf hH) rfl hem' rfl rfl) rfl rfl hl.1 rfl (lv_room (Nat.le_of_ble_eq_true rfl)) dL_law_511 ⟨by show cells + 1 + 0 + 0 ≤ 624656; omega, by show slots + 6 + 0 + 0 ≤ 7222135; omega⟩) hH hA (fun H locs hH => ?_)
  refine lv_iload C.1 C.2.1 dL_law_514 (lv_at hl 1 rfl) ?_
  refine lv_icmp_eq (tgt := 521) C.1 C.2.1 dL_law_516 (by decide) (fun _ => ?_) (fun hne => absurd rfl hne)
  refine lv_iload C.1 C.2.1 dL_law_521 (lv_at hl 1 rfl) ?_
  refine lv_if_ne (tgt := 538) C.1 C.2.1 dL_law_523 (by decide) (fun h0 => ?_) (fun h0 => ?_)
  · refine lv_goto (tgt := 1044) C.1 C.2.1 dL_law_538 (by decide) ?_
    exact kk _ _ _ hH (lv_sub hl [2, 3, 4, 5, 6] rfl)
  · skip
    refine lv_aload_n C.1 C.2.1 dL_law_526 rfl (lv_at hl 5 rfl) ?_
    refine lv_iconst (v := nI 0) C.1 C.2.1 dL_law_527 (by decide) ?_
    have hH2 := x_rt hH
    refine x_lald C hH2 0 (b := o) (n := 1) (f := f') rfl (j := 0) (by decide) (by decide) rfl dL_law_528 ?_
    refine lv_iload C.1 C.2.1 dL_law_529 (lv_at hl 0 rfl) ?_
    refine lv_i2l (v := rb.toInt64) C.1 C.2.1 dL_law_531 rfl ?_
    refine x_lcmp_eq (tgt := 538) C.1 C.2.1 dL_law_532 dL_law_533 (by decide) (fun _ => ?_) (fun hne => absurd (hv h0) hne)
    refine lv_goto (tgt := 1044) C.1 C.2.1 dL_law_538 (by decide) ?_
    exact kk _ _ _ hH (lv_sub hl [2, 3, 4, 5, 6] rfl)
set_option maxHeartbeats 1000000 in
set_option maxRecDepth 100000 in
theorem lc_length {rb : Int32} (C : xC p c m s #[.ref b] cL_law RL wsL_law G) (hml : c.maxLocals = 8) (hX9 : va_X b L xs s s.heap) (hbl : b < s.heap.size) (hbA : ¬ A b) (hA : ∀ q, s.heap.size ≤ q → A q) (hX : xX sa s) (hN : xN s) (hZ : xZ A s s.heap) (hi : i + 5 ≤ L) (hL : L ≤ 2560)
    (hH : xH G A s.heap H locs (wm ++ (wO G o f ++ wx))) (hl : lv_has ls 8 [(0, .ref b), (1, .ref x0), (2, .ref m0), (3, .ref o), (4, .int (nI i))]) (hem : wm[0]? = some (m0, .inr (4, fm))) (hem' : wm'[0]? = some (m0, .inr (4, fm')))
    (hcells : cells + 1 ≤ 600000) (hslots : slots + 6 ≤ 7000000)
    (h1 : xMy l yL_length wsL_length rmL [.ref x0, .ref o] G sa (wO G o f ++ wx) k (wO G o f' ++ wx'))
    (hR : rm9.frames ≤ 30 ∧ rm9.locals ≤ 900 ∧ rm9.cells = 0 ∧ rm9.slots = 0) (h2 : xMi l yX4_length wsX4_length rm9 [.ref m0] G wm rb wm' 0 0)
    (h3 : xMi l yX4_thrown wsX4_thrown { frames := 0, cells := 0, slots := 0, locals := 0 } [.ref m0] G wm' k wm' 0 0) (hv : k = 0 → f' 0 = rb.toInt64)
    (kk : ∀ (H1 : Heap) (locs1 : List Loc) (ls1 : Array Slot), xH G A s.heap H1 locs1 (wm' ++ (wO G o f' ++ wx')) → lv_has ls1 8 [(0, .ref b), (1, .ref x0), (2, .ref m0), (3, .ref o), (4, .int (nI i))] → W p l e room_1 s m #[.ref b] below meth c H1 locs1 (cells + 1) (slots + 6) Q (F0 m 1044 ls1 [])) :
    W p l e room_1 s m #[.ref b] below meth c H locs cells slots Q (F0 m 541 ls []) := by
  refine lv_aload_n C.1 C.2.1 dL_law_541 rfl (lv_at hl 1 rfl) ?_
  refine lv_aload_n C.1 C.2.1 dL_law_542 rfl (lv_at hl 3 rfl) ?_
  refine x_cri (w1 := wm) (wc := wO G o f ++ wx) (wc' := wO G o f' ++ wx') (vx_runSW (As := [.ref x0, .ref o]) (rest := []) (x_fix C hml) (h1 _) (vx_cwSW 2 C.2.2.2.1 gL_law_L_length rfl rfl rfl (by decide +kernel) ⟨Nat.le_of_ble_eq_true rfl, Nat.le_of_ble_eq_true rfl⟩) (x_psy C hX hN hZ hA (x_rt hH)) rfl rfl hl.1 rfl (lv_room (Nat.le_of_ble_eq_true rfl)) dL_law_543 ⟨by show cells + 1 ≤ 624656; omega, by show slots + 6 ≤ 7222135; omega⟩) hH hA (fun H locs hH => ?_)
  refine lv_istore (lv' := [(5, .int k), (0, .ref b), (1, .ref x0), (2, .ref m0), (3, .ref o), (4, .int (nI i))]) C.1 C.2.1 dL_law_546 hl (by decide) rfl (fun ls hl => ?_)
  refine lv_aload_n C.1 C.2.1 dL_law_548 rfl (lv_at hl 3 rfl) ?_
  refine x_cli (w2 := wO G o f' ++ wx') (wc := wm) (wc' := wm') (va_runV (As := []) (rest := []) (x_fix C hml) (h2 _) (cwV 0 C.2.2.2.1 gL_law_X4_length rfl hR.2.2.1 hR.2.2.2 (by decide +kernel) ⟨by show rm9.frames + 1 ≤ 2048; omega, by show 8 + (3 + 11) + rm9.locals ≤ 84000; omega⟩) (x_pv C (x_lf hH) rfl hem rfl rfl) rfl rfl hl.1 rfl (lv_room (Nat.le_of_ble_eq_true rfl)) dL_law_549 ⟨by show cells + 1 + 0 ≤ 624656; omega, by show slots + 6 + 0 ≤ 7222135; omega⟩) hH hA (fun H locs hH => ?_)
  refine lv_istore (lv' := [(6, .int rb), (5, .int k), (0, .ref b), (1, .ref x0), (2, .ref m0), (3, .ref o), (4, .int (nI i))]) C.1 C.2.1 dL_law_552 hl (by decide) rfl (fun ls hl => ?_)
  refine lv_aload_n C.1 C.2.1 dL_law_554 rfl (lv_at hl 4 rfl) ?_
  refine x_cli (w2 := wO G o f' ++ wx') (wc := wm') (wc' := wm') (va_runV (As := []) (rest := []) (x_fix C hml) (h3 _) (cwV 0 C.2.2.2.1 gL_law_X4_thrown rfl rfl rfl (by decide +kernel) ⟨Nat.le_of_ble_eq_true rfl, Nat.le_of_ble_eq_true rfl⟩) (x_pv C (x_lf hH) rfl hem' rfl rfl) rfl rfl hl.1 rfl (lv_room (Nat.le_of_ble_eq_true rfl)) dL_law_555 ⟨by show cells + 1 + 0 + 0 ≤ 624656; omega, by show slots + 6 + 0 + 0 ≤ 7222135; omega⟩) hH hA (fun H locs hH => ?_)
  refine lv_iload C.1 C.2.1 dL_law_558 (lv_at hl 1 rfl) ?_
  refine lv_icmp_eq (tgt := 565) C.1 C.2.1 dL_law_560 (by decide) (fun _ => ?_) (fun hne => absurd rfl hne)
  refine lv_iload C.1 C.2.1 dL_law_565 (lv_at hl 1 rfl) ?_
  refine lv_if_ne (tgt := 582) C.1 C.2.1 dL_law_567 (by decide) (fun h0 => ?_) (fun h0 => ?_)
  · refine lv_goto (tgt := 1044) C.1 C.2.1 dL_law_582 (by decide) ?_
    exact kk _ _ _ hH (lv_sub hl [2, 3, 4, 5, 6] rfl)
  · skip
    refine lv_aload_n C.1 C.2.1 dL_law_570 rfl (lv_at hl 5 rfl) ?_
    refine lv_iconst (v := nI 0) C.1 C.2.1 dL_law_571 (by decide) ?_
    have hH2 := x_rt hH
    refine x_lald C hH2 0 (b := o) (n := 1) (f := f') rfl (j := 0) (by decide) (by decide) rfl dL_law_572 ?_
    refine lv_iload C.1 C.2.1 dL_law_573 (lv_at hl 0 rfl) ?_
    refine lv_i2l (v := rb.toInt64) C.1 C.2.1 dL_law_575 rfl ?_
    refine x_lcmp_eq (tgt := 582) C.1 C.2.1 dL_law_576 dL_law_577 (by decide) (fun _ => ?_) (fun hne => absurd (hv h0) hne)
    refine lv_goto (tgt := 1044) C.1 C.2.1 dL_law_582 (by decide) ?_
    exact kk _ _ _ hH (lv_sub hl [2, 3, 4, 5, 6] rfl)
set_option maxHeartbeats 1000000 in
set_option maxRecDepth 100000 in
theorem lc_depth {rb : Int32} (C : xC p c m s #[.ref b] cL_law RL wsL_law G) (hml : c.maxLocals = 8) (hX9 : va_X b L xs s s.heap) (hbl : b < s.heap.size) (hbA : ¬ A b) (hA : ∀ q, s.heap.size ≤ q → A q) (hX : xX sa s) (hN : xN s) (hZ : xZ A s s.heap) (hi : i + 5 ≤ L) (hL : L ≤ 2560)
    (hH : xH G A s.heap H locs (wm ++ (wO G o f ++ wx))) (hl : lv_has ls 8 [(0, .ref b), (1, .ref x0), (2, .ref m0), (3, .ref o), (4, .int (nI i))]) (hem : wm[0]? = some (m0, .inr (4, fm))) (hem' : wm'[0]? = some (m0, .inr (4, fm')))
    (hcells : cells + 1 ≤ 600000) (hslots : slots + 6 ≤ 7000000)
    (h1 : xMy l yL_depth wsL_depth rmL [.ref x0, .int (xs (i + 1)), .ref o] G sa (wO G o f ++ wx) k (wO G o f' ++ wx'))
    (hR : rm9.frames ≤ 30 ∧ rm9.locals ≤ 900 ∧ rm9.cells = 0 ∧ rm9.slots = 0) (h2 : xMi l yX4_depth wsX4_depth rm9 [.ref m0, .int (xs (i + 1))] G wm rb wm' 0 0)
    (h3 : xMi l yX4_thrown wsX4_thrown { frames := 0, cells := 0, slots := 0, locals := 0 } [.ref m0] G wm' k wm' 0 0) (hv : k = 0 → f' 0 = rb.toInt64)
    (kk : ∀ (H1 : Heap) (locs1 : List Loc) (ls1 : Array Slot), xH G A s.heap H1 locs1 (wm' ++ (wO G o f' ++ wx')) → lv_has ls1 8 [(0, .ref b), (1, .ref x0), (2, .ref m0), (3, .ref o), (4, .int (nI i))] → W p l e room_1 s m #[.ref b] below meth c H1 locs1 (cells + 1) (slots + 6) Q (F0 m 1044 ls1 [])) :
    W p l e room_1 s m #[.ref b] below meth c H locs cells slots Q (F0 m 585 ls []) := by
  refine lv_aload_n C.1 C.2.1 dL_law_585 rfl (lv_at hl 1 rfl) ?_
  refine lv_aload_n C.1 C.2.1 dL_law_586 rfl (lv_at hl 0 rfl) ?_
  refine lv_iload C.1 C.2.1 dL_law_587 (lv_at hl 4 rfl) ?_
  refine lv_iconst (v := nI 1) C.1 C.2.1 dL_law_589 (by decide) ?_
  refine lv_iadd C.1 C.2.1 dL_law_590 ?_
  refine x_toi (x_add i 1) ?_
  refine x_scr C hX9 hbl hbA hH (i + 1) (by omega) hL dL_law_591 ?_
  refine lv_aload_n C.1 C.2.1 dL_law_592 rfl (lv_at hl 3 rfl) ?_
  refine x_cri (w1 := wm) (wc := wO G o f ++ wx) (wc' := wO G o f' ++ wx') (vx_runSW (As := [.ref x0, .int (xs (i + 1)), .ref o]) (rest := []) (x_fix C hml) (h1 _) (vx_cwSW 3 C.2.2.2.1 gL_law_L_depth rfl rfl rfl (by decide +kernel) ⟨Nat.le_of_ble_eq_true rfl, Nat.le_of_ble_eq_true rfl⟩) (x_psy C hX hN hZ hA (x_rt hH)) rfl rfl hl.1 rfl (lv_room (Nat.le_of_ble_eq_true rfl)) dL_law_593 ⟨by show cells + 1 ≤ 624656; omega, by show slots + 6 ≤ 7222135; omega⟩) hH hA (fun H locs hH => ?_)
  refine lv_istore (lv' := [(5, .int k), (0, .ref b), (1, .ref x0), (2, .ref m0), (3, .ref o), (4, .int (nI i))]) C.1 C.2.1 dL_law_596 hl (by decide) rfl (fun ls hl => ?_)
  refine lv_aload_n C.1 C.2.1 dL_law_598 rfl (lv_at hl 3 rfl) ?_
  refine lv_aload_n C.1 C.2.1 dL_law_599 rfl (lv_at hl 1 rfl) ?_
  refine lv_iload C.1 C.2.1 dL_law_600 (lv_at hl 5 rfl) ?_
  refine lv_iconst (v := nI 1) C.1 C.2.1 dL_law_602 (by decide) ?_
  refine lv_iadd C.1 C.2.1 dL_law_603 ?_
  refine x_toi (x_add i 1) ?_
  refine x_scr C hX9 hbl hbA hH (i + 1) (by omega) hL dL_law_604 ?_
  refine x_cli (w2 := wO G o f' ++ wx') (wc := wm) (wc' := wm') (va_runV (As := [.int (xs (i + 1))]) (rest := []) (x_fix C hml) (h2 _) (cwV 1 C.2.2.2.1 gL_law_X4_depth rfl hR.2.2.1 hR.2.2.2 (by decide +kernel) ⟨by show rm9.frames + 1 ≤ 2048; omega, by show 8 + (4 + 11) + rm9.locals ≤ 84000; omega⟩) (x_pv C (x_lf hH) rfl hem rfl rfl) rfl rfl hl.1 rfl (lv_room (Nat.le_of_ble_eq_true rfl)) dL_law_605 ⟨by show cells + 1 + 0 ≤ 624656; omega, by show slots + 6 + 0 ≤ 7222135; omega⟩) hH hA (fun H locs hH => ?_)
  refine lv_istore (lv' := [(6, .int rb), (5, .int k), (0, .ref b), (1, .ref x0), (2, .ref m0), (3, .ref o), (4, .int (nI i))]) C.1 C.2.1 dL_law_608 hl (by decide) rfl (fun ls hl => ?_)
  refine lv_aload_n C.1 C.2.1 dL_law_610 rfl (lv_at hl 4 rfl) ?_
  refine x_cli (w2 := wO G o f' ++ wx') (wc := wm') (wc' := wm') (va_runV (As := []) (rest := []) (x_fix C hml) (h3 _) (cwV 0 C.2.2.2.1 gL_law_X4_thrown rfl rfl rfl (by decide +kernel) ⟨Nat.le_of_ble_eq_true rfl, Nat.le_of_ble_eq_true rfl⟩) (x_pv C (x_lf hH) rfl hem' rfl rfl) rfl rfl hl.1 rfl (lv_room (Nat.le_of_ble_eq_true rfl)) dL_law_611 ⟨by show cells + 1 + 0 + 0 ≤ 624656; omega, by show slots + 6 + 0 + 0 ≤ 7222135; omega⟩) hH hA (fun H locs hH => ?_)
  refine lv_iload C.1 C.2.1 dL_law_614 (lv_at hl 1 rfl) ?_
  refine lv_icmp_eq (tgt := 621) C.1 C.2.1 dL_law_616 (by decide) (fun _ => ?_) (fun hne => absurd rfl hne)
  refine lv_iload C.1 C.2.1 dL_law_621 (lv_at hl 1 rfl) ?_
  refine lv_if_ne (tgt := 638) C.1 C.2.1 dL_law_623 (by decide) (fun h0 => ?_) (fun h0 => ?_)
  · refine lv_goto (tgt := 1044) C.1 C.2.1 dL_law_638 (by decide) ?_
    exact kk _ _ _ hH (lv_sub hl [2, 3, 4, 5, 6] rfl)
  · skip
    refine lv_aload_n C.1 C.2.1 dL_law_626 rfl (lv_at hl 5 rfl) ?_
    refine lv_iconst (v := nI 0) C.1 C.2.1 dL_law_627 (by decide) ?_
    have hH2 := x_rt hH
    refine x_lald C hH2 0 (b := o) (n := 1) (f := f') rfl (j := 0) (by decide) (by decide) rfl dL_law_628 ?_
    refine lv_iload C.1 C.2.1 dL_law_629 (lv_at hl 0 rfl) ?_
    refine lv_i2l (v := rb.toInt64) C.1 C.2.1 dL_law_631 rfl ?_
    refine x_lcmp_eq (tgt := 638) C.1 C.2.1 dL_law_632 dL_law_633 (by decide) (fun _ => ?_) (fun hne => absurd (hv h0) hne)
    refine lv_goto (tgt := 1044) C.1 C.2.1 dL_law_638 (by decide) ?_
    exact kk _ _ _ hH (lv_sub hl [2, 3, 4, 5, 6] rfl)
set_option maxHeartbeats 1000000 in
set_option maxRecDepth 100000 in
theorem lc_set {rb : Int32} (C : xC p c m s #[.ref b] cL_law RL wsL_law G) (hml : c.maxLocals = 8) (hX9 : va_X b L xs s s.heap) (hbl : b < s.heap.size) (hbA : ¬ A b) (hA : ∀ q, s.heap.size ≤ q → A q) (hX : xX sa s) (hN : xN s) (hZ : xZ A s s.heap) (hi : i + 5 ≤ L) (hL : L ≤ 2560)
    (hH : xH G A s.heap H locs (wm ++ (wO G o f ++ wx))) (hl : lv_has ls 8 [(0, .ref b), (1, .ref x0), (2, .ref m0), (3, .ref o), (4, .int (nI i))]) (hem : wm[0]? = some (m0, .inr (4, fm))) (hem' : wm'[0]? = some (m0, .inr (4, fm')))
    (hcells : cells + 1 ≤ 600000) (hslots : slots + 6 ≤ 7000000)
    (h1 : xMy l yL_set wsL_set rmL [.ref x0, .int (xs (i + 1)), .int (xb (¬ xs (i + 2) = 0)), .ref o] G sa (wO G o f ++ wx) k (wO G o f' ++ wx'))
    (hR : rm9.frames ≤ 30 ∧ rm9.locals ≤ 900 ∧ rm9.cells = 0 ∧ rm9.slots = 0) (h2 : xMi l yX4_set wsX4_set rm9 [.ref m0, .int (xs (i + 1)), .int (xb (¬ xs (i + 2) = 0))] G wm rb wm' 0 0)
    (h3 : xMi l yX4_thrown wsX4_thrown { frames := 0, cells := 0, slots := 0, locals := 0 } [.ref m0] G wm' k wm' 0 0) (hv : k = 0 → f' 0 = (if rb = 0 then 0 else 1))
    (kk : ∀ (H1 : Heap) (locs1 : List Loc) (ls1 : Array Slot), xH G A s.heap H1 locs1 (wm' ++ (wO G o f' ++ wx')) → lv_has ls1 8 [(0, .ref b), (1, .ref x0), (2, .ref m0), (3, .ref o), (4, .int (nI i))] → W p l e room_1 s m #[.ref b] below meth c H1 locs1 (cells + 1) (slots + 6) Q (F0 m 1044 ls1 [])) :
    W p l e room_1 s m #[.ref b] below meth c H locs cells slots Q (F0 m 641 ls []) := by
  refine lv_aload_n C.1 C.2.1 dL_law_641 rfl (lv_at hl 1 rfl) ?_
  refine lv_aload_n C.1 C.2.1 dL_law_642 rfl (lv_at hl 0 rfl) ?_
  refine lv_iload C.1 C.2.1 dL_law_643 (lv_at hl 4 rfl) ?_
  refine lv_iconst (v := nI 1) C.1 C.2.1 dL_law_645 (by decide) ?_
  refine lv_iadd C.1 C.2.1 dL_law_646 ?_
  refine x_toi (x_add i 1) ?_
  refine x_scr C hX9 hbl hbA hH (i + 1) (by omega) hL dL_law_647 ?_
  refine lv_aload_n C.1 C.2.1 dL_law_648 rfl (lv_at hl 0 rfl) ?_
  refine lv_iload C.1 C.2.1 dL_law_649 (lv_at hl 4 rfl) ?_
  refine lv_iconst (v := nI 2) C.1 C.2.1 dL_law_651 (by decide) ?_
  refine lv_iadd C.1 C.2.1 dL_law_652 ?_
  refine x_toi (x_add i 2) ?_
  refine x_scr C hX9 hbl hbA hH (i + 2) (by omega) hL dL_law_653 ?_
  refine x_nz C.1 C.2.1 dL_law_654 dL_law_657 dL_law_658 dL_law_661 ?_
  refine lv_aload_n C.1 C.2.1 dL_law_662 rfl (lv_at hl 3 rfl) ?_
  refine x_cri (w1 := wm) (wc := wO G o f ++ wx) (wc' := wO G o f' ++ wx') (vx_runSW (As := [.ref x0, .int (xs (i + 1)), .int (xb (¬ xs (i + 2) = 0)), .ref o]) (rest := []) (x_fix C hml) (h1 _) (vx_cwSW 4 C.2.2.2.1 gL_law_L_set rfl rfl rfl (by decide +kernel) ⟨Nat.le_of_ble_eq_true rfl, Nat.le_of_ble_eq_true rfl⟩) (x_psy C hX hN hZ hA (x_rt hH)) rfl rfl hl.1 rfl (lv_room (Nat.le_of_ble_eq_true rfl)) dL_law_663 ⟨by show cells + 1 ≤ 624656; omega, by show slots + 6 ≤ 7222135; omega⟩) hH hA (fun H locs hH => ?_)
  refine lv_istore (lv' := [(5, .int k), (0, .ref b), (1, .ref x0), (2, .ref m0), (3, .ref o), (4, .int (nI i))]) C.1 C.2.1 dL_law_666 hl (by decide) rfl (fun ls hl => ?_)
  refine lv_aload_n C.1 C.2.1 dL_law_668 rfl (lv_at hl 3 rfl) ?_
  refine lv_aload_n C.1 C.2.1 dL_law_669 rfl (lv_at hl 1 rfl) ?_
  refine lv_iload C.1 C.2.1 dL_law_670 (lv_at hl 5 rfl) ?_
  refine lv_iconst (v := nI 1) C.1 C.2.1 dL_law_672 (by decide) ?_
  refine lv_iadd C.1 C.2.1 dL_law_673 ?_
  refine x_toi (x_add i 1) ?_
  refine x_scr C hX9 hbl hbA hH (i + 1) (by omega) hL dL_law_674 ?_
  refine lv_aload_n C.1 C.2.1 dL_law_675 rfl (lv_at hl 1 rfl) ?_
  refine lv_iload C.1 C.2.1 dL_law_676 (lv_at hl 5 rfl) ?_
  refine lv_iconst (v := nI 2) C.1 C.2.1 dL_law_678 (by decide) ?_
  refine lv_iadd C.1 C.2.1 dL_law_679 ?_
  refine x_toi (x_add i 2) ?_
  refine x_scr C hX9 hbl hbA hH (i + 2) (by omega) hL dL_law_680 ?_
  refine x_nz C.1 C.2.1 dL_law_681 dL_law_684 dL_law_685 dL_law_688 ?_
  refine x_cli (w2 := wO G o f' ++ wx') (wc := wm) (wc' := wm') (va_runV (As := [.int (xs (i + 1)), .int (xb (¬ xs (i + 2) = 0))]) (rest := []) (x_fix C hml) (h2 _) (cwV 2 C.2.2.2.1 gL_law_X4_set rfl hR.2.2.1 hR.2.2.2 (by decide +kernel) ⟨by show rm9.frames + 1 ≤ 2048; omega, by show 8 + (3 + 11) + rm9.locals ≤ 84000; omega⟩) (x_pv C (x_lf hH) rfl hem rfl rfl) rfl rfl hl.1 rfl (lv_room (Nat.le_of_ble_eq_true rfl)) dL_law_689 ⟨by show cells + 1 + 0 ≤ 624656; omega, by show slots + 6 + 0 ≤ 7222135; omega⟩) hH hA (fun H locs hH => ?_)
  refine lv_istore (lv' := [(6, .int rb), (5, .int k), (0, .ref b), (1, .ref x0), (2, .ref m0), (3, .ref o), (4, .int (nI i))]) C.1 C.2.1 dL_law_692 hl (by decide) rfl (fun ls hl => ?_)
  refine lv_aload_n C.1 C.2.1 dL_law_694 rfl (lv_at hl 4 rfl) ?_
  refine x_cli (w2 := wO G o f' ++ wx') (wc := wm') (wc' := wm') (va_runV (As := []) (rest := []) (x_fix C hml) (h3 _) (cwV 0 C.2.2.2.1 gL_law_X4_thrown rfl rfl rfl (by decide +kernel) ⟨Nat.le_of_ble_eq_true rfl, Nat.le_of_ble_eq_true rfl⟩) (x_pv C (x_lf hH) rfl hem' rfl rfl) rfl rfl hl.1 rfl (lv_room (Nat.le_of_ble_eq_true rfl)) dL_law_695 ⟨by show cells + 1 + 0 + 0 ≤ 624656; omega, by show slots + 6 + 0 + 0 ≤ 7222135; omega⟩) hH hA (fun H locs hH => ?_)
  refine lv_iload C.1 C.2.1 dL_law_698 (lv_at hl 1 rfl) ?_
  refine lv_icmp_eq (tgt := 705) C.1 C.2.1 dL_law_700 (by decide) (fun _ => ?_) (fun hne => absurd rfl hne)
  refine lv_iload C.1 C.2.1 dL_law_705 (lv_at hl 1 rfl) ?_
  refine lv_if_ne (tgt := 729) C.1 C.2.1 dL_law_707 (by decide) (fun h0 => ?_) (fun h0 => ?_)
  · refine lv_goto (tgt := 1044) C.1 C.2.1 dL_law_729 (by decide) ?_
    exact kk _ _ _ hH (lv_sub hl [2, 3, 4, 5, 6] rfl)
  · skip
    refine lv_aload_n C.1 C.2.1 dL_law_710 rfl (lv_at hl 5 rfl) ?_
    refine lv_iconst (v := nI 0) C.1 C.2.1 dL_law_711 (by decide) ?_
    have hH2 := x_rt hH
    refine x_lald C hH2 0 (b := o) (n := 1) (f := f') rfl (j := 0) (by decide) (by decide) rfl dL_law_712 ?_
    refine lv_iload C.1 C.2.1 dL_law_713 (lv_at hl 0 rfl) ?_
    refine x_nzl C.1 C.2.1 dL_law_715 dL_law_718 dL_law_719 dL_law_722 ?_
    refine x_lcmp_eq (tgt := 729) C.1 C.2.1 dL_law_723 dL_law_724 (by decide) (fun _ => ?_) (fun hne => absurd (hv h0) hne)
    refine lv_goto (tgt := 1044) C.1 C.2.1 dL_law_729 (by decide) ?_
    exact kk _ _ _ hH (lv_sub hl [2, 3, 4, 5, 6] rfl)
set_option maxHeartbeats 1000000 in
set_option maxRecDepth 100000 in
theorem lc_setting {rb : Int32} (C : xC p c m s #[.ref b] cL_law RL wsL_law G) (hml : c.maxLocals = 8) (hX9 : va_X b L xs s s.heap) (hbl : b < s.heap.size) (hbA : ¬ A b) (hA : ∀ q, s.heap.size ≤ q → A q) (hX : xX sa s) (hN : xN s) (hZ : xZ A s s.heap) (hi : i + 5 ≤ L) (hL : L ≤ 2560)
    (hH : xH G A s.heap H locs (wm ++ (wO G o f ++ wx))) (hl : lv_has ls 8 [(0, .ref b), (1, .ref x0), (2, .ref m0), (3, .ref o), (4, .int (nI i))]) (hem : wm[0]? = some (m0, .inr (4, fm))) (hem' : wm'[0]? = some (m0, .inr (4, fm')))
    (hcells : cells + 1 ≤ 600000) (hslots : slots + 6 ≤ 7000000)
    (h1 : xMy l yL_setting wsL_setting rmL [.ref x0, .ref o] G sa (wO G o f ++ wx) k (wO G o f' ++ wx'))
    (hR : rm9.frames ≤ 30 ∧ rm9.locals ≤ 900 ∧ rm9.cells = 0 ∧ rm9.slots = 0) (h2 : xMi l yX4_setting wsX4_setting rm9 [.ref m0] G wm rb wm' 0 0)
    (h3 : xMi l yX4_thrown wsX4_thrown { frames := 0, cells := 0, slots := 0, locals := 0 } [.ref m0] G wm' k wm' 0 0) (hv : k = 0 → f' 0 = rb.toInt64)
    (kk : ∀ (H1 : Heap) (locs1 : List Loc) (ls1 : Array Slot), xH G A s.heap H1 locs1 (wm' ++ (wO G o f' ++ wx')) → lv_has ls1 8 [(0, .ref b), (1, .ref x0), (2, .ref m0), (3, .ref o), (4, .int (nI i))] → W p l e room_1 s m #[.ref b] below meth c H1 locs1 (cells + 1) (slots + 6) Q (F0 m 1044 ls1 [])) :
    W p l e room_1 s m #[.ref b] below meth c H locs cells slots Q (F0 m 732 ls []) := by
  refine lv_aload_n C.1 C.2.1 dL_law_732 rfl (lv_at hl 1 rfl) ?_
  refine lv_aload_n C.1 C.2.1 dL_law_733 rfl (lv_at hl 3 rfl) ?_
  refine x_cri (w1 := wm) (wc := wO G o f ++ wx) (wc' := wO G o f' ++ wx') (vx_runSW (As := [.ref x0, .ref o]) (rest := []) (x_fix C hml) (h1 _) (vx_cwSW 2 C.2.2.2.1 gL_law_L_setting rfl rfl rfl (by decide +kernel) ⟨Nat.le_of_ble_eq_true rfl, Nat.le_of_ble_eq_true rfl⟩) (x_psy C hX hN hZ hA (x_rt hH)) rfl rfl hl.1 rfl (lv_room (Nat.le_of_ble_eq_true rfl)) dL_law_734 ⟨by show cells + 1 ≤ 624656; omega, by show slots + 6 ≤ 7222135; omega⟩) hH hA (fun H locs hH => ?_)
  refine lv_istore (lv' := [(5, .int k), (0, .ref b), (1, .ref x0), (2, .ref m0), (3, .ref o), (4, .int (nI i))]) C.1 C.2.1 dL_law_737 hl (by decide) rfl (fun ls hl => ?_)
  refine lv_aload_n C.1 C.2.1 dL_law_739 rfl (lv_at hl 3 rfl) ?_
  refine x_cli (w2 := wO G o f' ++ wx') (wc := wm) (wc' := wm') (va_runV (As := []) (rest := []) (x_fix C hml) (h2 _) (cwV 0 C.2.2.2.1 gL_law_X4_setting rfl hR.2.2.1 hR.2.2.2 (by decide +kernel) ⟨by show rm9.frames + 1 ≤ 2048; omega, by show 8 + (1 + 11) + rm9.locals ≤ 84000; omega⟩) (x_pv C (x_lf hH) rfl hem rfl rfl) rfl rfl hl.1 rfl (lv_room (Nat.le_of_ble_eq_true rfl)) dL_law_740 ⟨by show cells + 1 + 0 ≤ 624656; omega, by show slots + 6 + 0 ≤ 7222135; omega⟩) hH hA (fun H locs hH => ?_)
  refine lv_istore (lv' := [(6, .int rb), (5, .int k), (0, .ref b), (1, .ref x0), (2, .ref m0), (3, .ref o), (4, .int (nI i))]) C.1 C.2.1 dL_law_743 hl (by decide) rfl (fun ls hl => ?_)
  refine lv_aload_n C.1 C.2.1 dL_law_745 rfl (lv_at hl 4 rfl) ?_
  refine x_cli (w2 := wO G o f' ++ wx') (wc := wm') (wc' := wm') (va_runV (As := []) (rest := []) (x_fix C hml) (h3 _) (cwV 0 C.2.2.2.1 gL_law_X4_thrown rfl rfl rfl (by decide +kernel) ⟨Nat.le_of_ble_eq_true rfl, Nat.le_of_ble_eq_true rfl⟩) (x_pv C (x_lf hH) rfl hem' rfl rfl) rfl rfl hl.1 rfl (lv_room (Nat.le_of_ble_eq_true rfl)) dL_law_746 ⟨by show cells + 1 + 0 + 0 ≤ 624656; omega, by show slots + 6 + 0 + 0 ≤ 7222135; omega⟩) hH hA (fun H locs hH => ?_)
  refine lv_iload C.1 C.2.1 dL_law_749 (lv_at hl 1 rfl) ?_
  refine lv_icmp_eq (tgt := 756) C.1 C.2.1 dL_law_751 (by decide) (fun _ => ?_) (fun hne => absurd rfl hne)
  refine lv_iload C.1 C.2.1 dL_law_756 (lv_at hl 1 rfl) ?_
  refine lv_if_ne (tgt := 773) C.1 C.2.1 dL_law_758 (by decide) (fun h0 => ?_) (fun h0 => ?_)
  · refine lv_goto (tgt := 1044) C.1 C.2.1 dL_law_773 (by decide) ?_
    exact kk _ _ _ hH (lv_sub hl [2, 3, 4, 5, 6] rfl)
  · skip
    refine lv_aload_n C.1 C.2.1 dL_law_761 rfl (lv_at hl 5 rfl) ?_
    refine lv_iconst (v := nI 0) C.1 C.2.1 dL_law_762 (by decide) ?_
    have hH2 := x_rt hH
    refine x_lald C hH2 0 (b := o) (n := 1) (f := f') rfl (j := 0) (by decide) (by decide) rfl dL_law_763 ?_
    refine lv_iload C.1 C.2.1 dL_law_764 (lv_at hl 0 rfl) ?_
    refine lv_i2l (v := rb.toInt64) C.1 C.2.1 dL_law_766 rfl ?_
    refine x_lcmp_eq (tgt := 773) C.1 C.2.1 dL_law_767 dL_law_768 (by decide) (fun _ => ?_) (fun hne => absurd (hv h0) hne)
    refine lv_goto (tgt := 1044) C.1 C.2.1 dL_law_773 (by decide) ?_
    exact kk _ _ _ hH (lv_sub hl [2, 3, 4, 5, 6] rfl)
set_option maxHeartbeats 1000000 in
set_option maxRecDepth 100000 in
theorem lc_load {rb : Int64} (C : xC p c m s #[.ref b] cL_law RL wsL_law G) (hml : c.maxLocals = 8) (hX9 : va_X b L xs s s.heap) (hbl : b < s.heap.size) (hbA : ¬ A b) (hA : ∀ q, s.heap.size ≤ q → A q) (hX : xX sa s) (hN : xN s) (hZ : xZ A s s.heap) (hi : i + 5 ≤ L) (hL : L ≤ 2560)
    (hH : xH G A s.heap H locs (wm ++ (wO G o f ++ wx))) (hl : lv_has ls 8 [(0, .ref b), (1, .ref x0), (2, .ref m0), (3, .ref o), (4, .int (nI i))]) (hem : wm[0]? = some (m0, .inr (4, fm))) (hem' : wm'[0]? = some (m0, .inr (4, fm')))
    (hcells : cells + 1 ≤ 600000) (hslots : slots + 6 ≤ 7000000)
    (h1 : xMy l yL_load wsL_load rmL [.ref x0, .int (xs (i + 1)), .int (xb (¬ xs (i + 2) = 0)), .ref o] G sa (wO G o f ++ wx) k (wO G o f' ++ wx'))
    (hR : rm9.frames ≤ 30 ∧ rm9.locals ≤ 900 ∧ rm9.cells = 0 ∧ rm9.slots = 0) (h2 : xMl l yX4_load wsX4_load rm9 [.ref m0, .int (xs (i + 1)), .int (xb (¬ xs (i + 2) = 0))] G wm rb wm' 0 0)
    (h3 : xMi l yX4_thrown wsX4_thrown { frames := 0, cells := 0, slots := 0, locals := 0 } [.ref m0] G wm' k wm' 0 0) (hv : k = 0 → f' 0 = rb)
    (kk : ∀ (H1 : Heap) (locs1 : List Loc) (ls1 : Array Slot), xH G A s.heap H1 locs1 (wm' ++ (wO G o f' ++ wx')) → lv_has ls1 8 [(0, .ref b), (1, .ref x0), (2, .ref m0), (3, .ref o), (4, .int (nI i))] → W p l e room_1 s m #[.ref b] below meth c H1 locs1 (cells + 1) (slots + 6) Q (F0 m 1044 ls1 [])) :
    W p l e room_1 s m #[.ref b] below meth c H locs cells slots Q (F0 m 776 ls []) := by
  refine lv_aload_n C.1 C.2.1 dL_law_776 rfl (lv_at hl 1 rfl) ?_
  refine lv_aload_n C.1 C.2.1 dL_law_777 rfl (lv_at hl 0 rfl) ?_
  refine lv_iload C.1 C.2.1 dL_law_778 (lv_at hl 4 rfl) ?_
  refine lv_iconst (v := nI 1) C.1 C.2.1 dL_law_780 (by decide) ?_
  refine lv_iadd C.1 C.2.1 dL_law_781 ?_
  refine x_toi (x_add i 1) ?_
  refine x_scr C hX9 hbl hbA hH (i + 1) (by omega) hL dL_law_782 ?_
  refine lv_aload_n C.1 C.2.1 dL_law_783 rfl (lv_at hl 0 rfl) ?_
  refine lv_iload C.1 C.2.1 dL_law_784 (lv_at hl 4 rfl) ?_
  refine lv_iconst (v := nI 2) C.1 C.2.1 dL_law_786 (by decide) ?_
  refine lv_iadd C.1 C.2.1 dL_law_787 ?_
  refine x_toi (x_add i 2) ?_
  refine x_scr C hX9 hbl hbA hH (i + 2) (by omega) hL dL_law_788 ?_
  refine x_nz C.1 C.2.1 dL_law_789 dL_law_792 dL_law_793 dL_law_796 ?_
  refine lv_aload_n C.1 C.2.1 dL_law_797 rfl (lv_at hl 3 rfl) ?_
  refine x_cri (w1 := wm) (wc := wO G o f ++ wx) (wc' := wO G o f' ++ wx') (vx_runSW (As := [.ref x0, .int (xs (i + 1)), .int (xb (¬ xs (i + 2) = 0)), .ref o]) (rest := []) (x_fix C hml) (h1 _) (vx_cwSW 4 C.2.2.2.1 gL_law_L_load rfl rfl rfl (by decide +kernel) ⟨Nat.le_of_ble_eq_true rfl, Nat.le_of_ble_eq_true rfl⟩) (x_psy C hX hN hZ hA (x_rt hH)) rfl rfl hl.1 rfl (lv_room (Nat.le_of_ble_eq_true rfl)) dL_law_798 ⟨by show cells + 1 ≤ 624656; omega, by show slots + 6 ≤ 7222135; omega⟩) hH hA (fun H locs hH => ?_)
  refine lv_istore (lv' := [(5, .int k), (0, .ref b), (1, .ref x0), (2, .ref m0), (3, .ref o), (4, .int (nI i))]) C.1 C.2.1 dL_law_801 hl (by decide) rfl (fun ls hl => ?_)
  refine lv_aload_n C.1 C.2.1 dL_law_803 rfl (lv_at hl 3 rfl) ?_
  refine lv_aload_n C.1 C.2.1 dL_law_804 rfl (lv_at hl 1 rfl) ?_
  refine lv_iload C.1 C.2.1 dL_law_805 (lv_at hl 5 rfl) ?_
  refine lv_iconst (v := nI 1) C.1 C.2.1 dL_law_807 (by decide) ?_
  refine lv_iadd C.1 C.2.1 dL_law_808 ?_
  refine x_toi (x_add i 1) ?_
  refine x_scr C hX9 hbl hbA hH (i + 1) (by omega) hL dL_law_809 ?_
  refine lv_aload_n C.1 C.2.1 dL_law_810 rfl (lv_at hl 1 rfl) ?_
  refine lv_iload C.1 C.2.1 dL_law_811 (lv_at hl 5 rfl) ?_
  refine lv_iconst (v := nI 2) C.1 C.2.1 dL_law_813 (by decide) ?_
  refine lv_iadd C.1 C.2.1 dL_law_814 ?_
  refine x_toi (x_add i 2) ?_
  refine x_scr C hX9 hbl hbA hH (i + 2) (by omega) hL dL_law_815 ?_
  refine x_nz C.1 C.2.1 dL_law_816 dL_law_819 dL_law_820 dL_law_823 ?_
  refine x_cll (w2 := wO G o f' ++ wx') (wc := wm) (wc' := wm') (va_runV (As := [.int (xs (i + 1)), .int (xb (¬ xs (i + 2) = 0))]) (rest := []) (x_fix C hml) (h2 _) (cwV 2 C.2.2.2.1 gL_law_X4_load rfl hR.2.2.1 hR.2.2.2 (by decide +kernel) ⟨by show rm9.frames + 1 ≤ 2048; omega, by show 8 + (3 + 11) + rm9.locals ≤ 84000; omega⟩) (x_pv C (x_lf hH) rfl hem rfl rfl) rfl rfl hl.1 rfl (lv_room (Nat.le_of_ble_eq_true rfl)) dL_law_824 ⟨by show cells + 1 + 0 ≤ 624656; omega, by show slots + 6 + 0 ≤ 7222135; omega⟩) hH hA (fun H locs hH => ?_)
  refine lv_lstore (lv' := [(6, .long rb), (5, .int k), (0, .ref b), (1, .ref x0), (2, .ref m0), (3, .ref o), (4, .int (nI i))]) C.1 C.2.1 dL_law_827 hl (by decide) rfl (fun ls hl => ?_)
  refine lv_aload_n C.1 C.2.1 dL_law_829 rfl (lv_at hl 4 rfl) ?_
  refine x_cli (w2 := wO G o f' ++ wx') (wc := wm') (wc' := wm') (va_runV (As := []) (rest := []) (x_fix C hml) (h3 _) (cwV 0 C.2.2.2.1 gL_law_X4_thrown rfl rfl rfl (by decide +kernel) ⟨Nat.le_of_ble_eq_true rfl, Nat.le_of_ble_eq_true rfl⟩) (x_pv C (x_lf hH) rfl hem' rfl rfl) rfl rfl hl.1 rfl (lv_room (Nat.le_of_ble_eq_true rfl)) dL_law_830 ⟨by show cells + 1 + 0 + 0 ≤ 624656; omega, by show slots + 6 + 0 + 0 ≤ 7222135; omega⟩) hH hA (fun H locs hH => ?_)
  refine lv_iload C.1 C.2.1 dL_law_833 (lv_at hl 1 rfl) ?_
  refine lv_icmp_eq (tgt := 840) C.1 C.2.1 dL_law_835 (by decide) (fun _ => ?_) (fun hne => absurd rfl hne)
  refine lv_iload C.1 C.2.1 dL_law_840 (lv_at hl 1 rfl) ?_
  refine lv_if_ne (tgt := 856) C.1 C.2.1 dL_law_842 (by decide) (fun h0 => ?_) (fun h0 => ?_)
  · refine lv_goto (tgt := 1044) C.1 C.2.1 dL_law_856 (by decide) ?_
    exact kk _ _ _ hH (lv_sub hl [2, 3, 4, 5, 6] rfl)
  · skip
    refine lv_aload_n C.1 C.2.1 dL_law_845 rfl (lv_at hl 5 rfl) ?_
    refine lv_iconst (v := nI 0) C.1 C.2.1 dL_law_846 (by decide) ?_
    have hH2 := x_rt hH
    refine x_lald C hH2 0 (b := o) (n := 1) (f := f') rfl (j := 0) (by decide) (by decide) rfl dL_law_847 ?_
    refine lv_lload C.1 C.2.1 dL_law_848 (lv_at hl 0 rfl) ?_
    refine x_lcmp_eq (tgt := 856) C.1 C.2.1 dL_law_850 dL_law_851 (by decide) (fun _ => ?_) (fun hne => absurd (hv h0) hne)
    refine lv_goto (tgt := 1044) C.1 C.2.1 dL_law_856 (by decide) ?_
    exact kk _ _ _ hH (lv_sub hl [2, 3, 4, 5, 6] rfl)
set_option maxHeartbeats 1000000 in
set_option maxRecDepth 100000 in
theorem lc_delay {rb : Int64} (C : xC p c m s #[.ref b] cL_law RL wsL_law G) (hml : c.maxLocals = 8) (hX9 : va_X b L xs s s.heap) (hbl : b < s.heap.size) (hbA : ¬ A b) (hA : ∀ q, s.heap.size ≤ q → A q) (hX : xX sa s) (hN : xN s) (hZ : xZ A s s.heap) (hi : i + 5 ≤ L) (hL : L ≤ 2560)
    (hH : xH G A s.heap H locs (wm ++ (wO G o f ++ wx))) (hl : lv_has ls 8 [(0, .ref b), (1, .ref x0), (2, .ref m0), (3, .ref o), (4, .int (nI i))]) (hem : wm[0]? = some (m0, .inr (4, fm))) (hem' : wm'[0]? = some (m0, .inr (4, fm')))
    (hcells : cells + 1 ≤ 600000) (hslots : slots + 6 ≤ 7000000)
    (h1 : xMy l yL_delay wsL_delay rmL [.ref x0, .int (xs (i + 1)), .ref o] G sa (wO G o f ++ wx) k (wO G o f' ++ wx'))
    (hR : rm9.frames ≤ 30 ∧ rm9.locals ≤ 900 ∧ rm9.cells = 0 ∧ rm9.slots = 0) (h2 : xMl l yX4_delay wsX4_delay rm9 [.ref m0, .int (xs (i + 1))] G wm rb wm' 0 0)
    (h3 : xMi l yX4_thrown wsX4_thrown { frames := 0, cells := 0, slots := 0, locals := 0 } [.ref m0] G wm' k wm' 0 0) (hv : k = 0 → f' 0 = rb)
    (kk : ∀ (H1 : Heap) (locs1 : List Loc) (ls1 : Array Slot), xH G A s.heap H1 locs1 (wm' ++ (wO G o f' ++ wx')) → lv_has ls1 8 [(0, .ref b), (1, .ref x0), (2, .ref m0), (3, .ref o), (4, .int (nI i))] → W p l e room_1 s m #[.ref b] below meth c H1 locs1 (cells + 1) (slots + 6) Q (F0 m 1044 ls1 [])) :
    W p l e room_1 s m #[.ref b] below meth c H locs cells slots Q (F0 m 859 ls []) := by
  refine lv_aload_n C.1 C.2.1 dL_law_859 rfl (lv_at hl 1 rfl) ?_
  refine lv_aload_n C.1 C.2.1 dL_law_860 rfl (lv_at hl 0 rfl) ?_
  refine lv_iload C.1 C.2.1 dL_law_861 (lv_at hl 4 rfl) ?_
  refine lv_iconst (v := nI 1) C.1 C.2.1 dL_law_863 (by decide) ?_
  refine lv_iadd C.1 C.2.1 dL_law_864 ?_
  refine x_toi (x_add i 1) ?_
  refine x_scr C hX9 hbl hbA hH (i + 1) (by omega) hL dL_law_865 ?_
  refine lv_aload_n C.1 C.2.1 dL_law_866 rfl (lv_at hl 3 rfl) ?_
  refine x_cri (w1 := wm) (wc := wO G o f ++ wx) (wc' := wO G o f' ++ wx') (vx_runSW (As := [.ref x0, .int (xs (i + 1)), .ref o]) (rest := []) (x_fix C hml) (h1 _) (vx_cwSW 3 C.2.2.2.1 gL_law_L_delay rfl rfl rfl (by decide +kernel) ⟨Nat.le_of_ble_eq_true rfl, Nat.le_of_ble_eq_true rfl⟩) (x_psy C hX hN hZ hA (x_rt hH)) rfl rfl hl.1 rfl (lv_room (Nat.le_of_ble_eq_true rfl)) dL_law_867 ⟨by show cells + 1 ≤ 624656; omega, by show slots + 6 ≤ 7222135; omega⟩) hH hA (fun H locs hH => ?_)
  refine lv_istore (lv' := [(5, .int k), (0, .ref b), (1, .ref x0), (2, .ref m0), (3, .ref o), (4, .int (nI i))]) C.1 C.2.1 dL_law_870 hl (by decide) rfl (fun ls hl => ?_)
  refine lv_aload_n C.1 C.2.1 dL_law_872 rfl (lv_at hl 3 rfl) ?_
  refine lv_aload_n C.1 C.2.1 dL_law_873 rfl (lv_at hl 1 rfl) ?_
  refine lv_iload C.1 C.2.1 dL_law_874 (lv_at hl 5 rfl) ?_
  refine lv_iconst (v := nI 1) C.1 C.2.1 dL_law_876 (by decide) ?_
  refine lv_iadd C.1 C.2.1 dL_law_877 ?_
  refine x_toi (x_add i 1) ?_
  refine x_scr C hX9 hbl hbA hH (i + 1) (by omega) hL dL_law_878 ?_
  refine x_cll (w2 := wO G o f' ++ wx') (wc := wm) (wc' := wm') (va_runV (As := [.int (xs (i + 1))]) (rest := []) (x_fix C hml) (h2 _) (cwV 1 C.2.2.2.1 gL_law_X4_delay rfl hR.2.2.1 hR.2.2.2 (by decide +kernel) ⟨by show rm9.frames + 1 ≤ 2048; omega, by show 8 + (2 + 11) + rm9.locals ≤ 84000; omega⟩) (x_pv C (x_lf hH) rfl hem rfl rfl) rfl rfl hl.1 rfl (lv_room (Nat.le_of_ble_eq_true rfl)) dL_law_879 ⟨by show cells + 1 + 0 ≤ 624656; omega, by show slots + 6 + 0 ≤ 7222135; omega⟩) hH hA (fun H locs hH => ?_)
  refine lv_lstore (lv' := [(6, .long rb), (5, .int k), (0, .ref b), (1, .ref x0), (2, .ref m0), (3, .ref o), (4, .int (nI i))]) C.1 C.2.1 dL_law_882 hl (by decide) rfl (fun ls hl => ?_)
  refine lv_aload_n C.1 C.2.1 dL_law_884 rfl (lv_at hl 4 rfl) ?_
  refine x_cli (w2 := wO G o f' ++ wx') (wc := wm') (wc' := wm') (va_runV (As := []) (rest := []) (x_fix C hml) (h3 _) (cwV 0 C.2.2.2.1 gL_law_X4_thrown rfl rfl rfl (by decide +kernel) ⟨Nat.le_of_ble_eq_true rfl, Nat.le_of_ble_eq_true rfl⟩) (x_pv C (x_lf hH) rfl hem' rfl rfl) rfl rfl hl.1 rfl (lv_room (Nat.le_of_ble_eq_true rfl)) dL_law_885 ⟨by show cells + 1 + 0 + 0 ≤ 624656; omega, by show slots + 6 + 0 + 0 ≤ 7222135; omega⟩) hH hA (fun H locs hH => ?_)
  refine lv_iload C.1 C.2.1 dL_law_888 (lv_at hl 1 rfl) ?_
  refine lv_icmp_eq (tgt := 895) C.1 C.2.1 dL_law_890 (by decide) (fun _ => ?_) (fun hne => absurd rfl hne)
  refine lv_iload C.1 C.2.1 dL_law_895 (lv_at hl 1 rfl) ?_
  refine lv_if_ne (tgt := 911) C.1 C.2.1 dL_law_897 (by decide) (fun h0 => ?_) (fun h0 => ?_)
  · refine lv_goto (tgt := 1044) C.1 C.2.1 dL_law_911 (by decide) ?_
    exact kk _ _ _ hH (lv_sub hl [2, 3, 4, 5, 6] rfl)
  · skip
    refine lv_aload_n C.1 C.2.1 dL_law_900 rfl (lv_at hl 5 rfl) ?_
    refine lv_iconst (v := nI 0) C.1 C.2.1 dL_law_901 (by decide) ?_
    have hH2 := x_rt hH
    refine x_lald C hH2 0 (b := o) (n := 1) (f := f') rfl (j := 0) (by decide) (by decide) rfl dL_law_902 ?_
    refine lv_lload C.1 C.2.1 dL_law_903 (lv_at hl 0 rfl) ?_
    refine x_lcmp_eq (tgt := 911) C.1 C.2.1 dL_law_905 dL_law_906 (by decide) (fun _ => ?_) (fun hne => absurd (hv h0) hne)
    refine lv_goto (tgt := 1044) C.1 C.2.1 dL_law_911 (by decide) ?_
    exact kk _ _ _ hH (lv_sub hl [2, 3, 4, 5, 6] rfl)
set_option maxHeartbeats 1000000 in
set_option maxRecDepth 100000 in
theorem lc_slack {rb : Int64} (C : xC p c m s #[.ref b] cL_law RL wsL_law G) (hml : c.maxLocals = 8) (hX9 : va_X b L xs s s.heap) (hbl : b < s.heap.size) (hbA : ¬ A b) (hA : ∀ q, s.heap.size ≤ q → A q) (hX : xX sa s) (hN : xN s) (hZ : xZ A s s.heap) (hi : i + 5 ≤ L) (hL : L ≤ 2560)
    (hH : xH G A s.heap H locs (wm ++ (wO G o f ++ wx))) (hl : lv_has ls 8 [(0, .ref b), (1, .ref x0), (2, .ref m0), (3, .ref o), (4, .int (nI i))]) (hem : wm[0]? = some (m0, .inr (4, fm))) (hem' : wm'[0]? = some (m0, .inr (4, fm')))
    (hcells : cells + 1 ≤ 600000) (hslots : slots + 6 ≤ 7000000)
    (h1 : xMy l yL_slack wsL_slack rmL [.ref x0, .ref o] G sa (wO G o f ++ wx) k (wO G o f' ++ wx'))
    (hR : rm9.frames ≤ 30 ∧ rm9.locals ≤ 900 ∧ rm9.cells = 0 ∧ rm9.slots = 0) (h2 : xMl l yX4_slack wsX4_slack rm9 [.ref m0] G wm rb wm' 0 0)
    (h3 : xMi l yX4_thrown wsX4_thrown { frames := 0, cells := 0, slots := 0, locals := 0 } [.ref m0] G wm' k wm' 0 0) (hv : k = 0 → f' 0 = rb)
    (kk : ∀ (H1 : Heap) (locs1 : List Loc) (ls1 : Array Slot), xH G A s.heap H1 locs1 (wm' ++ (wO G o f' ++ wx')) → lv_has ls1 8 [(0, .ref b), (1, .ref x0), (2, .ref m0), (3, .ref o), (4, .int (nI i))] → W p l e room_1 s m #[.ref b] below meth c H1 locs1 (cells + 1) (slots + 6) Q (F0 m 1044 ls1 [])) :
    W p l e room_1 s m #[.ref b] below meth c H locs cells slots Q (F0 m 914 ls []) := by
  refine lv_aload_n C.1 C.2.1 dL_law_914 rfl (lv_at hl 1 rfl) ?_
  refine lv_aload_n C.1 C.2.1 dL_law_915 rfl (lv_at hl 3 rfl) ?_
  refine x_cri (w1 := wm) (wc := wO G o f ++ wx) (wc' := wO G o f' ++ wx') (vx_runSW (As := [.ref x0, .ref o]) (rest := []) (x_fix C hml) (h1 _) (vx_cwSW 2 C.2.2.2.1 gL_law_L_slack rfl rfl rfl (by decide +kernel) ⟨Nat.le_of_ble_eq_true rfl, Nat.le_of_ble_eq_true rfl⟩) (x_psy C hX hN hZ hA (x_rt hH)) rfl rfl hl.1 rfl (lv_room (Nat.le_of_ble_eq_true rfl)) dL_law_916 ⟨by show cells + 1 ≤ 624656; omega, by show slots + 6 ≤ 7222135; omega⟩) hH hA (fun H locs hH => ?_)
  refine lv_istore (lv' := [(5, .int k), (0, .ref b), (1, .ref x0), (2, .ref m0), (3, .ref o), (4, .int (nI i))]) C.1 C.2.1 dL_law_919 hl (by decide) rfl (fun ls hl => ?_)
  refine lv_aload_n C.1 C.2.1 dL_law_921 rfl (lv_at hl 3 rfl) ?_
  refine x_cll (w2 := wO G o f' ++ wx') (wc := wm) (wc' := wm') (va_runV (As := []) (rest := []) (x_fix C hml) (h2 _) (cwV 0 C.2.2.2.1 gL_law_X4_slack rfl hR.2.2.1 hR.2.2.2 (by decide +kernel) ⟨by show rm9.frames + 1 ≤ 2048; omega, by show 8 + (1 + 11) + rm9.locals ≤ 84000; omega⟩) (x_pv C (x_lf hH) rfl hem rfl rfl) rfl rfl hl.1 rfl (lv_room (Nat.le_of_ble_eq_true rfl)) dL_law_922 ⟨by show cells + 1 + 0 ≤ 624656; omega, by show slots + 6 + 0 ≤ 7222135; omega⟩) hH hA (fun H locs hH => ?_)
  refine lv_lstore (lv' := [(6, .long rb), (5, .int k), (0, .ref b), (1, .ref x0), (2, .ref m0), (3, .ref o), (4, .int (nI i))]) C.1 C.2.1 dL_law_925 hl (by decide) rfl (fun ls hl => ?_)
  refine lv_aload_n C.1 C.2.1 dL_law_927 rfl (lv_at hl 4 rfl) ?_
  refine x_cli (w2 := wO G o f' ++ wx') (wc := wm') (wc' := wm') (va_runV (As := []) (rest := []) (x_fix C hml) (h3 _) (cwV 0 C.2.2.2.1 gL_law_X4_thrown rfl rfl rfl (by decide +kernel) ⟨Nat.le_of_ble_eq_true rfl, Nat.le_of_ble_eq_true rfl⟩) (x_pv C (x_lf hH) rfl hem' rfl rfl) rfl rfl hl.1 rfl (lv_room (Nat.le_of_ble_eq_true rfl)) dL_law_928 ⟨by show cells + 1 + 0 + 0 ≤ 624656; omega, by show slots + 6 + 0 + 0 ≤ 7222135; omega⟩) hH hA (fun H locs hH => ?_)
  refine lv_iload C.1 C.2.1 dL_law_931 (lv_at hl 1 rfl) ?_
  refine lv_icmp_eq (tgt := 938) C.1 C.2.1 dL_law_933 (by decide) (fun _ => ?_) (fun hne => absurd rfl hne)
  refine lv_iload C.1 C.2.1 dL_law_938 (lv_at hl 1 rfl) ?_
  refine lv_if_ne (tgt := 954) C.1 C.2.1 dL_law_940 (by decide) (fun h0 => ?_) (fun h0 => ?_)
  · refine lv_goto (tgt := 1044) C.1 C.2.1 dL_law_954 (by decide) ?_
    exact kk _ _ _ hH (lv_sub hl [2, 3, 4, 5, 6] rfl)
  · skip
    refine lv_aload_n C.1 C.2.1 dL_law_943 rfl (lv_at hl 5 rfl) ?_
    refine lv_iconst (v := nI 0) C.1 C.2.1 dL_law_944 (by decide) ?_
    have hH2 := x_rt hH
    refine x_lald C hH2 0 (b := o) (n := 1) (f := f') rfl (j := 0) (by decide) (by decide) rfl dL_law_945 ?_
    refine lv_lload C.1 C.2.1 dL_law_946 (lv_at hl 0 rfl) ?_
    refine x_lcmp_eq (tgt := 954) C.1 C.2.1 dL_law_948 dL_law_949 (by decide) (fun _ => ?_) (fun hne => absurd (hv h0) hne)
    refine lv_goto (tgt := 1044) C.1 C.2.1 dL_law_954 (by decide) ?_
    exact kk _ _ _ hH (lv_sub hl [2, 3, 4, 5, 6] rfl)
set_option maxHeartbeats 1000000 in
set_option maxRecDepth 100000 in
theorem lc_best {rb : Int64} (C : xC p c m s #[.ref b] cL_law RL wsL_law G) (hml : c.maxLocals = 8) (hX9 : va_X b L xs s s.heap) (hbl : b < s.heap.size) (hbA : ¬ A b) (hA : ∀ q, s.heap.size ≤ q → A q) (hX : xX sa s) (hN : xN s) (hZ : xZ A s s.heap) (hi : i + 5 ≤ L) (hL : L ≤ 2560)
    (hH : xH G A s.heap H locs (wm ++ (wO G o f ++ wx))) (hl : lv_has ls 8 [(0, .ref b), (1, .ref x0), (2, .ref m0), (3, .ref o), (4, .int (nI i))]) (hem : wm[0]? = some (m0, .inr (4, fm))) (hem' : wm'[0]? = some (m0, .inr (4, fm')))
    (hcells : cells + 1 ≤ 600000) (hslots : slots + 6 ≤ 7000000)
    (h1 : xMy l yL_best wsL_best rmL [.ref x0, .ref o] G sa (wO G o f ++ wx) k (wO G o f' ++ wx'))
    (hR : rm9.frames ≤ 30 ∧ rm9.locals ≤ 900 ∧ rm9.cells = 0 ∧ rm9.slots = 0) (h2 : xMl l yX4_best wsX4_best rm9 [.ref m0] G wm rb wm' 0 0)
    (h3 : xMi l yX4_thrown wsX4_thrown { frames := 0, cells := 0, slots := 0, locals := 0 } [.ref m0] G wm' k wm' 0 0) (hv : k = 0 → f' 0 = rb)
    (kk : ∀ (H1 : Heap) (locs1 : List Loc) (ls1 : Array Slot), xH G A s.heap H1 locs1 (wm' ++ (wO G o f' ++ wx')) → lv_has ls1 8 [(0, .ref b), (1, .ref x0), (2, .ref m0), (3, .ref o), (4, .int (nI i))] → W p l e room_1 s m #[.ref b] below meth c H1 locs1 (cells + 1) (slots + 6) Q (F0 m 1044 ls1 [])) :
    W p l e room_1 s m #[.ref b] below meth c H locs cells slots Q (F0 m 957 ls []) := by
  refine lv_aload_n C.1 C.2.1 dL_law_957 rfl (lv_at hl 1 rfl) ?_
  refine lv_aload_n C.1 C.2.1 dL_law_958 rfl (lv_at hl 3 rfl) ?_
  refine x_cri (w1 := wm) (wc := wO G o f ++ wx) (wc' := wO G o f' ++ wx') (vx_runSW (As := [.ref x0, .ref o]) (rest := []) (x_fix C hml) (h1 _) (vx_cwSW 2 C.2.2.2.1 gL_law_L_best rfl rfl rfl (by decide +kernel) ⟨Nat.le_of_ble_eq_true rfl, Nat.le_of_ble_eq_true rfl⟩) (x_psy C hX hN hZ hA (x_rt hH)) rfl rfl hl.1 rfl (lv_room (Nat.le_of_ble_eq_true rfl)) dL_law_959 ⟨by show cells + 1 ≤ 624656; omega, by show slots + 6 ≤ 7222135; omega⟩) hH hA (fun H locs hH => ?_)
  refine lv_istore (lv' := [(5, .int k), (0, .ref b), (1, .ref x0), (2, .ref m0), (3, .ref o), (4, .int (nI i))]) C.1 C.2.1 dL_law_962 hl (by decide) rfl (fun ls hl => ?_)
  refine lv_aload_n C.1 C.2.1 dL_law_964 rfl (lv_at hl 3 rfl) ?_
  refine x_cll (w2 := wO G o f' ++ wx') (wc := wm) (wc' := wm') (va_runV (As := []) (rest := []) (x_fix C hml) (h2 _) (cwV 0 C.2.2.2.1 gL_law_X4_best rfl hR.2.2.1 hR.2.2.2 (by decide +kernel) ⟨by show rm9.frames + 1 ≤ 2048; omega, by show 8 + (1 + 11) + rm9.locals ≤ 84000; omega⟩) (x_pv C (x_lf hH) rfl hem rfl rfl) rfl rfl hl.1 rfl (lv_room (Nat.le_of_ble_eq_true rfl)) dL_law_965 ⟨by show cells + 1 + 0 ≤ 624656; omega, by show slots + 6 + 0 ≤ 7222135; omega⟩) hH hA (fun H locs hH => ?_)
  refine lv_lstore (lv' := [(6, .long rb), (5, .int k), (0, .ref b), (1, .ref x0), (2, .ref m0), (3, .ref o), (4, .int (nI i))]) C.1 C.2.1 dL_law_968 hl (by decide) rfl (fun ls hl => ?_)
  refine lv_aload_n C.1 C.2.1 dL_law_970 rfl (lv_at hl 4 rfl) ?_
  refine x_cli (w2 := wO G o f' ++ wx') (wc := wm') (wc' := wm') (va_runV (As := []) (rest := []) (x_fix C hml) (h3 _) (cwV 0 C.2.2.2.1 gL_law_X4_thrown rfl rfl rfl (by decide +kernel) ⟨Nat.le_of_ble_eq_true rfl, Nat.le_of_ble_eq_true rfl⟩) (x_pv C (x_lf hH) rfl hem' rfl rfl) rfl rfl hl.1 rfl (lv_room (Nat.le_of_ble_eq_true rfl)) dL_law_971 ⟨by show cells + 1 + 0 + 0 ≤ 624656; omega, by show slots + 6 + 0 + 0 ≤ 7222135; omega⟩) hH hA (fun H locs hH => ?_)
  refine lv_iload C.1 C.2.1 dL_law_974 (lv_at hl 1 rfl) ?_
  refine lv_icmp_eq (tgt := 981) C.1 C.2.1 dL_law_976 (by decide) (fun _ => ?_) (fun hne => absurd rfl hne)
  refine lv_iload C.1 C.2.1 dL_law_981 (lv_at hl 1 rfl) ?_
  refine lv_if_ne (tgt := 997) C.1 C.2.1 dL_law_983 (by decide) (fun h0 => ?_) (fun h0 => ?_)
  · refine lv_goto (tgt := 1044) C.1 C.2.1 dL_law_997 (by decide) ?_
    exact kk _ _ _ hH (lv_sub hl [2, 3, 4, 5, 6] rfl)
  · skip
    refine lv_aload_n C.1 C.2.1 dL_law_986 rfl (lv_at hl 5 rfl) ?_
    refine lv_iconst (v := nI 0) C.1 C.2.1 dL_law_987 (by decide) ?_
    have hH2 := x_rt hH
    refine x_lald C hH2 0 (b := o) (n := 1) (f := f') rfl (j := 0) (by decide) (by decide) rfl dL_law_988 ?_
    refine lv_lload C.1 C.2.1 dL_law_989 (lv_at hl 0 rfl) ?_
    refine x_lcmp_eq (tgt := 997) C.1 C.2.1 dL_law_991 dL_law_992 (by decide) (fun _ => ?_) (fun hne => absurd (hv h0) hne)
    refine lv_goto (tgt := 1044) C.1 C.2.1 dL_law_997 (by decide) ?_
    exact kk _ _ _ hH (lv_sub hl [2, 3, 4, 5, 6] rfl)
set_option maxHeartbeats 1000000 in
set_option maxRecDepth 100000 in
theorem lc_improve {rb : Int32} (C : xC p c m s #[.ref b] cL_law RL wsL_law G) (hml : c.maxLocals = 8) (hX9 : va_X b L xs s s.heap) (hbl : b < s.heap.size) (hbA : ¬ A b) (hA : ∀ q, s.heap.size ≤ q → A q) (hX : xX sa s) (hN : xN s) (hZ : xZ A s s.heap) (hi : i + 5 ≤ L) (hL : L ≤ 2560)
    (hH : xH G A s.heap H locs (wm ++ (wO G o f ++ wx))) (hl : lv_has ls 8 [(0, .ref b), (1, .ref x0), (2, .ref m0), (3, .ref o), (4, .int (nI i))]) (hem : wm[0]? = some (m0, .inr (4, fm))) (hem' : wm'[0]? = some (m0, .inr (4, fm')))
    (hcells : cells + 1 ≤ 600000) (hslots : slots + 6 ≤ 7000000)
    (h1 : xMy l yL_improve wsL_improve rmL [.ref x0, .ref o] G sa (wO G o f ++ wx) k (wO G o f' ++ wx'))
    (hR : rm9.frames ≤ 30 ∧ rm9.locals ≤ 900 ∧ rm9.cells = 0 ∧ rm9.slots = 0) (h2 : xMi l yX4_improve wsX4_improve rm9 [.ref m0] G wm rb wm' 0 0)
    (h3 : xMi l yX4_thrown wsX4_thrown { frames := 0, cells := 0, slots := 0, locals := 0 } [.ref m0] G wm' k wm' 0 0) (hv : k = 0 → f' 0 = rb.toInt64)
    (kk : ∀ (H1 : Heap) (locs1 : List Loc) (ls1 : Array Slot), xH G A s.heap H1 locs1 (wm' ++ (wO G o f' ++ wx')) → lv_has ls1 8 [(0, .ref b), (1, .ref x0), (2, .ref m0), (3, .ref o), (4, .int (nI i))] → W p l e room_1 s m #[.ref b] below meth c H1 locs1 (cells + 1) (slots + 6) Q (F0 m 1044 ls1 [])) :
    W p l e room_1 s m #[.ref b] below meth c H locs cells slots Q (F0 m 1000 ls []) := by
  refine lv_aload_n C.1 C.2.1 dL_law_1000 rfl (lv_at hl 1 rfl) ?_
  refine lv_aload_n C.1 C.2.1 dL_law_1001 rfl (lv_at hl 3 rfl) ?_
  refine x_cri (w1 := wm) (wc := wO G o f ++ wx) (wc' := wO G o f' ++ wx') (vx_runSW (As := [.ref x0, .ref o]) (rest := []) (x_fix C hml) (h1 _) (vx_cwSW 2 C.2.2.2.1 gL_law_L_improve rfl rfl rfl (by decide +kernel) ⟨Nat.le_of_ble_eq_true rfl, Nat.le_of_ble_eq_true rfl⟩) (x_psy C hX hN hZ hA (x_rt hH)) rfl rfl hl.1 rfl (lv_room (Nat.le_of_ble_eq_true rfl)) dL_law_1002 ⟨by show cells + 1 ≤ 624656; omega, by show slots + 6 ≤ 7222135; omega⟩) hH hA (fun H locs hH => ?_)
  refine lv_istore (lv' := [(5, .int k), (0, .ref b), (1, .ref x0), (2, .ref m0), (3, .ref o), (4, .int (nI i))]) C.1 C.2.1 dL_law_1005 hl (by decide) rfl (fun ls hl => ?_)
  refine lv_aload_n C.1 C.2.1 dL_law_1007 rfl (lv_at hl 3 rfl) ?_
  refine x_cli (w2 := wO G o f' ++ wx') (wc := wm) (wc' := wm') (va_runV (As := []) (rest := []) (x_fix C hml) (h2 _) (cwV 0 C.2.2.2.1 gL_law_X4_improve rfl hR.2.2.1 hR.2.2.2 (by decide +kernel) ⟨by show rm9.frames + 1 ≤ 2048; omega, by show 8 + (3 + 11) + rm9.locals ≤ 84000; omega⟩) (x_pv C (x_lf hH) rfl hem rfl rfl) rfl rfl hl.1 rfl (lv_room (Nat.le_of_ble_eq_true rfl)) dL_law_1008 ⟨by show cells + 1 + 0 ≤ 624656; omega, by show slots + 6 + 0 ≤ 7222135; omega⟩) hH hA (fun H locs hH => ?_)
  refine lv_istore (lv' := [(6, .int rb), (5, .int k), (0, .ref b), (1, .ref x0), (2, .ref m0), (3, .ref o), (4, .int (nI i))]) C.1 C.2.1 dL_law_1011 hl (by decide) rfl (fun ls hl => ?_)
  refine lv_aload_n C.1 C.2.1 dL_law_1013 rfl (lv_at hl 4 rfl) ?_
  refine x_cli (w2 := wO G o f' ++ wx') (wc := wm') (wc' := wm') (va_runV (As := []) (rest := []) (x_fix C hml) (h3 _) (cwV 0 C.2.2.2.1 gL_law_X4_thrown rfl rfl rfl (by decide +kernel) ⟨Nat.le_of_ble_eq_true rfl, Nat.le_of_ble_eq_true rfl⟩) (x_pv C (x_lf hH) rfl hem' rfl rfl) rfl rfl hl.1 rfl (lv_room (Nat.le_of_ble_eq_true rfl)) dL_law_1014 ⟨by show cells + 1 + 0 + 0 ≤ 624656; omega, by show slots + 6 + 0 + 0 ≤ 7222135; omega⟩) hH hA (fun H locs hH => ?_)
  refine lv_iload C.1 C.2.1 dL_law_1017 (lv_at hl 1 rfl) ?_
  refine lv_icmp_eq (tgt := 1024) C.1 C.2.1 dL_law_1019 (by decide) (fun _ => ?_) (fun hne => absurd rfl hne)
  refine lv_iload C.1 C.2.1 dL_law_1024 (lv_at hl 1 rfl) ?_
  refine lv_if_ne (tgt := 1041) C.1 C.2.1 dL_law_1026 (by decide) (fun h0 => ?_) (fun h0 => ?_)
  · refine lv_goto (tgt := 1044) C.1 C.2.1 dL_law_1041 (by decide) ?_
    exact kk _ _ _ hH (lv_sub hl [2, 3, 4, 5, 6] rfl)
  · skip
    refine lv_aload_n C.1 C.2.1 dL_law_1029 rfl (lv_at hl 5 rfl) ?_
    refine lv_iconst (v := nI 0) C.1 C.2.1 dL_law_1030 (by decide) ?_
    have hH2 := x_rt hH
    refine x_lald C hH2 0 (b := o) (n := 1) (f := f') rfl (j := 0) (by decide) (by decide) rfl dL_law_1031 ?_
    refine lv_iload C.1 C.2.1 dL_law_1032 (lv_at hl 0 rfl) ?_
    refine lv_i2l (v := rb.toInt64) C.1 C.2.1 dL_law_1034 rfl ?_
    refine x_lcmp_eq (tgt := 1041) C.1 C.2.1 dL_law_1035 dL_law_1036 (by decide) (fun _ => ?_) (fun hne => absurd (hv h0) hne)
    refine lv_goto (tgt := 1044) C.1 C.2.1 dL_law_1041 (by decide) ?_
    exact kk _ _ _ hH (lv_sub hl [2, 3, 4, 5, 6] rfl)
set_option maxHeartbeats 1000000 in
set_option maxRecDepth 100000 in
theorem lc_sinks {r9 : Int32} (C : xC p c m s #[.ref b] cL_law RL wsL_law G) (hml : c.maxLocals = 8) (hX9 : va_X b L xs s s.heap) (hbl : b < s.heap.size) (hbA : ¬ A b) (hA : ∀ q, s.heap.size ≤ q → A q) (hX : xX sa s) (hN : xN s) (hZ : xZ A s s.heap) (hi : i + 5 ≤ L) (hL : L ≤ 2560)
    (hH : xH G A s.heap H locs (wm ++ (wO G o f ++ wx))) (hl : lv_has ls 8 [(0, .ref b), (1, .ref x0), (2, .ref m0), (3, .ref o), (4, .int (nI i))]) (hem : wm[0]? = some (m0, .inr (4, fm))) (hem' : wm'[0]? = some (m0, .inr (4, fm')))
    (hcells : cells + 1 ≤ 600000) (hslots : slots + 6 ≤ 7000000)
    (hex : wx[0]? = some (x0, .inr (3, fx))) (h1 : xMi l yX3_sinks wsX3_sinks { frames := 0, cells := 0, slots := 0, locals := 0 } [.ref x0] G wx r9 wx 0 0)
    (h2 : xMi l yX4_sinks wsX4_sinks { frames := 0, cells := 0, slots := 0, locals := 0 } [.ref m0] G wm r9 wm' 0 0)
    (kk : ∀ (H1 : Heap) (locs1 : List Loc) (ls1 : Array Slot), xH G A s.heap H1 locs1 (wm' ++ (wO G o f ++ wx)) → lv_has ls1 8 [(0, .ref b), (1, .ref x0), (2, .ref m0), (3, .ref o), (4, .int (nI i))] → W p l e room_1 s m #[.ref b] below meth c H1 locs1 cells slots Q (F0 m 1044 ls1 [])) :
    W p l e room_1 s m #[.ref b] below meth c H locs cells slots Q (F0 m 404 ls []) := by
  refine lv_aload_n C.1 C.2.1 dL_law_404 rfl (lv_at hl 1 rfl) ?_
  have hH := x_eqw (List.append_assoc wm (wO G o f) wx).symm hH
  refine x_cri (w1 := wm ++ wO G o f) (wc := wx) (wc' := wx) (va_runV (As := []) (rest := []) (x_fix C hml) (h1 _) (cwV 0 C.2.2.2.1 gL_law_X3_sinks rfl rfl rfl (by decide +kernel) ⟨Nat.le_of_ble_eq_true rfl, Nat.le_of_ble_eq_true rfl⟩) (x_pv C (x_rt hH) rfl hex rfl rfl) rfl rfl hl.1 rfl (lv_room (Nat.le_of_ble_eq_true rfl)) dL_law_405 ⟨by show cells + 0 ≤ 624656; omega, by show slots + 0 ≤ 7222135; omega⟩) hH hA (fun H locs hH => ?_)
  have hH := x_eqw (List.append_assoc wm (wO G o f) wx) hH
  refine lv_aload_n C.1 C.2.1 dL_law_408 rfl (lv_at hl 2 rfl) ?_
  refine x_cli (w2 := wO G o f ++ wx) (wc := wm) (wc' := wm') (va_runV (As := []) (rest := [.int r9]) (x_fix C hml) (h2 _) (cwV 0 C.2.2.2.1 gL_law_X4_sinks rfl rfl rfl (by decide +kernel) ⟨Nat.le_of_ble_eq_true rfl, Nat.le_of_ble_eq_true rfl⟩) (x_pv C (x_lf hH) rfl hem rfl rfl) rfl rfl hl.1 rfl (lv_room (Nat.le_of_ble_eq_true rfl)) dL_law_409 ⟨by show cells + 0 + 0 ≤ 624656; omega, by show slots + 0 + 0 ≤ 7222135; omega⟩) hH hA (fun H locs hH => ?_)
  refine lv_icmp_eq (tgt := 1044) C.1 C.2.1 dL_law_412 (by decide) (fun _ => ?_) (fun hne => absurd rfl hne)
  exact kk _ _ _ hH hl
end XLAW
