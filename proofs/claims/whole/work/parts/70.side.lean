/-! worlds side by side; what a method with handlers is called with -/
def wO (G : xG) (o : Nat) (f : Nat → Int64) : va_W := [(o, .inl (G.2 1, 1, .inr (.inl f)))]
def xN (U : State) : Prop := va_Nc "java/lang/UnsupportedOperationException" "java/lang/IllegalArgumentException" U ∧ va_Nc "java/util/NoSuchElementException" "java/lang/IllegalArgumentException" U ∧ va_Nc "java/lang/IndexOutOfBoundsException" "java/lang/IllegalStateException" U
theorem xN.warm {u U : State} (h : u.WarmedH U.vm) (k : xN u) : xN U := ⟨va_Nc.moved h.alike k.1, va_Nc.moved h.alike k.2.1, va_Nc.moved h.alike k.2.2⟩
def xPy (G : xG) (sa : Nat → Nat) (w : va_W) (sz : Nat) : State → Prop := fun U => (U.heap.size = sz ∧ va_P G.1 vwCl w U.heap ∧ xK G U ∧ va_D (fun _ => True) w) ∧ xX sa U ∧ xN U ∧ xZ (va_A w sz) U U.heap
def xMy (l : Launch) (y : MethodName) (ws : List Cond) (rm : Room) (av : List Value) (G : xG) (sa : Nat → Nat) (w : va_W) (r : Int32) (w' : va_W) : Prop := ∀ sz : Nat, Met l y ws rm (va_Pc av (xPy G sa w sz)) (va_Qi (fun (x : Int32) (_ : Unit) => x = r) (xPost G (va_A w sz) w') (va_A w sz)) 1 6 (va_A w sz)
theorem x_ofy {l : Launch} {y : MethodName} {ws ws' : List Cond} {rm : Room} {av : List Value} {G : xG} {sa : Nat → Nat} {w w' : va_W} {r : Int32} {cc : ByteArray} {maxL : Nat} {hh : List (Nat × Nat × Nat × Nat)} (hy : plainName y.cls = true) (hw : ws = Cond.codeWith y cc maxL (some .int) hh :: ws') (hn : (lg_sl av).length ≤ maxL)
    (body : ∀ (p : Program) (e : Env) (s : State) (m : MethodId) (args : Array Value) (below : List Frame) (meth : Method) (c : Code) (ls : Array Slot) (A : Nat → Prop) (Q : State → Prop), xC p c m s args cc y.cls ws G → c.maxLocals = maxL → (∀ q : Nat, s.heap.size ≤ q → A q) → xH G A s.heap s.heap [] w → lv_has ls maxL (lv_args 0 av) → xX sa s → xN s → xZ A s s.heap → c.exceptionTable.toList = tableOf hh →
      (∀ (H : Heap) (locs : List Loc) (ls : Array Slot) (pc : Nat) (v : Int32), xH G A s.heap H locs w' → v = r → decode cc pc = .ok (.ireturn, 1) → W p l e rm s m args below meth c H locs 1 6 Q (F0 m pc ls [.int v])) →
      W p l e rm s m args below meth c s.heap [] 0 0 Q (F0 m 0 ls [])) : xMy l y ws rm av G sa w r w' := by
  intro sz
  refine va_MetW (cc := cc) (maxL := maxL) (ret := some .int) (hh := hh) hy hw ?_
  intro p e s m args below meth c s₁ B hml hv
  obtain ⟨rfl, ⟨hsz, hP, hK, hD0⟩, hX, hN, hZ⟩ := hv
  subst hsz
  have hts := atoms_spec (ws := ws) B.pre
  have hown : s.vm.findClass y.cls = some m.cls := findClass_of_methodNamed B.named
  have hl := lv_entry av (n := maxL) hn
  have htab : c.exceptionTable.toList = tableOf hh := vx_table (x := y) B (hts _ (by rw [hw]; exact List.mem_cons_self))
  rw [lg_entry_eq]
  exact body p e s m _ below meth c _ (va_A w s.heap.size) _ ⟨B.exec, B.bytes, hown, hts, hK⟩ hml (fun q h => Or.inr h) ⟨hP, hD0.self, va_S.rf⟩ hl hX hN hZ htab
    (fun H locs ls pc v hH hv hdg => W.iret B.exec B.bytes B.returns (fun t ht hW => ⟨⟨v, (), rfl, hv, ht ▸ hH.1, hH.2.1⟩, hH.2.2.F ht⟩) hH.2.2.2.2 hdg B.notSynchronized)
section XSIDE
variable {p : Program} {l : Launch} {e : Env} {R : Room} {s : State} {m : MethodId} {args : Array Value} {below : List Frame} {meth : Method} {c : Code} {H : Heap} {locs : List Loc} {cells slots : Nat} {Q : State → Prop}
variable {cc : ByteArray} {pc : Nat} {ls : Array Slot} {st0 rest : List Value} {A : Nat → Prop} {H0 : Heap} {own : String} {Ts : List Cond} {G : xG} {w1 w2 wc wc' : va_W} {mc ms : Nat} {sa : Nat → Nat}
theorem x_lf (h : xH G A H0 H locs (w1 ++ w2)) : xH G A H0 H locs w1 := by
  obtain ⟨hP, hD, hS⟩ := h
  have up : ∀ (k : Nat) (q : Nat × va_E), w1[k]? = some q → (w1 ++ w2)[k]? = some q := fun k q hk => by
    rw [List.getElem?_append_left (List.getElem?_eq_some_iff.mp hk).1]; exact hk
  exact ⟨fun k q hk => hP k q (up k q hk), ⟨fun i j x y hx hy => hD.1 i j x y (up i x hx) (up j y hy), fun k q hk => hD.2 k q (up k q hk)⟩, hS⟩
theorem x_upr (k : Nat) (q : Nat × va_E) (hk : w2[k]? = some q) : (w1 ++ w2)[w1.length + k]? = some q := by
  rw [List.getElem?_append_right (Nat.le_add_right _ _), Nat.add_sub_cancel_left]; exact hk
theorem x_rt (h : xH G A H0 H locs (w1 ++ w2)) : xH G A H0 H locs w2 := by
  obtain ⟨hP, hD, hS⟩ := h
  refine ⟨fun k q hk => hP _ q (x_upr k q hk), ⟨fun i j x y hx hy hxy => ?_, fun k q hk => hD.2 _ q (x_upr k q hk)⟩, hS⟩
  have := hD.1 _ _ x y (x_upr i x hx) (x_upr j y hy) hxy
  omega
theorem x_ap (h : xH G A H0 H locs (w1 ++ w2)) : ∀ (i j : Nat) (x y : Nat × va_E), w1[i]? = some x → w2[j]? = some y → x.1 ≠ y.1 := by
  intro i j x y hx hy hxy
  have hi := (List.getElem?_eq_some_iff.mp hx).1
  have h1 : (w1 ++ w2)[i]? = some x := by rw [List.getElem?_append_left hi]; exact hx
  have := h.2.1.1 i _ x y h1 (x_upr j y hy) hxy
  omega
/-- what stands beside a callee's world stands after the call as before -/
theorem x_by {H1 : Heap} (hP : va_P G.1 vwCl w1 H) (hx : ∀ (i j : Nat) (x y : Nat × va_E), w1[i]? = some x → wc[j]? = some y → x.1 ≠ y.1) (hk : ∀ q : Nat, q < H.size → ¬ va_A wc H.size q → H1[q]? = H[q]?) (hD1 : va_D (va_A wc H.size) wc') :
    va_P G.1 vwCl w1 H1 ∧ ∀ (i j : Nat) (x y : Nat × va_E), w1[i]? = some x → wc'[j]? = some y → x.1 ≠ y.1 := by
  have out : ∀ (k : Nat) (q : Nat × va_E), w1[k]? = some q → ¬ va_A wc H.size q.1 := fun k q hq h => by
    rcases h with ⟨j, e9, h⟩ | h
    · exact hx k j q (q.1, e9) hq h rfl
    · exact absurd (hP k q hq).lt (Nat.not_lt.mpr h)
  exact ⟨hP.kept (fun k q hq => hk q.1 (hP k q hq).lt (out k q hq)), fun i j x y h1 h2 h3 => out i x h1 (by rw [h3]; exact hD1.2 j y h2)⟩
theorem x_behR {H1 : Heap} {locs1 : List Loc} (hH : xH G A H0 H locs (w1 ++ wc)) (hA : ∀ q, H0.size ≤ q → A q) (hk : ∀ q : Nat, q < H.size → ¬ va_A wc H.size q → H1[q]? = H[q]?) (hP1 : va_P G.1 vwCl wc' H1) (hD1 : va_D (va_A wc H.size) wc') (hS : va_S A H0 H1 locs1) : xH G A H0 H1 locs1 (w1 ++ wc') := by
  obtain ⟨k1, k2⟩ := x_by (x_lf hH).1 (x_ap hH) hk hD1
  exact ⟨va_P.app k1 hP1, va_D.app (x_lf hH).2.1 (hD1.weaken (fun _ q _ h => x_freeAll (x_rt hH).2.1 hH.2.2 hA q.1 h)) k2, hS⟩
theorem x_behL {H1 : Heap} {locs1 : List Loc} (hH : xH G A H0 H locs (wc ++ w2)) (hA : ∀ q, H0.size ≤ q → A q) (hk : ∀ q : Nat, q < H.size → ¬ va_A wc H.size q → H1[q]? = H[q]?) (hP1 : va_P G.1 vwCl wc' H1) (hD1 : va_D (va_A wc H.size) wc') (hS : va_S A H0 H1 locs1) : xH G A H0 H1 locs1 (wc' ++ w2) := by
  obtain ⟨k1, k2⟩ := x_by (w1 := w2) (x_rt hH).1 (fun i j x y hx hy hxy => x_ap hH j i y x hy hx hxy.symm) hk hD1
  exact ⟨va_P.app hP1 k1, va_D.app (hD1.weaken (fun _ q _ h => x_freeAll (x_lf hH).2.1 hH.2.2 hA q.1 h)) (x_rt hH).2.1 (fun i j x y hx hy hxy => k2 j i y x hy hx hxy.symm), hS⟩
section
variable {a : Array Value}
theorem x_cri {r : Int32} (hr : va_Run p l e R s m args below meth c H locs cells slots mc ms (F0 m pc ls st0) rest (va_Qi (fun (x : Int32) (_ : Unit) => x = r) (xPost G (va_A wc H.size) wc') (va_A wc H.size) a) (va_A wc H.size)) (hH : xH G A H0 H locs (w1 ++ wc)) (hA : ∀ q, H0.size ≤ q → A q)
    (kk : ∀ (H1 : Heap) (locs1 : List Loc), xH G A H0 H1 locs1 (w1 ++ wc') → W p l e R s m args below meth c H1 locs1 (cells + mc) (slots + ms) Q (F0 m (pc + 3) ls (.int r :: rest))) : W p l e R s m args below meth c H locs cells slots Q (F0 m pc ls st0) :=
  va_calli hr hH.2.2 (fun q _ h => x_freeAll (x_rt hH).2.1 hH.2.2 hA q h) (x_freeAll (x_rt hH).2.1 hH.2.2 hA) (fun r2 _ t H1 locs1 ht hvm hp hB hz1 hk1 hS => by subst hp; exact kk H1 locs1 (x_behR hH hA hk1 (ht ▸ hB.1) hB.2 hS))
theorem x_crl {r : Int64} (hr : va_Run p l e R s m args below meth c H locs cells slots mc ms (F0 m pc ls st0) rest (va_Ql (fun (x : Int64) (_ : Unit) => x = r) (xPost G (va_A wc H.size) wc') (va_A wc H.size) a) (va_A wc H.size)) (hH : xH G A H0 H locs (w1 ++ wc)) (hA : ∀ q, H0.size ≤ q → A q)
    (kk : ∀ (H1 : Heap) (locs1 : List Loc), xH G A H0 H1 locs1 (w1 ++ wc') → W p l e R s m args below meth c H1 locs1 (cells + mc) (slots + ms) Q (F0 m (pc + 3) ls (.long r :: rest))) : W p l e R s m args below meth c H locs cells slots Q (F0 m pc ls st0) :=
  va_calll hr hH.2.2 (fun q _ h => x_freeAll (x_rt hH).2.1 hH.2.2 hA q h) (x_freeAll (x_rt hH).2.1 hH.2.2 hA) (fun r2 _ t H1 locs1 ht hvm hp hB hz1 hk1 hS => by subst hp; exact kk H1 locs1 (x_behR hH hA hk1 (ht ▸ hB.1) hB.2 hS))
theorem x_cli {r : Int32} (hr : va_Run p l e R s m args below meth c H locs cells slots mc ms (F0 m pc ls st0) rest (va_Qi (fun (x : Int32) (_ : Unit) => x = r) (xPost G (va_A wc H.size) wc') (va_A wc H.size) a) (va_A wc H.size)) (hH : xH G A H0 H locs (wc ++ w2)) (hA : ∀ q, H0.size ≤ q → A q)
    (kk : ∀ (H1 : Heap) (locs1 : List Loc), xH G A H0 H1 locs1 (wc' ++ w2) → W p l e R s m args below meth c H1 locs1 (cells + mc) (slots + ms) Q (F0 m (pc + 3) ls (.int r :: rest))) : W p l e R s m args below meth c H locs cells slots Q (F0 m pc ls st0) :=
  va_calli hr hH.2.2 (fun q _ h => x_freeAll (x_lf hH).2.1 hH.2.2 hA q h) (x_freeAll (x_lf hH).2.1 hH.2.2 hA) (fun r2 _ t H1 locs1 ht hvm hp hB hz1 hk1 hS => by subst hp; exact kk H1 locs1 (x_behL hH hA hk1 (ht ▸ hB.1) hB.2 hS))
theorem x_cll {r : Int64} (hr : va_Run p l e R s m args below meth c H locs cells slots mc ms (F0 m pc ls st0) rest (va_Ql (fun (x : Int64) (_ : Unit) => x = r) (xPost G (va_A wc H.size) wc') (va_A wc H.size) a) (va_A wc H.size)) (hH : xH G A H0 H locs (wc ++ w2)) (hA : ∀ q, H0.size ≤ q → A q)
    (kk : ∀ (H1 : Heap) (locs1 : List Loc), xH G A H0 H1 locs1 (wc' ++ w2) → W p l e R s m args below meth c H1 locs1 (cells + mc) (slots + ms) Q (F0 m (pc + 3) ls (.long r :: rest))) : W p l e R s m args below meth c H locs cells slots Q (F0 m pc ls st0) :=
  va_calll hr hH.2.2 (fun q _ h => x_freeAll (x_lf hH).2.1 hH.2.2 hA q h) (x_freeAll (x_lf hH).2.1 hH.2.2 hA) (fun r2 _ t H1 locs1 ht hvm hp hB hz1 hk1 hS => by subst hp; exact kk H1 locs1 (x_behL hH hA hk1 (ht ▸ hB.1) hB.2 hS))
theorem x_clv (hr : va_Run p l e R s m args below meth c H locs cells slots mc ms (F0 m pc ls st0) rest (va_Qv (fun (_ : Unit) => True) (xPost G (va_A wc H.size) wc') (va_A wc H.size) a) (va_A wc H.size)) (hH : xH G A H0 H locs (wc ++ w2)) (hA : ∀ q, H0.size ≤ q → A q)
    (kk : ∀ (H1 : Heap) (locs1 : List Loc), xH G A H0 H1 locs1 (wc' ++ w2) → W p l e R s m args below meth c H1 locs1 (cells + mc) (slots + ms) Q (F0 m (pc + 3) ls rest)) : W p l e R s m args below meth c H locs cells slots Q (F0 m pc ls st0) :=
  va_callv hr hH.2.2 (fun q _ h => x_freeAll (x_lf hH).2.1 hH.2.2 hA q h) (x_freeAll (x_lf hH).2.1 hH.2.2 hA) (fun _ t H1 locs1 ht hvm hp hB hz1 hk1 hS => kk H1 locs1 (x_behL hH hA hk1 (ht ▸ hB.1) hB.2 hS))
end
/-- the throwing call, its object over this method's frame -/
theorem x_crx {E : String} (hr : vx_Run p l e R s m args below meth c H locs cells slots 1 6 (F0 m pc ls st0) rest (fun _ _ _ => False) (xXC G (va_A wc H.size) wc E) (va_A wc H.size)) (hH : xH G A H0 H locs (w1 ++ wc)) (hA : ∀ q, H0.size ≤ q → A q)
    (kx : ∀ (ce : Cell) (q9 : Addr) (H1 : Heap) (locs1 : List Loc), xH G A H0 H1 locs1 (w1 ++ wc) → H1[q9]? = some ce → ce.vm = .none → s.vm.findClass E = some ce.cls → vx_W p l e R s m args below meth c H1 locs1 (cells + 1) (slots + 6) Q (F0 m pc ls rest) q9) :
    W p l e R s m args below meth c H locs cells slots Q (F0 m pc ls st0) := by
  intro T hT X
  have hF := x_freeAll (x_rt hH).2.1 hH.2.2 hA
  rcases hr T hT X with ⟨v, st₀, t, T', L, h0, X', hL, e1, e2, hbad, st⟩ | ⟨q, st₀, t, T', L, E9, ce, h0, X', hL, e1, e2, ⟨u, hp, ⟨rfl, hP, hD⟩, hFr⟩, hce, hcv, hcl, st⟩
  · exact absurd hbad id
  · obtain ⟨k1, k2, k3⟩ := vx_keep h0 e1 hH.2.2 (fun q _ h => hF q h) hF hL hFr
    obtain ⟨t2, a1, b1⟩ := kx ce q T'.heap (locs ++ L) (x_behR hH hA k2 (by rw [e1]; exact hP) hD k3) (by rw [e1]; exact hce) hcv hcl T' rfl X'
    exact ⟨t2, st.trans a1, b1⟩
theorem x_pry {U : State} {av : List Value} {w : va_W} (C : xC p c m s args cc own Ts G) (hX : xX sa s) (hN : xN s) (hZ : xZ A s s.heap) (hA : ∀ q, s.heap.size ≤ q → A q) (hH : xH G A s.heap H locs w) (hU : U.heap = H) (hW : s.WarmedH U.vm) : va_Pc av (xPy G sa w H.size) av.toArray U :=
  ⟨rfl, ⟨by rw [hU], by rw [hU]; exact hH.1, xK.warm hW C.2.2.2.2, hH.2.1.weaken (fun _ _ _ _ => trivial)⟩, xX.warm hW hX, xN.warm hW hN, by rw [hU]; exact ((hZ.kept hH.2.2.2.1).narrow (x_freeAll hH.2.1 hH.2.2 hA)).moved hW.alike⟩
theorem x_by9 {av : List Value} {sz : Nat} {w : va_W} : FrameBlind (va_Pc av (xPy G sa w sz)) := fun a U g mk q => ⟨q.1, ⟨q.2.1.1, q.2.1.2.1, xK.warm (u := U) (U := U.calling g mk a) (State.WarmedH.refl U) q.2.1.2.2.1, q.2.1.2.2.2⟩, xX.warm (u := U) (U := U.calling g mk a) (State.WarmedH.refl U) q.2.2.1, xN.warm (u := U) (U := U.calling g mk a) (State.WarmedH.refl U) q.2.2.2.1, xZ.moved (u := U) (U := U.calling g mk a) (Vm.Alike.refl U.vm) q.2.2.2.2⟩
theorem x_psy {As : List Value} {w : va_W} (C : xC p c m s args cc own Ts G) (hX : xX sa s) (hN : xN s) (hZ : xZ A s s.heap) (hA : ∀ q, s.heap.size ≤ q → A q) (hH : xH G A s.heap H locs w) : PreS s H (va_Pc As (xPy G sa w H.size)) As := ⟨x_by9, fun U hU hW => x_pry C hX hN hZ hA hH hU hW⟩
end XSIDE
