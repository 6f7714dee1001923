/-! throws of the class: what they need beside the world -/
def xW : List Cond := [.declares (Bundle.initS "java/lang/RuntimeException"), .declares (Bundle.initS "java/lang/Exception"), .declares (Bundle.initS "java/lang/Throwable"), .castable "java/lang/IllegalArgumentException" "java/lang/IllegalArgumentException", .castable "java/lang/UnsupportedOperationException" "java/lang/UnsupportedOperationException", .castable "java/util/NoSuchElementException" "java/util/NoSuchElementException", .castable "java/lang/IllegalStateException" "java/lang/IllegalStateException", .castable "java/lang/IndexOutOfBoundsException" "java/lang/IndexOutOfBoundsException"]
def xX (sa : Nat → Nat) (U : State) : Prop := (∀ w ∈ xW, va_Nw w U) ∧ vk_R RX3 55 "no such sink can be" (sa 55) U ∧ vk_R RX3 65 "there are ten sinks" (sa 65) U ∧ vk_R RX3 72 "there are not so many sinks" (sa 72) U ∧ vk_R RX3 74 "no such place" (sa 74) U ∧ vk_R RX3 76 "no such wires" (sa 76) U ∧ vk_R RX3 85 "no such buffer" (sa 85) U ∧ vk_R RX3 96 "no such way" (sa 96) U ∧ vk_R RX3 100 "there is no sink" (sa 100) U ∧ vk_R RX3 132 "no such node or part" (sa 132) U ∧ vk_R RX3 153 "no such join" (sa 153) U ∧ vk_R RX3 158 "no such node" (sa 158) U ∧ vk_R RX3 192 "there is no tree" (sa 192) U ∧ vk_R RX3 195 "no such sink" (sa 195) U
theorem xW.warm {u U : State} (h : u.WarmedH U.vm) (k : ∀ w ∈ xW, va_Nw w u) : ∀ w ∈ xW, va_Nw w U := by
  have hd : ∀ x : MethodName, Cond.declares x ∈ xW → va_Nw (.declares x) U := fun x hx => va_Nw.warmD h (k _ hx)
  have hc : ∀ a b : String, Cond.castable a b ∈ xW → va_Nw (.castable a b) U := fun a b hx => va_Nw.warmC h (k _ hx)
  intro w hw
  have hw0 := hw
  simp only [xW, List.mem_cons, List.not_mem_nil, or_false] at hw
  rcases hw with rfl | rfl | rfl | rfl | rfl | rfl | rfl | rfl
  · exact hd _ hw0
  · exact hd _ hw0
  · exact hd _ hw0
  · exact hc _ _ hw0
  · exact hc _ _ hw0
  · exact hc _ _ hw0
  · exact hc _ _ hw0
  · exact hc _ _ hw0
theorem xX.warm {sa : Nat → Nat} {u U : State} (h : u.WarmedH U.vm) (k : xX sa u) : xX sa U := ⟨xW.warm h k.1, vk_R.warm h k.2.1, vk_R.warm h k.2.2.1, vk_R.warm h k.2.2.2.1, vk_R.warm h k.2.2.2.2.1, vk_R.warm h k.2.2.2.2.2.1, vk_R.warm h k.2.2.2.2.2.2.1, vk_R.warm h k.2.2.2.2.2.2.2.1, vk_R.warm h k.2.2.2.2.2.2.2.2.1, vk_R.warm h k.2.2.2.2.2.2.2.2.2.1, vk_R.warm h k.2.2.2.2.2.2.2.2.2.2.1, vk_R.warm h k.2.2.2.2.2.2.2.2.2.2.2.1, vk_R.warm h k.2.2.2.2.2.2.2.2.2.2.2.2.1, vk_R.warm h k.2.2.2.2.2.2.2.2.2.2.2.2.2⟩
def xZ (A : Nat → Prop) (U : State) (H : Heap) : Prop := vx_Zq Bundle.tN "UNASSIGNED_STACK" Bundle.steD A U H ∧ vx_Zq Bundle.tN "SUPPRESSED_SENTINEL" Bundle.listD A U H
theorem xZ.narrow {A B : Nat → Prop} {U : State} {H : Heap} (h : xZ A U H) (hAB : ∀ q, B q → A q) : xZ B U H := ⟨h.1.narrow hAB, h.2.narrow hAB⟩
theorem xZ.kept {A : Nat → Prop} {U : State} {H H1 : Heap} (h : xZ A U H) (hq : ∀ a : Nat, a < H.size → ¬ A a → H1[a]? = H[a]?) : xZ A U H1 := ⟨h.1.kept hq, h.2.kept hq⟩
theorem xZ.moved {A : Nat → Prop} {u U : State} {H : Heap} (h : u.vm.Alike U.vm) (k : xZ A u H) : xZ A U H := ⟨vx_Zq.moved h k.1, vx_Zq.moved h k.2⟩
/-- E is thrown, the world is as it was -/
def xXC (G : xG) (A : Nat → Prop) (w : va_W) (E : String) : String → State → State → Prop := vx_X (fun _ : Unit => True) (fun E' _ t => E' = E ∧ va_P G.1 vwCl w t.heap ∧ va_D A w) A
def xPx (G : xG) (sa : Nat → Nat) (w : va_W) (sz : Nat) : State → Prop := fun U => (U.heap.size = sz ∧ va_P G.1 vwCl w U.heap ∧ xK G U ∧ va_D (fun _ => True) w) ∧ xX sa U ∧ xZ (va_A w sz) U U.heap
def xMx (l : Launch) (y : MethodName) (ws : List Cond) (rm : Room) (av : List Value) (G : xG) (sa : Nat → Nat) (w : va_W) (E : String) : Prop := ∀ sz : Nat, vx_Met l y ws rm (va_Pc av (xPx G sa w sz)) (fun _ _ _ _ => False) (xXC G (va_A w sz) w E) 1 6 (va_A w sz)
theorem x_ofx {l : Launch} {y : MethodName} {ws ws' : List Cond} {rm : Room} {av : List Value} {G : xG} {sa : Nat → Nat} {w : va_W} {E : String} {cc : ByteArray} {maxL : Nat} {ret : Option FieldType} (hy : plainName y.cls = true) (hw : ws = Cond.code y cc maxL ret :: ws') (hn : (lg_sl av).length ≤ maxL)
    (body : ∀ (p : Program) (e : Env) (s : State) (m : MethodId) (args : Array Value) (below : List Frame) (meth : Method) (c : Code) (ls : Array Slot) (A : Nat → Prop), xC p c m s args cc y.cls ws G → c.maxLocals = maxL → (∀ q : Nat, s.heap.size ≤ q → A q) → xH G A s.heap s.heap [] w → lv_has ls maxL (lv_args 0 av) → xX sa s → xZ A s s.heap → meth.locks = false → (∀ x ∈ c.exceptionTable.toList, False) →
      W p l e rm s m args below meth c s.heap [] 0 0 (vx_MQ below (fun _ _ _ _ => False) (xXC G A w E) args s 1 6 A) (F0 m 0 ls [])) : xMx l y ws rm av G sa w E := by
  intro sz
  refine vx_ofW (cc := cc) (maxL := maxL) (ret := ret) hy hw ?_
  intro p e s m args below meth c s₁ B hml hno hv
  obtain ⟨rfl, ⟨hsz, hP, hK, hD0⟩, hX, hZ⟩ := hv
  subst hsz
  have hts := atoms_spec (ws := ws) B.pre
  have hown : s.vm.findClass y.cls = some m.cls := findClass_of_methodNamed B.named
  have hl := lv_entry av (n := maxL) hn
  rw [lg_entry_eq]
  exact body p e s m _ below meth c _ (va_A w s.heap.size) ⟨B.exec, B.bytes, hown, hts, hK⟩ hml (fun q h => Or.inr h) ⟨hP, hD0.self, va_S.rf⟩ hl hX hZ B.notSynchronized hno
section XTHROW
variable {p : Program} {l : Launch} {e : Env} {R : Room} {s : State} {m : MethodId} {args : Array Value} {below : List Frame} {meth : Method} {c : Code} {H : Heap} {locs : List Loc} {cells slots : Nat}
variable {cc : ByteArray} {pc : Nat} {ls : Array Slot} {rest : List Value} {A : Nat → Prop} {own : String} {Ts : List Cond} {G : xG} {w : va_W} {sa : Nat → Nat}
theorem x_kept {t : State} {E : String} (hH : xH G A s.heap H locs w) (hz : H.size ≤ t.heap.size) (hq : ∀ q : Nat, q < H.size → t.heap[q]? = H[q]?) : xXC G A w E E s t :=
  ⟨(), trivial, ⟨rfl, hH.1.kept (fun k q hk => hq q.1 (hH.1 k q hk).lt), hH.2.1⟩, Nat.le_trans hH.2.2.1 hz, fun q h1 h2 => by rw [hq q (Nat.lt_of_lt_of_le h1 hH.2.2.1)]; exact hH.2.2.2.1 q h1 h2⟩
theorem xh_IAE : ∀ w ∈ (vx_atS RX3 57 "java/lang/IllegalArgumentException" ["java/lang/RuntimeException", "java/lang/Exception"]).filter (fun w => !goodWord w), w ∈ xW := by decide +kernel
theorem xo_IAE : ∀ w ∈ Cond.classLink RX3 53 "java/lang/IllegalArgumentException" :: Cond.initialized "java/lang/IllegalArgumentException" :: vx_atS RX3 57 "java/lang/IllegalArgumentException" ["java/lang/RuntimeException", "java/lang/Exception"], vx_ot w = true := by decide +kernel
theorem x_thr_IAE {text : String} {is : Nat} (C : xC p c m s args cc RX3 Ts G) (hl : l.stackTraces = false) (hX : ∀ w ∈ xW, va_Nw w s) (hstr : vk_R RX3 is text (sa is) s) (hZ : xZ A s s.heap) (hsize : ls.size = c.maxLocals) (hlocks : meth.locks = false) (hno : ∀ x ∈ c.exceptionTable.toList, False) (hH : xH G A s.heap H locs w)
    (i1 i2 : Nat) (h1 : Ts[i1]? = some (Cond.classLink RX3 53 "java/lang/IllegalArgumentException")) (h2 : Ts[i2]? = some (Cond.initialized "java/lang/IllegalArgumentException")) (h3 : ∀ w ∈ (vx_atS RX3 57 "java/lang/IllegalArgumentException" ["java/lang/RuntimeException", "java/lang/Exception"]).filter goodWord, w ∈ Ts)
    (d0 : decode cc pc = .ok (.new 53, 3)) (d3 : decode cc (pc + 3) = .ok (.dup, 1)) (d4 : decode cc (pc + 4) = .ok (.ldc is, 2)) (d6 : decode cc (pc + 6) = .ok (.invokespecial 57, 3)) (d9 : decode cc (pc + 9) = .ok (.athrow, 1))
    (r1 : 5 < R.frames) (r2 : (rest.map fun v => v.category).sum + 82 ≤ R.locals) (r3 : cells + 1 ≤ R.cells) (r4 : slots + 6 ≤ R.slots) (r5 : cells + 1 ≤ 1) (r6 : slots + 6 ≤ 6) :
    W p l e R s m args below meth c H locs cells slots (vx_MQ below (fun _ _ _ _ => False) (xXC G A w "java/lang/IllegalArgumentException") args s 1 6 A) (F0 m pc ls rest) := by
  obtain ⟨hx, hb, hown, hts, hK⟩ := C
  exact vx_throwS hx hb hl hown (by decide) (by decide) (hts _ (List.mem_of_getElem? h1)) (hts _ (List.mem_of_getElem? h2)) hstr (vx_hat (B := xW) (fun w hw => hts w (h3 w hw)) xh_IAE (fun w hw => va_Nw.use (by revert w; decide) (hX w hw))) xo_IAE hZ.1 hZ.2 hH.2.2 hsize d0 d3 d4 d6 d9 (fun x hx => absurd (hno x hx) id) r1 r2 r3 r4 hlocks
    (fun t _ hz hq => x_kept hH hz hq) hH.2.2.2.2 r5 r6
theorem xh_UOE : ∀ w ∈ (vx_atS RX3 67 "java/lang/UnsupportedOperationException" ["java/lang/RuntimeException", "java/lang/Exception"]).filter (fun w => !goodWord w), w ∈ xW := by decide +kernel
theorem xo_UOE : ∀ w ∈ Cond.classLink RX3 63 "java/lang/UnsupportedOperationException" :: Cond.initialized "java/lang/UnsupportedOperationException" :: vx_atS RX3 67 "java/lang/UnsupportedOperationException" ["java/lang/RuntimeException", "java/lang/Exception"], vx_ot w = true := by decide +kernel
theorem x_thr_UOE {text : String} {is : Nat} (C : xC p c m s args cc RX3 Ts G) (hl : l.stackTraces = false) (hX : ∀ w ∈ xW, va_Nw w s) (hstr : vk_R RX3 is text (sa is) s) (hZ : xZ A s s.heap) (hsize : ls.size = c.maxLocals) (hlocks : meth.locks = false) (hno : ∀ x ∈ c.exceptionTable.toList, False) (hH : xH G A s.heap H locs w)
    (i1 i2 : Nat) (h1 : Ts[i1]? = some (Cond.classLink RX3 63 "java/lang/UnsupportedOperationException")) (h2 : Ts[i2]? = some (Cond.initialized "java/lang/UnsupportedOperationException")) (h3 : ∀ w ∈ (vx_atS RX3 67 "java/lang/UnsupportedOperationException" ["java/lang/RuntimeException", "java/lang/Exception"]).filter goodWord, w ∈ Ts)
    (d0 : decode cc pc = .ok (.new 63, 3)) (d3 : decode cc (pc + 3) = .ok (.dup, 1)) (d4 : decode cc (pc + 4) = .ok (.ldc is, 2)) (d6 : decode cc (pc + 6) = .ok (.invokespecial 67, 3)) (d9 : decode cc (pc + 9) = .ok (.athrow, 1))
    (r1 : 5 < R.frames) (r2 : (rest.map fun v => v.category).sum + 82 ≤ R.locals) (r3 : cells + 1 ≤ R.cells) (r4 : slots + 6 ≤ R.slots) (r5 : cells + 1 ≤ 1) (r6 : slots + 6 ≤ 6) :
    W p l e R s m args below meth c H locs cells slots (vx_MQ below (fun _ _ _ _ => False) (xXC G A w "java/lang/UnsupportedOperationException") args s 1 6 A) (F0 m pc ls rest) := by
  obtain ⟨hx, hb, hown, hts, hK⟩ := C
  exact vx_throwS hx hb hl hown (by decide) (by decide) (hts _ (List.mem_of_getElem? h1)) (hts _ (List.mem_of_getElem? h2)) hstr (vx_hat (B := xW) (fun w hw => hts w (h3 w hw)) xh_UOE (fun w hw => va_Nw.use (by revert w; decide) (hX w hw))) xo_UOE hZ.1 hZ.2 hH.2.2 hsize d0 d3 d4 d6 d9 (fun x hx => absurd (hno x hx) id) r1 r2 r3 r4 hlocks
    (fun t _ hz hq => x_kept hH hz hq) hH.2.2.2.2 r5 r6
theorem xh_IOB : ∀ w ∈ (vx_atS RX3 134 "java/lang/IndexOutOfBoundsException" ["java/lang/RuntimeException", "java/lang/Exception"]).filter (fun w => !goodWord w), w ∈ xW := by decide +kernel
theorem xo_IOB : ∀ w ∈ Cond.classLink RX3 130 "java/lang/IndexOutOfBoundsException" :: Cond.initialized "java/lang/IndexOutOfBoundsException" :: vx_atS RX3 134 "java/lang/IndexOutOfBoundsException" ["java/lang/RuntimeException", "java/lang/Exception"], vx_ot w = true := by decide +kernel
theorem x_thr_IOB {text : String} {is : Nat} (C : xC p c m s args cc RX3 Ts G) (hl : l.stackTraces = false) (hX : ∀ w ∈ xW, va_Nw w s) (hstr : vk_R RX3 is text (sa is) s) (hZ : xZ A s s.heap) (hsize : ls.size = c.maxLocals) (hlocks : meth.locks = false) (hno : ∀ x ∈ c.exceptionTable.toList, False) (hH : xH G A s.heap H locs w)
    (i1 i2 : Nat) (h1 : Ts[i1]? = some (Cond.classLink RX3 130 "java/lang/IndexOutOfBoundsException")) (h2 : Ts[i2]? = some (Cond.initialized "java/lang/IndexOutOfBoundsException")) (h3 : ∀ w ∈ (vx_atS RX3 134 "java/lang/IndexOutOfBoundsException" ["java/lang/RuntimeException", "java/lang/Exception"]).filter goodWord, w ∈ Ts)
    (d0 : decode cc pc = .ok (.new 130, 3)) (d3 : decode cc (pc + 3) = .ok (.dup, 1)) (d4 : decode cc (pc + 4) = .ok (.ldc is, 2)) (d6 : decode cc (pc + 6) = .ok (.invokespecial 134, 3)) (d9 : decode cc (pc + 9) = .ok (.athrow, 1))
    (r1 : 5 < R.frames) (r2 : (rest.map fun v => v.category).sum + 82 ≤ R.locals) (r3 : cells + 1 ≤ R.cells) (r4 : slots + 6 ≤ R.slots) (r5 : cells + 1 ≤ 1) (r6 : slots + 6 ≤ 6) :
    W p l e R s m args below meth c H locs cells slots (vx_MQ below (fun _ _ _ _ => False) (xXC G A w "java/lang/IndexOutOfBoundsException") args s 1 6 A) (F0 m pc ls rest) := by
  obtain ⟨hx, hb, hown, hts, hK⟩ := C
  exact vx_throwS hx hb hl hown (by decide) (by decide) (hts _ (List.mem_of_getElem? h1)) (hts _ (List.mem_of_getElem? h2)) hstr (vx_hat (B := xW) (fun w hw => hts w (h3 w hw)) xh_IOB (fun w hw => va_Nw.use (by revert w; decide) (hX w hw))) xo_IOB hZ.1 hZ.2 hH.2.2 hsize d0 d3 d4 d6 d9 (fun x hx => absurd (hno x hx) id) r1 r2 r3 r4 hlocks
    (fun t _ hz hq => x_kept hH hz hq) hH.2.2.2.2 r5 r6
theorem xh_ISE : ∀ w ∈ (vx_atS RX3 194 "java/lang/IllegalStateException" ["java/lang/RuntimeException", "java/lang/Exception"]).filter (fun w => !goodWord w), w ∈ xW := by decide +kernel
theorem xo_ISE : ∀ w ∈ Cond.classLink RX3 190 "java/lang/IllegalStateException" :: Cond.initialized "java/lang/IllegalStateException" :: vx_atS RX3 194 "java/lang/IllegalStateException" ["java/lang/RuntimeException", "java/lang/Exception"], vx_ot w = true := by decide +kernel
theorem x_thr_ISE {text : String} {is : Nat} (C : xC p c m s args cc RX3 Ts G) (hl : l.stackTraces = false) (hX : ∀ w ∈ xW, va_Nw w s) (hstr : vk_R RX3 is text (sa is) s) (hZ : xZ A s s.heap) (hsize : ls.size = c.maxLocals) (hlocks : meth.locks = false) (hno : ∀ x ∈ c.exceptionTable.toList, False) (hH : xH G A s.heap H locs w)
    (i1 i2 : Nat) (h1 : Ts[i1]? = some (Cond.classLink RX3 190 "java/lang/IllegalStateException")) (h2 : Ts[i2]? = some (Cond.initialized "java/lang/IllegalStateException")) (h3 : ∀ w ∈ (vx_atS RX3 194 "java/lang/IllegalStateException" ["java/lang/RuntimeException", "java/lang/Exception"]).filter goodWord, w ∈ Ts)
    (d0 : decode cc pc = .ok (.new 190, 3)) (d3 : decode cc (pc + 3) = .ok (.dup, 1)) (d4 : decode cc (pc + 4) = .ok (.ldc is, 2)) (d6 : decode cc (pc + 6) = .ok (.invokespecial 194, 3)) (d9 : decode cc (pc + 9) = .ok (.athrow, 1))
    (r1 : 5 < R.frames) (r2 : (rest.map fun v => v.category).sum + 82 ≤ R.locals) (r3 : cells + 1 ≤ R.cells) (r4 : slots + 6 ≤ R.slots) (r5 : cells + 1 ≤ 1) (r6 : slots + 6 ≤ 6) :
    W p l e R s m args below meth c H locs cells slots (vx_MQ below (fun _ _ _ _ => False) (xXC G A w "java/lang/IllegalStateException") args s 1 6 A) (F0 m pc ls rest) := by
  obtain ⟨hx, hb, hown, hts, hK⟩ := C
  exact vx_throwS hx hb hl hown (by decide) (by decide) (hts _ (List.mem_of_getElem? h1)) (hts _ (List.mem_of_getElem? h2)) hstr (vx_hat (B := xW) (fun w hw => hts w (h3 w hw)) xh_ISE (fun w hw => va_Nw.use (by revert w; decide) (hX w hw))) xo_ISE hZ.1 hZ.2 hH.2.2 hsize d0 d3 d4 d6 d9 (fun x hx => absurd (hno x hx) id) r1 r2 r3 r4 hlocks
    (fun t _ hz hq => x_kept hH hz hq) hH.2.2.2.2 r5 r6
theorem x_bx {av : List Value} {sz : Nat} : FrameBlind (va_Pc av (xPx G sa w sz)) := fun a U g mk q => ⟨q.1, ⟨q.2.1.1, q.2.1.2.1, xK.warm (u := U) (U := U.calling g mk a) (State.WarmedH.refl U) q.2.1.2.2.1, q.2.1.2.2.2⟩, xX.warm (u := U) (U := U.calling g mk a) (State.WarmedH.refl U) q.2.2.1, xZ.moved (u := U) (U := U.calling g mk a) (Vm.Alike.refl U.vm) q.2.2.2⟩
theorem x_prx {U : State} {av : List Value} (C : xC p c m s args cc own Ts G) (hX : xX sa s) (hZ : xZ A s s.heap) (hA : ∀ q, s.heap.size ≤ q → A q) (hH : xH G A s.heap H locs w) (hU : U.heap = H) (hW : s.WarmedH U.vm) : va_Pc av (xPx G sa w H.size) av.toArray U :=
  ⟨rfl, ⟨by rw [hU], by rw [hU]; exact hH.1, xK.warm hW C.2.2.2.2, hH.2.1.weaken (fun _ _ _ _ => trivial)⟩, xX.warm hW hX, by rw [hU]; exact ((hZ.kept hH.2.2.2.1).narrow (x_freeAll hH.2.1 hH.2.2 hA)).moved hW.alike⟩
theorem x_pvx {C9 : String} {b q0 ci : Nat} {fs : List Value} {q : vw_C} {As av : List Value} (C : xC p c m s args cc own Ts G) (hX : xX sa s) (hZ : xZ A s s.heap) (hA : ∀ q, s.heap.size ≤ q → A q) (hH : xH G A s.heap H locs w) (hav : av = .ref b :: As) (he : w[q0]? = some (b, .inr (ci, fs))) (hc : vwCl[ci]? = some q) (hC : q.1 = C9) : PreV s H C9 b (va_Pc av (xPx G sa w H.size)) As := by
  subst hav
  refine ⟨x_bx, ?_, fun U hU hW => x_prx C hX hZ hA hH hU hW⟩
  have := va_recv C.2.2.2.2.1 hH.1 hc he
  rw [hC] at this
  exact this
/-- a call that throws, out of a method that catches nothing -/
theorem x_cx {E : String} {st0 : List Value} {a9 : Array Value} (hr : vx_Run p l e R s m args below meth c H locs cells slots 1 6 (F0 m pc ls st0) rest (fun _ _ _ => False) (xXC G (va_A w H.size) w E) (va_A w H.size)) (hA : ∀ q, s.heap.size ≤ q → A q) (hH : xH G A s.heap H locs w) (hlocks : meth.locks = false) (hno : ∀ x ∈ c.exceptionTable.toList, False) (r5 : cells + 1 ≤ 1) (r6 : slots + 6 ≤ 6) :
    W p l e R s m args below meth c H locs cells slots (vx_MQ below (fun _ _ _ _ => False) (xXC G A w E) args s 1 6 A) (F0 m pc ls st0) := by
  intro T hT X
  have hF := x_freeAll hH.2.1 hH.2.2 hA
  rcases hr T hT X with ⟨v, st₀, t, T', L, h0, X', hL, e1, e2, hbad, st⟩ | ⟨q, st₀, t, T', L, E9, ce, h0, X', hL, e1, e2, ⟨u, hp, ⟨rfl, hP, hD⟩, hFr⟩, hce, hcv, hcl, st⟩
  · exact absurd hbad id
  · obtain ⟨k1, k2, k3⟩ := vx_keep h0 e1 hH.2.2 (fun q _ h => hF q h) hF hL hFr
    have hH1 : xH G A s.heap T'.heap (locs ++ L) w := ⟨by rw [e1]; exact hP, hD.weaken (fun _ q _ h => hF q.1 h), k3⟩
    obtain ⟨t2, a1, b1⟩ := vx_out (pc := pc) (ls := ls) (rest := rest) (Qc := fun _ _ _ _ => False) (XC := xXC G A w E9) (free := A) (mc := 1) (ms := 6) (fun x hx => absurd (hno x hx) id) hlocks (H := T'.heap) (by rw [e1]; exact hce) hcv hcl (fun t9 h9 _ => x_kept hH1 (by rw [h9]; exact Nat.le_refl _) (fun q _ => by rw [h9])) k3.2.2 r5 r6 T' rfl X'
    exact ⟨t2, st.trans a1, b1⟩
end XTHROW
