/-! Worlds, contracts and calls of this claim: my own words. -/
abbrev xG : Type := va_G × (Nat → ClassId)
def xTy (G : xG) : List (ClassId × FieldType) := [(G.2 0, .int), (G.2 1, .long), (G.2 2, .boolean)]
def xK (G : xG) (U : State) : Prop := va_K G.1 vwCl (xTy G) U ∧ va_Nw (.methodLinkNest RX2 66 yX3_placeU RX3) U ∧ va_Nw (.methodLinkNest RX2 70 yX3_placeV RX3) U
theorem xK.warm {G : xG} {u U : State} (h : u.WarmedH U.vm) (k : xK G u) : xK G U := ⟨va_K.moved h.alike k.1, va_Nw.warmM h k.2.1, va_Nw.warmM h k.2.2⟩
def tS {α : Type} (T : Nat → α) (j : Nat) (f : α) : Nat → α := fun k => if k = j then f else T k
theorem tS_self {α : Type} (T : Nat → α) (j : Nat) (f : α) : tS T j f j = f := if_pos rfl
theorem tS_ne {α : Type} (T : Nat → α) {j k : Nat} (f : α) (h : k ≠ j) : tS T j f k = T k := if_neg h

def wX (G : xG) (a : Nat → Nat) (S T : Nat → Nat → Int32) (L : Nat → Nat → Int64) (F : Nat → Int32) (bs : Int64) : va_W := [(a 0, .inr (3, [.ref (a 1), .ref (a 6), .ref (a 19), .int (F 0), .int (F 1), .int (F 2), .int (F 3)])), (a 1, .inr (1, [.ref (a 2), .ref (a 3), .ref (a 4), .ref (a 5), .int (F 4)])), (a 2, .inl (G.2 0, 10, .inl (S 0))), (a 3, .inl (G.2 0, 10, .inl (S 1))), (a 4, .inl (G.2 0, 10, .inl (S 2))), (a 5, .inl (G.2 0, 10, .inl (S 3))), (a 6, .inr (2, [.ref (a 7), .ref (a 8), .ref (a 9), .ref (a 10), .ref (a 11), .ref (a 12), .ref (a 13), .ref (a 14), .ref (a 15), .ref (a 16), .ref (a 17), .ref (a 18), .int (F 5), .int (F 6)])), (a 7, .inl (G.2 0, 19, .inl (T 0))), (a 8, .inl (G.2 0, 19, .inl (T 1))), (a 9, .inl (G.2 0, 19, .inl (T 2))), (a 10, .inl (G.2 0, 19, .inl (T 3))), (a 11, .inl (G.2 0, 19, .inl (T 4))), (a 12, .inl (G.2 0, 19, .inl (T 5))), (a 13, .inl (G.2 0, 19, .inl (T 6))), (a 14, .inl (G.2 0, 19, .inl (T 7))), (a 15, .inl (G.2 0, 19, .inl (T 8))), (a 16, .inl (G.2 0, 19, .inl (T 9))), (a 17, .inl (G.2 0, 19, .inl (T 10))), (a 18, .inl (G.2 0, 10, .inl (T 11))), (a 19, .inr (0, [.ref (a 20), .ref (a 21), .ref (a 22), .int (F 7), .int (F 8), .int (F 9), .int (F 10), .int (F 11), .long bs, .int (F 12)])), (a 20, .inl (G.2 1, 19, .inr (.inl (L 0)))), (a 21, .inl (G.2 1, 19, .inr (.inl (L 1)))), (a 22, .inl (G.2 1, 19, .inr (.inl (L 2))))]
def wM (G : xG) (a : Nat → Nat) (S T K Z : Nat → Nat → Int32) (L : Nat → Nat → Int64) (F : Nat → Int32) : va_W := [(a 0, .inr (4, [.int (F 3), .int (F 4), .ref (a 1), .ref (a 2), .ref (a 3), .ref (a 4), .int (F 0), .int (F 1), .int (F 7), .int (F 8), .int (F 9), .int (F 10), .int (F 11), .int (F 2), .int (F 6), .ref (a 5), .ref (a 6), .ref (a 7), .ref (a 8), .ref (a 9), .ref (a 10), .ref (a 11), .ref (a 12), .ref (a 13), .ref (a 14), .ref (a 15), .ref (a 16), .ref (a 17), .ref (a 18), .int (F 5), .ref (a 19), .ref (a 20), .ref (a 21), .ref (a 22), .ref (a 23), .ref (a 24), .ref (a 25)])), (a 1, .inl (G.2 0, 10, .inl (S 0))), (a 2, .inl (G.2 0, 10, .inl (S 1))), (a 3, .inl (G.2 0, 10, .inl (S 2))), (a 4, .inl (G.2 0, 10, .inl (S 3))), (a 5, .inl (G.2 0, 19, .inl (T 0))), (a 6, .inl (G.2 0, 19, .inl (T 1))), (a 7, .inl (G.2 0, 19, .inl (T 2))), (a 8, .inl (G.2 0, 19, .inl (T 3))), (a 9, .inl (G.2 0, 19, .inl (T 4))), (a 10, .inl (G.2 0, 19, .inl (T 5))), (a 11, .inl (G.2 0, 19, .inl (T 6))), (a 12, .inl (G.2 0, 19, .inl (T 7))), (a 13, .inl (G.2 0, 19, .inl (T 8))), (a 14, .inl (G.2 0, 19, .inl (T 9))), (a 15, .inl (G.2 0, 19, .inl (T 10))), (a 16, .inl (G.2 2, 19, .inl (Z 0))), (a 17, .inl (G.2 2, 19, .inl (Z 1))), (a 18, .inl (G.2 0, 10, .inl (T 11))), (a 19, .inl (G.2 0, 12, .inl (K 0))), (a 20, .inl (G.2 0, 12, .inl (K 1))), (a 21, .inl (G.2 0, 12, .inl (K 2))), (a 22, .inl (G.2 0, 12, .inl (K 3))), (a 23, .inl (G.2 0, 12, .inl (K 4))), (a 24, .inl (G.2 1, 19, .inr (.inl (L 0)))), (a 25, .inl (G.2 1, 19, .inr (.inl (L 1))))]
section XBASE
variable {p : Program} {l : Launch} {e : Env} {R : Room} {s : State} {m : MethodId} {args : Array Value} {below : List Frame} {meth : Method} {c : Code} {H : Heap} {locs : List Loc} {cells slots : Nat} {Q : State → Prop}
variable {cc : ByteArray} {pc : Nat} {ls : Array Slot} {rest : List Value} {A : Nat → Prop} {H0 : Heap} {own : String} {Ts : List Cond} {G : xG} {a : Nat → Nat} {w w' : va_W}
/-- what stays the same through a method's walk -/
def xC (p : Program) (c : Code) (m : MethodId) (s : State) (args : Array Value) (cc : ByteArray) (own : String) (Ts : List Cond) (G : xG) : Prop := p.tables.exec = Jvm.exec ∧ c.code = cc ∧ s.vm.findClass own = some m.cls ∧ (∀ w ∈ Ts, w.before args s = true) ∧ xK G s
/-- the heap holds w, apart, in A; nothing else has changed since H0 -/
def xH (G : xG) (A : Nat → Prop) (H0 H : Heap) (locs : List Loc) (w : va_W) : Prop := va_P G.1 vwCl w H ∧ va_D A w ∧ va_S A H0 H locs
theorem x_toi {x y : Int32} (h : x = y) (k : W p l e R s m args below meth c H locs cells slots Q (F0 m pc ls (.int y :: rest))) : W p l e R s m args below meth c H locs cells slots Q (F0 m pc ls (.int x :: rest)) := h ▸ k
theorem x_tol {x y : Int64} (h : x = y) (k : W p l e R s m args below meth c H locs cells slots Q (F0 m pc ls (.long y :: rest))) : W p l e R s m args below meth c H locs cells slots Q (F0 m pc ls (.long x :: rest)) := h ▸ k
theorem x_eqw (h : w = w') (k : xH G A H0 H locs w) : xH G A H0 H locs w' := h ▸ k
theorem x_get {ref C : String} {T : u_T} {N ci index : Nat} (h : xC p c m s args cc own Ts G) (hin : ∀ w ∈ u_ws C T N, w ∈ Ts) (hH : xH G A H0 H locs w) (q0 : Nat) {b : Nat} {fs : List Value} (he : w[q0]? = some (b, .inr (ci, fs))) (hc : vwCl[ci]? = some (C, T, N)) (k : Nat) (hk : k < N) (hr : (T k).1 = ref) {v : Value} (hv : fs[k]? = some v) (i : Nat) (hl : Ts[i]? = some (Cond.fieldLink own index ref (T k).2.1 (T k).2.2.1)) (hdg : decode cc pc = .ok (.getfield index, 3))
    (kk : W p l e R s m args below meth c H locs cells slots Q (F0 m (pc + 3) ls (v :: rest))) : W p l e R s m args below meth c H locs cells slots Q (F0 m pc ls (.ref b :: rest)) := by
  obtain ⟨hx, hb, hown, hts, hK⟩ := h
  subst hr
  exact va_get hx hb hts hin hown hK.1 hH.1 q0 he hc k hk (hts _ (List.mem_of_getElem? hl)) (fun _ h9 => h9) hv hdg kk
theorem x_put {ref C : String} {T : u_T} {N ci index : Nat} (h : xC p c m s args cc own Ts G) (hin : ∀ w ∈ u_ws C T N, w ∈ Ts) (ty0 : Nat → FieldType) (hty : ∀ k, k < N → parseFieldDescriptor (T k).2.2.1 = some (ty0 k)) (hnm : ∀ a, a < N → ∀ b, b < N → a ≠ b → (T a).2.1 ≠ (T b).2.1) (hH : xH G A H0 H locs w) (q0 : Nat) {b : Nat} {fs : List Value} (he : w[q0]? = some (b, .inr (ci, fs))) (hc : vwCl[ci]? = some (C, T, N)) (k : Nat) (hk : k < N) (hr : (T k).1 = ref) (hfin : (T k).2.2.2 = false) {v : Value} (hn : narrow (ty0 k) v = v) (hfit : fits (ty0 k) v = true) (hlen : k < fs.length) (hw : w.set q0 (b, .inr (ci, fs.set k v)) = w') (i : Nat) (hl : Ts[i]? = some (Cond.fieldLink own index ref (T k).2.1 (T k).2.2.1)) (hdg : decode cc pc = .ok (.putfield index, 3))
    (kk : ∀ (H1 : Heap) (locs1 : List Loc), xH G A H0 H1 locs1 w' → W p l e R s m args below meth c H1 locs1 cells slots Q (F0 m (pc + 3) ls rest)) : W p l e R s m args below meth c H locs cells slots Q (F0 m pc ls (v :: .ref b :: rest)) := by
  obtain ⟨hx, hb, hown, hts, hK⟩ := h
  subst hr
  subst hw
  exact va_put hx hb hts hin ty0 hty hnm hown hK.1 hH.1 hH.2.1 hH.2.2 q0 he hc k hk (hts _ (List.mem_of_getElem? hl)) (fun _ h9 => h9) hfin (hty k hk) hn hfit hlen hdg (fun H1 locs1 h1 h2 h3 => kk H1 locs1 ⟨h1, h2, h3⟩)
theorem x_iald (h : xC p c m s args cc own Ts G) (hH : xH G A H0 H locs w) (q0 : Nat) {b n : Nat} {f : Nat → Int32} (he : w[q0]? = some (b, .inl (G.2 0, n, .inl f))) {j : Nat} (hj : j < n) (hn : n < 2 ^ 31) {v : Int32} (hv : f j = v) (hdg : decode cc pc = .ok (.iaload, 1))
    (kk : W p l e R s m args below meth c H locs cells slots Q (F0 m (pc + 1) ls (.int v :: rest))) : W p l e R s m args below meth c H locs cells slots Q (F0 m pc ls (.int (nI j) :: .ref b :: rest)) := by
  obtain ⟨hx, hb, hown, hts, hK⟩ := h
  subst hv
  refine va_iald hx hb hK.1 hH.1 q0 0 he rfl (vp_in_nI hj hn) hdg ?_
  rw [nI_clamp (Nat.lt_trans hj hn)]
  exact kk
theorem x_zald (h : xC p c m s args cc own Ts G) (hH : xH G A H0 H locs w) (q0 : Nat) {b n : Nat} {f : Nat → Int32} (he : w[q0]? = some (b, .inl (G.2 2, n, .inl f))) {j : Nat} (hj : j < n) (hn : n < 2 ^ 31) {v : Int32} (hv : f j = v) (hdg : decode cc pc = .ok (.baload, 1))
    (kk : W p l e R s m args below meth c H locs cells slots Q (F0 m (pc + 1) ls (.int v :: rest))) : W p l e R s m args below meth c H locs cells slots Q (F0 m pc ls (.int (nI j) :: .ref b :: rest)) := by
  obtain ⟨hx, hb, hown, hts, hK⟩ := h
  subst hv
  refine va_zald hx hb hK.1 hH.1 q0 2 he rfl (vp_in_nI hj hn) hdg ?_
  rw [nI_clamp (Nat.lt_trans hj hn)]
  exact kk
theorem x_lald (h : xC p c m s args cc own Ts G) (hH : xH G A H0 H locs w) (q0 : Nat) {b n : Nat} {f : Nat → Int64} (he : w[q0]? = some (b, .inl (G.2 1, n, .inr (.inl f)))) {j : Nat} (hj : j < n) (hn : n < 2 ^ 31) {v : Int64} (hv : f j = v) (hdg : decode cc pc = .ok (.laload, 1))
    (kk : W p l e R s m args below meth c H locs cells slots Q (F0 m (pc + 1) ls (.long v :: rest))) : W p l e R s m args below meth c H locs cells slots Q (F0 m pc ls (.int (nI j) :: .ref b :: rest)) := by
  obtain ⟨hx, hb, hown, hts, hK⟩ := h
  subst hv
  refine va_lald hx hb hK.1 hH.1 q0 1 he rfl (vp_in_nI hj hn) hdg ?_
  rw [nI_clamp (Nat.lt_trans hj hn)]
  exact kk
theorem x_iast (h : xC p c m s args cc own Ts G) (hH : xH G A H0 H locs w) (q0 : Nat) {b n : Nat} {f : Nat → Int32} (he : w[q0]? = some (b, .inl (G.2 0, n, .inl f))) {j : Nat} (hj : j < n) (hn : n < 2 ^ 31) {x : Int32} (hw : w.set q0 (b, .inl (G.2 0, n, .inl (upd f j x))) = w') (hdg : decode cc pc = .ok (.iastore, 1))
    (kk : ∀ (H1 : Heap) (locs1 : List Loc), xH G A H0 H1 locs1 w' → W p l e R s m args below meth c H1 locs1 cells slots Q (F0 m (pc + 1) ls rest)) : W p l e R s m args below meth c H locs cells slots Q (F0 m pc ls (.int x :: .int (nI j) :: .ref b :: rest)) := by
  obtain ⟨hx, hb, hown, hts, hK⟩ := h
  subst hw
  refine va_iast hx hb hK.1 hH.1 hH.2.1 hH.2.2 q0 0 he rfl (vp_in_nI hj hn) hdg (fun H1 locs1 h1 h2 h3 => kk H1 locs1 ⟨?_, ?_, h3⟩)
  · rw [nI_clamp (Nat.lt_trans hj hn)] at h1; exact h1
  · rw [nI_clamp (Nat.lt_trans hj hn)] at h2; exact h2
theorem x_zast (h : xC p c m s args cc own Ts G) (hH : xH G A H0 H locs w) (q0 : Nat) {b n : Nat} {f : Nat → Int32} (he : w[q0]? = some (b, .inl (G.2 2, n, .inl f))) {j : Nat} (hj : j < n) (hn : n < 2 ^ 31) {x : Int32} (hnx : vp_nar .boolean x = x) (hw : w.set q0 (b, .inl (G.2 2, n, .inl (upd f j x))) = w') (hdg : decode cc pc = .ok (.bastore, 1))
    (kk : ∀ (H1 : Heap) (locs1 : List Loc), xH G A H0 H1 locs1 w' → W p l e R s m args below meth c H1 locs1 cells slots Q (F0 m (pc + 1) ls rest)) : W p l e R s m args below meth c H locs cells slots Q (F0 m pc ls (.int x :: .int (nI j) :: .ref b :: rest)) := by
  obtain ⟨hx, hb, hown, hts, hK⟩ := h
  subst hw
  refine va_zast hx hb hK.1 hH.1 hH.2.1 hH.2.2 q0 2 he rfl (vp_in_nI hj hn) hdg (fun H1 locs1 h1 h2 h3 => kk H1 locs1 ⟨?_, ?_, h3⟩)
  · rw [nI_clamp (Nat.lt_trans hj hn), hnx] at h1; exact h1
  · rw [nI_clamp (Nat.lt_trans hj hn), hnx] at h2; exact h2
theorem x_last (h : xC p c m s args cc own Ts G) (hH : xH G A H0 H locs w) (q0 : Nat) {b n : Nat} {f : Nat → Int64} (he : w[q0]? = some (b, .inl (G.2 1, n, .inr (.inl f)))) {j : Nat} (hj : j < n) (hn : n < 2 ^ 31) {x : Int64} (hw : w.set q0 (b, .inl (G.2 1, n, .inr (.inl (vp_updL f j x)))) = w') (hdg : decode cc pc = .ok (.lastore, 1))
    (kk : ∀ (H1 : Heap) (locs1 : List Loc), xH G A H0 H1 locs1 w' → W p l e R s m args below meth c H1 locs1 cells slots Q (F0 m (pc + 1) ls rest)) : W p l e R s m args below meth c H locs cells slots Q (F0 m pc ls (.long x :: .int (nI j) :: .ref b :: rest)) := by
  obtain ⟨hx, hb, hown, hts, hK⟩ := h
  subst hw
  refine va_last hx hb hK.1 hH.1 hH.2.1 hH.2.2 q0 1 he rfl (vp_in_nI hj hn) hdg (fun H1 locs1 h1 h2 h3 => kk H1 locs1 ⟨?_, ?_, h3⟩)
  · rw [nI_clamp (Nat.lt_trans hj hn)] at h1; exact h1
  · rw [nI_clamp (Nat.lt_trans hj hn)] at h2; exact h2

section
variable {G : xG} {a : Nat → Nat} {S T : Nat → Nat → Int32} {L : Nat → Nat → Int64} {F : Nat → Int32} {bs : Int64}
theorem gX_0 : (wX G a S T L F bs)[0]? = some (a 0, .inr (3, [.ref (a 1), .ref (a 6), .ref (a 19), .int (F 0), .int (F 1), .int (F 2), .int (F 3)])) := rfl
theorem gX_1 : (wX G a S T L F bs)[1]? = some (a 1, .inr (1, [.ref (a 2), .ref (a 3), .ref (a 4), .ref (a 5), .int (F 4)])) := rfl
theorem gX_2 : (wX G a S T L F bs)[2]? = some (a 2, .inl (G.2 0, 10, .inl (S 0))) := rfl
theorem gX_3 : (wX G a S T L F bs)[3]? = some (a 3, .inl (G.2 0, 10, .inl (S 1))) := rfl
theorem gX_4 : (wX G a S T L F bs)[4]? = some (a 4, .inl (G.2 0, 10, .inl (S 2))) := rfl
theorem gX_5 : (wX G a S T L F bs)[5]? = some (a 5, .inl (G.2 0, 10, .inl (S 3))) := rfl
theorem gX_6 : (wX G a S T L F bs)[6]? = some (a 6, .inr (2, [.ref (a 7), .ref (a 8), .ref (a 9), .ref (a 10), .ref (a 11), .ref (a 12), .ref (a 13), .ref (a 14), .ref (a 15), .ref (a 16), .ref (a 17), .ref (a 18), .int (F 5), .int (F 6)])) := rfl
theorem gX_7 : (wX G a S T L F bs)[7]? = some (a 7, .inl (G.2 0, 19, .inl (T 0))) := rfl
theorem gX_8 : (wX G a S T L F bs)[8]? = some (a 8, .inl (G.2 0, 19, .inl (T 1))) := rfl
theorem gX_9 : (wX G a S T L F bs)[9]? = some (a 9, .inl (G.2 0, 19, .inl (T 2))) := rfl
theorem gX_10 : (wX G a S T L F bs)[10]? = some (a 10, .inl (G.2 0, 19, .inl (T 3))) := rfl
theorem gX_11 : (wX G a S T L F bs)[11]? = some (a 11, .inl (G.2 0, 19, .inl (T 4))) := rfl
theorem gX_12 : (wX G a S T L F bs)[12]? = some (a 12, .inl (G.2 0, 19, .inl (T 5))) := rfl
theorem gX_13 : (wX G a S T L F bs)[13]? = some (a 13, .inl (G.2 0, 19, .inl (T 6))) := rfl
theorem gX_14 : (wX G a S T L F bs)[14]? = some (a 14, .inl (G.2 0, 19, .inl (T 7))) := rfl
theorem gX_15 : (wX G a S T L F bs)[15]? = some (a 15, .inl (G.2 0, 19, .inl (T 8))) := rfl
theorem gX_16 : (wX G a S T L F bs)[16]? = some (a 16, .inl (G.2 0, 19, .inl (T 9))) := rfl
theorem gX_17 : (wX G a S T L F bs)[17]? = some (a 17, .inl (G.2 0, 19, .inl (T 10))) := rfl
theorem gX_18 : (wX G a S T L F bs)[18]? = some (a 18, .inl (G.2 0, 10, .inl (T 11))) := rfl
theorem gX_19 : (wX G a S T L F bs)[19]? = some (a 19, .inr (0, [.ref (a 20), .ref (a 21), .ref (a 22), .int (F 7), .int (F 8), .int (F 9), .int (F 10), .int (F 11), .long bs, .int (F 12)])) := rfl
theorem gX_20 : (wX G a S T L F bs)[20]? = some (a 20, .inl (G.2 1, 19, .inr (.inl (L 0)))) := rfl
theorem gX_21 : (wX G a S T L F bs)[21]? = some (a 21, .inl (G.2 1, 19, .inr (.inl (L 1)))) := rfl
theorem gX_22 : (wX G a S T L F bs)[22]? = some (a 22, .inl (G.2 1, 19, .inr (.inl (L 2)))) := rfl
theorem fX_0_3 {x : Int32} : (wX G a S T L F bs).set 0 (a 0, .inr (3, ([.ref (a 1), .ref (a 6), .ref (a 19), .int (F 0), .int (F 1), .int (F 2), .int (F 3)] : List Value).set 3 (.int x))) = wX G a S T L (tS F 0 x) bs := rfl
theorem fX_0_4 {x : Int32} : (wX G a S T L F bs).set 0 (a 0, .inr (3, ([.ref (a 1), .ref (a 6), .ref (a 19), .int (F 0), .int (F 1), .int (F 2), .int (F 3)] : List Value).set 4 (.int x))) = wX G a S T L (tS F 1 x) bs := rfl
theorem fX_0_5 {x : Int32} : (wX G a S T L F bs).set 0 (a 0, .inr (3, ([.ref (a 1), .ref (a 6), .ref (a 19), .int (F 0), .int (F 1), .int (F 2), .int (F 3)] : List Value).set 5 (.int x))) = wX G a S T L (tS F 2 x) bs := rfl
theorem fX_0_6 {x : Int32} : (wX G a S T L F bs).set 0 (a 0, .inr (3, ([.ref (a 1), .ref (a 6), .ref (a 19), .int (F 0), .int (F 1), .int (F 2), .int (F 3)] : List Value).set 6 (.int x))) = wX G a S T L (tS F 3 x) bs := rfl
theorem fX_1_4 {x : Int32} : (wX G a S T L F bs).set 1 (a 1, .inr (1, ([.ref (a 2), .ref (a 3), .ref (a 4), .ref (a 5), .int (F 4)] : List Value).set 4 (.int x))) = wX G a S T L (tS F 4 x) bs := rfl
theorem sX_2 {f : Nat → Int32} : (wX G a S T L F bs).set 2 (a 2, .inl (G.2 0, 10, .inl f)) = wX G a (tS S 0 f) T L F bs := rfl
theorem sX_3 {f : Nat → Int32} : (wX G a S T L F bs).set 3 (a 3, .inl (G.2 0, 10, .inl f)) = wX G a (tS S 1 f) T L F bs := rfl
theorem sX_4 {f : Nat → Int32} : (wX G a S T L F bs).set 4 (a 4, .inl (G.2 0, 10, .inl f)) = wX G a (tS S 2 f) T L F bs := rfl
theorem sX_5 {f : Nat → Int32} : (wX G a S T L F bs).set 5 (a 5, .inl (G.2 0, 10, .inl f)) = wX G a (tS S 3 f) T L F bs := rfl
theorem fX_6_12 {x : Int32} : (wX G a S T L F bs).set 6 (a 6, .inr (2, ([.ref (a 7), .ref (a 8), .ref (a 9), .ref (a 10), .ref (a 11), .ref (a 12), .ref (a 13), .ref (a 14), .ref (a 15), .ref (a 16), .ref (a 17), .ref (a 18), .int (F 5), .int (F 6)] : List Value).set 12 (.int x))) = wX G a S T L (tS F 5 x) bs := rfl
theorem fX_6_13 {x : Int32} : (wX G a S T L F bs).set 6 (a 6, .inr (2, ([.ref (a 7), .ref (a 8), .ref (a 9), .ref (a 10), .ref (a 11), .ref (a 12), .ref (a 13), .ref (a 14), .ref (a 15), .ref (a 16), .ref (a 17), .ref (a 18), .int (F 5), .int (F 6)] : List Value).set 13 (.int x))) = wX G a S T L (tS F 6 x) bs := rfl
theorem sX_7 {f : Nat → Int32} : (wX G a S T L F bs).set 7 (a 7, .inl (G.2 0, 19, .inl f)) = wX G a S (tS T 0 f) L F bs := rfl
theorem sX_8 {f : Nat → Int32} : (wX G a S T L F bs).set 8 (a 8, .inl (G.2 0, 19, .inl f)) = wX G a S (tS T 1 f) L F bs := rfl
theorem sX_9 {f : Nat → Int32} : (wX G a S T L F bs).set 9 (a 9, .inl (G.2 0, 19, .inl f)) = wX G a S (tS T 2 f) L F bs := rfl
theorem sX_10 {f : Nat → Int32} : (wX G a S T L F bs).set 10 (a 10, .inl (G.2 0, 19, .inl f)) = wX G a S (tS T 3 f) L F bs := rfl
theorem sX_11 {f : Nat → Int32} : (wX G a S T L F bs).set 11 (a 11, .inl (G.2 0, 19, .inl f)) = wX G a S (tS T 4 f) L F bs := rfl
theorem sX_12 {f : Nat → Int32} : (wX G a S T L F bs).set 12 (a 12, .inl (G.2 0, 19, .inl f)) = wX G a S (tS T 5 f) L F bs := rfl
theorem sX_13 {f : Nat → Int32} : (wX G a S T L F bs).set 13 (a 13, .inl (G.2 0, 19, .inl f)) = wX G a S (tS T 6 f) L F bs := rfl
theorem sX_14 {f : Nat → Int32} : (wX G a S T L F bs).set 14 (a 14, .inl (G.2 0, 19, .inl f)) = wX G a S (tS T 7 f) L F bs := rfl
theorem sX_15 {f : Nat → Int32} : (wX G a S T L F bs).set 15 (a 15, .inl (G.2 0, 19, .inl f)) = wX G a S (tS T 8 f) L F bs := rfl
theorem sX_16 {f : Nat → Int32} : (wX G a S T L F bs).set 16 (a 16, .inl (G.2 0, 19, .inl f)) = wX G a S (tS T 9 f) L F bs := rfl
theorem sX_17 {f : Nat → Int32} : (wX G a S T L F bs).set 17 (a 17, .inl (G.2 0, 19, .inl f)) = wX G a S (tS T 10 f) L F bs := rfl
theorem sX_18 {f : Nat → Int32} : (wX G a S T L F bs).set 18 (a 18, .inl (G.2 0, 10, .inl f)) = wX G a S (tS T 11 f) L F bs := rfl
theorem fX_19_3 {x : Int32} : (wX G a S T L F bs).set 19 (a 19, .inr (0, ([.ref (a 20), .ref (a 21), .ref (a 22), .int (F 7), .int (F 8), .int (F 9), .int (F 10), .int (F 11), .long bs, .int (F 12)] : List Value).set 3 (.int x))) = wX G a S T L (tS F 7 x) bs := rfl
theorem fX_19_4 {x : Int32} : (wX G a S T L F bs).set 19 (a 19, .inr (0, ([.ref (a 20), .ref (a 21), .ref (a 22), .int (F 7), .int (F 8), .int (F 9), .int (F 10), .int (F 11), .long bs, .int (F 12)] : List Value).set 4 (.int x))) = wX G a S T L (tS F 8 x) bs := rfl
theorem fX_19_5 {x : Int32} : (wX G a S T L F bs).set 19 (a 19, .inr (0, ([.ref (a 20), .ref (a 21), .ref (a 22), .int (F 7), .int (F 8), .int (F 9), .int (F 10), .int (F 11), .long bs, .int (F 12)] : List Value).set 5 (.int x))) = wX G a S T L (tS F 9 x) bs := rfl
theorem fX_19_6 {x : Int32} : (wX G a S T L F bs).set 19 (a 19, .inr (0, ([.ref (a 20), .ref (a 21), .ref (a 22), .int (F 7), .int (F 8), .int (F 9), .int (F 10), .int (F 11), .long bs, .int (F 12)] : List Value).set 6 (.int x))) = wX G a S T L (tS F 10 x) bs := rfl
theorem fX_19_7 {x : Int32} : (wX G a S T L F bs).set 19 (a 19, .inr (0, ([.ref (a 20), .ref (a 21), .ref (a 22), .int (F 7), .int (F 8), .int (F 9), .int (F 10), .int (F 11), .long bs, .int (F 12)] : List Value).set 7 (.int x))) = wX G a S T L (tS F 11 x) bs := rfl
theorem fX_19_8 {x : Int64} : (wX G a S T L F bs).set 19 (a 19, .inr (0, ([.ref (a 20), .ref (a 21), .ref (a 22), .int (F 7), .int (F 8), .int (F 9), .int (F 10), .int (F 11), .long bs, .int (F 12)] : List Value).set 8 (.long x))) = wX G a S T L F x := rfl
theorem fX_19_9 {x : Int32} : (wX G a S T L F bs).set 19 (a 19, .inr (0, ([.ref (a 20), .ref (a 21), .ref (a 22), .int (F 7), .int (F 8), .int (F 9), .int (F 10), .int (F 11), .long bs, .int (F 12)] : List Value).set 9 (.int x))) = wX G a S T L (tS F 12 x) bs := rfl
theorem sX_20 {f : Nat → Int64} : (wX G a S T L F bs).set 20 (a 20, .inl (G.2 1, 19, .inr (.inl f))) = wX G a S T (tS L 0 f) F bs := rfl
theorem sX_21 {f : Nat → Int64} : (wX G a S T L F bs).set 21 (a 21, .inl (G.2 1, 19, .inr (.inl f))) = wX G a S T (tS L 1 f) F bs := rfl
theorem sX_22 {f : Nat → Int64} : (wX G a S T L F bs).set 22 (a 22, .inl (G.2 1, 19, .inr (.inl f))) = wX G a S T (tS L 2 f) F bs := rfl
end
section
variable {G : xG} {a : Nat → Nat} {S T K Z : Nat → Nat → Int32} {L : Nat → Nat → Int64} {F : Nat → Int32}
theorem gM_0 : (wM G a S T K Z L F)[0]? = some (a 0, .inr (4, [.int (F 3), .int (F 4), .ref (a 1), .ref (a 2), .ref (a 3), .ref (a 4), .int (F 0), .int (F 1), .int (F 7), .int (F 8), .int (F 9), .int (F 10), .int (F 11), .int (F 2), .int (F 6), .ref (a 5), .ref (a 6), .ref (a 7), .ref (a 8), .ref (a 9), .ref (a 10), .ref (a 11), .ref (a 12), .ref (a 13), .ref (a 14), .ref (a 15), .ref (a 16), .ref (a 17), .ref (a 18), .int (F 5), .ref (a 19), .ref (a 20), .ref (a 21), .ref (a 22), .ref (a 23), .ref (a 24), .ref (a 25)])) := rfl
theorem gM_1 : (wM G a S T K Z L F)[1]? = some (a 1, .inl (G.2 0, 10, .inl (S 0))) := rfl
theorem gM_2 : (wM G a S T K Z L F)[2]? = some (a 2, .inl (G.2 0, 10, .inl (S 1))) := rfl
theorem gM_3 : (wM G a S T K Z L F)[3]? = some (a 3, .inl (G.2 0, 10, .inl (S 2))) := rfl
theorem gM_4 : (wM G a S T K Z L F)[4]? = some (a 4, .inl (G.2 0, 10, .inl (S 3))) := rfl
theorem gM_5 : (wM G a S T K Z L F)[5]? = some (a 5, .inl (G.2 0, 19, .inl (T 0))) := rfl
theorem gM_6 : (wM G a S T K Z L F)[6]? = some (a 6, .inl (G.2 0, 19, .inl (T 1))) := rfl
theorem gM_7 : (wM G a S T K Z L F)[7]? = some (a 7, .inl (G.2 0, 19, .inl (T 2))) := rfl
theorem gM_8 : (wM G a S T K Z L F)[8]? = some (a 8, .inl (G.2 0, 19, .inl (T 3))) := rfl
theorem gM_9 : (wM G a S T K Z L F)[9]? = some (a 9, .inl (G.2 0, 19, .inl (T 4))) := rfl
theorem gM_10 : (wM G a S T K Z L F)[10]? = some (a 10, .inl (G.2 0, 19, .inl (T 5))) := rfl
theorem gM_11 : (wM G a S T K Z L F)[11]? = some (a 11, .inl (G.2 0, 19, .inl (T 6))) := rfl
theorem gM_12 : (wM G a S T K Z L F)[12]? = some (a 12, .inl (G.2 0, 19, .inl (T 7))) := rfl
theorem gM_13 : (wM G a S T K Z L F)[13]? = some (a 13, .inl (G.2 0, 19, .inl (T 8))) := rfl
theorem gM_14 : (wM G a S T K Z L F)[14]? = some (a 14, .inl (G.2 0, 19, .inl (T 9))) := rfl
theorem gM_15 : (wM G a S T K Z L F)[15]? = some (a 15, .inl (G.2 0, 19, .inl (T 10))) := rfl
theorem gM_16 : (wM G a S T K Z L F)[16]? = some (a 16, .inl (G.2 2, 19, .inl (Z 0))) := rfl
theorem gM_17 : (wM G a S T K Z L F)[17]? = some (a 17, .inl (G.2 2, 19, .inl (Z 1))) := rfl
theorem gM_18 : (wM G a S T K Z L F)[18]? = some (a 18, .inl (G.2 0, 10, .inl (T 11))) := rfl
theorem gM_19 : (wM G a S T K Z L F)[19]? = some (a 19, .inl (G.2 0, 12, .inl (K 0))) := rfl
theorem gM_20 : (wM G a S T K Z L F)[20]? = some (a 20, .inl (G.2 0, 12, .inl (K 1))) := rfl
theorem gM_21 : (wM G a S T K Z L F)[21]? = some (a 21, .inl (G.2 0, 12, .inl (K 2))) := rfl
theorem gM_22 : (wM G a S T K Z L F)[22]? = some (a 22, .inl (G.2 0, 12, .inl (K 3))) := rfl
theorem gM_23 : (wM G a S T K Z L F)[23]? = some (a 23, .inl (G.2 0, 12, .inl (K 4))) := rfl
theorem gM_24 : (wM G a S T K Z L F)[24]? = some (a 24, .inl (G.2 1, 19, .inr (.inl (L 0)))) := rfl
theorem gM_25 : (wM G a S T K Z L F)[25]? = some (a 25, .inl (G.2 1, 19, .inr (.inl (L 1)))) := rfl
theorem fM_0_0 {x : Int32} : (wM G a S T K Z L F).set 0 (a 0, .inr (4, ([.int (F 3), .int (F 4), .ref (a 1), .ref (a 2), .ref (a 3), .ref (a 4), .int (F 0), .int (F 1), .int (F 7), .int (F 8), .int (F 9), .int (F 10), .int (F 11), .int (F 2), .int (F 6), .ref (a 5), .ref (a 6), .ref (a 7), .ref (a 8), .ref (a 9), .ref (a 10), .ref (a 11), .ref (a 12), .ref (a 13), .ref (a 14), .ref (a 15), .ref (a 16), .ref (a 17), .ref (a 18), .int (F 5), .ref (a 19), .ref (a 20), .ref (a 21), .ref (a 22), .ref (a 23), .ref (a 24), .ref (a 25)] : List Value).set 0 (.int x))) = wM G a S T K Z L (tS F 3 x) := rfl
theorem fM_0_1 {x : Int32} : (wM G a S T K Z L F).set 0 (a 0, .inr (4, ([.int (F 3), .int (F 4), .ref (a 1), .ref (a 2), .ref (a 3), .ref (a 4), .int (F 0), .int (F 1), .int (F 7), .int (F 8), .int (F 9), .int (F 10), .int (F 11), .int (F 2), .int (F 6), .ref (a 5), .ref (a 6), .ref (a 7), .ref (a 8), .ref (a 9), .ref (a 10), .ref (a 11), .ref (a 12), .ref (a 13), .ref (a 14), .ref (a 15), .ref (a 16), .ref (a 17), .ref (a 18), .int (F 5), .ref (a 19), .ref (a 20), .ref (a 21), .ref (a 22), .ref (a 23), .ref (a 24), .ref (a 25)] : List Value).set 1 (.int x))) = wM G a S T K Z L (tS F 4 x) := rfl
theorem fM_0_6 {x : Int32} : (wM G a S T K Z L F).set 0 (a 0, .inr (4, ([.int (F 3), .int (F 4), .ref (a 1), .ref (a 2), .ref (a 3), .ref (a 4), .int (F 0), .int (F 1), .int (F 7), .int (F 8), .int (F 9), .int (F 10), .int (F 11), .int (F 2), .int (F 6), .ref (a 5), .ref (a 6), .ref (a 7), .ref (a 8), .ref (a 9), .ref (a 10), .ref (a 11), .ref (a 12), .ref (a 13), .ref (a 14), .ref (a 15), .ref (a 16), .ref (a 17), .ref (a 18), .int (F 5), .ref (a 19), .ref (a 20), .ref (a 21), .ref (a 22), .ref (a 23), .ref (a 24), .ref (a 25)] : List Value).set 6 (.int x))) = wM G a S T K Z L (tS F 0 x) := rfl
theorem fM_0_7 {x : Int32} : (wM G a S T K Z L F).set 0 (a 0, .inr (4, ([.int (F 3), .int (F 4), .ref (a 1), .ref (a 2), .ref (a 3), .ref (a 4), .int (F 0), .int (F 1), .int (F 7), .int (F 8), .int (F 9), .int (F 10), .int (F 11), .int (F 2), .int (F 6), .ref (a 5), .ref (a 6), .ref (a 7), .ref (a 8), .ref (a 9), .ref (a 10), .ref (a 11), .ref (a 12), .ref (a 13), .ref (a 14), .ref (a 15), .ref (a 16), .ref (a 17), .ref (a 18), .int (F 5), .ref (a 19), .ref (a 20), .ref (a 21), .ref (a 22), .ref (a 23), .ref (a 24), .ref (a 25)] : List Value).set 7 (.int x))) = wM G a S T K Z L (tS F 1 x) := rfl
theorem fM_0_8 {x : Int32} : (wM G a S T K Z L F).set 0 (a 0, .inr (4, ([.int (F 3), .int (F 4), .ref (a 1), .ref (a 2), .ref (a 3), .ref (a 4), .int (F 0), .int (F 1), .int (F 7), .int (F 8), .int (F 9), .int (F 10), .int (F 11), .int (F 2), .int (F 6), .ref (a 5), .ref (a 6), .ref (a 7), .ref (a 8), .ref (a 9), .ref (a 10), .ref (a 11), .ref (a 12), .ref (a 13), .ref (a 14), .ref (a 15), .ref (a 16), .ref (a 17), .ref (a 18), .int (F 5), .ref (a 19), .ref (a 20), .ref (a 21), .ref (a 22), .ref (a 23), .ref (a 24), .ref (a 25)] : List Value).set 8 (.int x))) = wM G a S T K Z L (tS F 7 x) := rfl
theorem fM_0_9 {x : Int32} : (wM G a S T K Z L F).set 0 (a 0, .inr (4, ([.int (F 3), .int (F 4), .ref (a 1), .ref (a 2), .ref (a 3), .ref (a 4), .int (F 0), .int (F 1), .int (F 7), .int (F 8), .int (F 9), .int (F 10), .int (F 11), .int (F 2), .int (F 6), .ref (a 5), .ref (a 6), .ref (a 7), .ref (a 8), .ref (a 9), .ref (a 10), .ref (a 11), .ref (a 12), .ref (a 13), .ref (a 14), .ref (a 15), .ref (a 16), .ref (a 17), .ref (a 18), .int (F 5), .ref (a 19), .ref (a 20), .ref (a 21), .ref (a 22), .ref (a 23), .ref (a 24), .ref (a 25)] : List Value).set 9 (.int x))) = wM G a S T K Z L (tS F 8 x) := rfl
theorem fM_0_10 {x : Int32} : (wM G a S T K Z L F).set 0 (a 0, .inr (4, ([.int (F 3), .int (F 4), .ref (a 1), .ref (a 2), .ref (a 3), .ref (a 4), .int (F 0), .int (F 1), .int (F 7), .int (F 8), .int (F 9), .int (F 10), .int (F 11), .int (F 2), .int (F 6), .ref (a 5), .ref (a 6), .ref (a 7), .ref (a 8), .ref (a 9), .ref (a 10), .ref (a 11), .ref (a 12), .ref (a 13), .ref (a 14), .ref (a 15), .ref (a 16), .ref (a 17), .ref (a 18), .int (F 5), .ref (a 19), .ref (a 20), .ref (a 21), .ref (a 22), .ref (a 23), .ref (a 24), .ref (a 25)] : List Value).set 10 (.int x))) = wM G a S T K Z L (tS F 9 x) := rfl
theorem fM_0_11 {x : Int32} : (wM G a S T K Z L F).set 0 (a 0, .inr (4, ([.int (F 3), .int (F 4), .ref (a 1), .ref (a 2), .ref (a 3), .ref (a 4), .int (F 0), .int (F 1), .int (F 7), .int (F 8), .int (F 9), .int (F 10), .int (F 11), .int (F 2), .int (F 6), .ref (a 5), .ref (a 6), .ref (a 7), .ref (a 8), .ref (a 9), .ref (a 10), .ref (a 11), .ref (a 12), .ref (a 13), .ref (a 14), .ref (a 15), .ref (a 16), .ref (a 17), .ref (a 18), .int (F 5), .ref (a 19), .ref (a 20), .ref (a 21), .ref (a 22), .ref (a 23), .ref (a 24), .ref (a 25)] : List Value).set 11 (.int x))) = wM G a S T K Z L (tS F 10 x) := rfl
theorem fM_0_12 {x : Int32} : (wM G a S T K Z L F).set 0 (a 0, .inr (4, ([.int (F 3), .int (F 4), .ref (a 1), .ref (a 2), .ref (a 3), .ref (a 4), .int (F 0), .int (F 1), .int (F 7), .int (F 8), .int (F 9), .int (F 10), .int (F 11), .int (F 2), .int (F 6), .ref (a 5), .ref (a 6), .ref (a 7), .ref (a 8), .ref (a 9), .ref (a 10), .ref (a 11), .ref (a 12), .ref (a 13), .ref (a 14), .ref (a 15), .ref (a 16), .ref (a 17), .ref (a 18), .int (F 5), .ref (a 19), .ref (a 20), .ref (a 21), .ref (a 22), .ref (a 23), .ref (a 24), .ref (a 25)] : List Value).set 12 (.int x))) = wM G a S T K Z L (tS F 11 x) := rfl
theorem fM_0_13 {x : Int32} : (wM G a S T K Z L F).set 0 (a 0, .inr (4, ([.int (F 3), .int (F 4), .ref (a 1), .ref (a 2), .ref (a 3), .ref (a 4), .int (F 0), .int (F 1), .int (F 7), .int (F 8), .int (F 9), .int (F 10), .int (F 11), .int (F 2), .int (F 6), .ref (a 5), .ref (a 6), .ref (a 7), .ref (a 8), .ref (a 9), .ref (a 10), .ref (a 11), .ref (a 12), .ref (a 13), .ref (a 14), .ref (a 15), .ref (a 16), .ref (a 17), .ref (a 18), .int (F 5), .ref (a 19), .ref (a 20), .ref (a 21), .ref (a 22), .ref (a 23), .ref (a 24), .ref (a 25)] : List Value).set 13 (.int x))) = wM G a S T K Z L (tS F 2 x) := rfl
theorem fM_0_14 {x : Int32} : (wM G a S T K Z L F).set 0 (a 0, .inr (4, ([.int (F 3), .int (F 4), .ref (a 1), .ref (a 2), .ref (a 3), .ref (a 4), .int (F 0), .int (F 1), .int (F 7), .int (F 8), .int (F 9), .int (F 10), .int (F 11), .int (F 2), .int (F 6), .ref (a 5), .ref (a 6), .ref (a 7), .ref (a 8), .ref (a 9), .ref (a 10), .ref (a 11), .ref (a 12), .ref (a 13), .ref (a 14), .ref (a 15), .ref (a 16), .ref (a 17), .ref (a 18), .int (F 5), .ref (a 19), .ref (a 20), .ref (a 21), .ref (a 22), .ref (a 23), .ref (a 24), .ref (a 25)] : List Value).set 14 (.int x))) = wM G a S T K Z L (tS F 6 x) := rfl
theorem fM_0_29 {x : Int32} : (wM G a S T K Z L F).set 0 (a 0, .inr (4, ([.int (F 3), .int (F 4), .ref (a 1), .ref (a 2), .ref (a 3), .ref (a 4), .int (F 0), .int (F 1), .int (F 7), .int (F 8), .int (F 9), .int (F 10), .int (F 11), .int (F 2), .int (F 6), .ref (a 5), .ref (a 6), .ref (a 7), .ref (a 8), .ref (a 9), .ref (a 10), .ref (a 11), .ref (a 12), .ref (a 13), .ref (a 14), .ref (a 15), .ref (a 16), .ref (a 17), .ref (a 18), .int (F 5), .ref (a 19), .ref (a 20), .ref (a 21), .ref (a 22), .ref (a 23), .ref (a 24), .ref (a 25)] : List Value).set 29 (.int x))) = wM G a S T K Z L (tS F 5 x) := rfl
theorem sM_1 {f : Nat → Int32} : (wM G a S T K Z L F).set 1 (a 1, .inl (G.2 0, 10, .inl f)) = wM G a (tS S 0 f) T K Z L F := rfl
theorem sM_2 {f : Nat → Int32} : (wM G a S T K Z L F).set 2 (a 2, .inl (G.2 0, 10, .inl f)) = wM G a (tS S 1 f) T K Z L F := rfl
theorem sM_3 {f : Nat → Int32} : (wM G a S T K Z L F).set 3 (a 3, .inl (G.2 0, 10, .inl f)) = wM G a (tS S 2 f) T K Z L F := rfl
theorem sM_4 {f : Nat → Int32} : (wM G a S T K Z L F).set 4 (a 4, .inl (G.2 0, 10, .inl f)) = wM G a (tS S 3 f) T K Z L F := rfl
theorem sM_5 {f : Nat → Int32} : (wM G a S T K Z L F).set 5 (a 5, .inl (G.2 0, 19, .inl f)) = wM G a S (tS T 0 f) K Z L F := rfl
theorem sM_6 {f : Nat → Int32} : (wM G a S T K Z L F).set 6 (a 6, .inl (G.2 0, 19, .inl f)) = wM G a S (tS T 1 f) K Z L F := rfl
theorem sM_7 {f : Nat → Int32} : (wM G a S T K Z L F).set 7 (a 7, .inl (G.2 0, 19, .inl f)) = wM G a S (tS T 2 f) K Z L F := rfl
theorem sM_8 {f : Nat → Int32} : (wM G a S T K Z L F).set 8 (a 8, .inl (G.2 0, 19, .inl f)) = wM G a S (tS T 3 f) K Z L F := rfl
theorem sM_9 {f : Nat → Int32} : (wM G a S T K Z L F).set 9 (a 9, .inl (G.2 0, 19, .inl f)) = wM G a S (tS T 4 f) K Z L F := rfl
theorem sM_10 {f : Nat → Int32} : (wM G a S T K Z L F).set 10 (a 10, .inl (G.2 0, 19, .inl f)) = wM G a S (tS T 5 f) K Z L F := rfl
theorem sM_11 {f : Nat → Int32} : (wM G a S T K Z L F).set 11 (a 11, .inl (G.2 0, 19, .inl f)) = wM G a S (tS T 6 f) K Z L F := rfl
theorem sM_12 {f : Nat → Int32} : (wM G a S T K Z L F).set 12 (a 12, .inl (G.2 0, 19, .inl f)) = wM G a S (tS T 7 f) K Z L F := rfl
theorem sM_13 {f : Nat → Int32} : (wM G a S T K Z L F).set 13 (a 13, .inl (G.2 0, 19, .inl f)) = wM G a S (tS T 8 f) K Z L F := rfl
theorem sM_14 {f : Nat → Int32} : (wM G a S T K Z L F).set 14 (a 14, .inl (G.2 0, 19, .inl f)) = wM G a S (tS T 9 f) K Z L F := rfl
theorem sM_15 {f : Nat → Int32} : (wM G a S T K Z L F).set 15 (a 15, .inl (G.2 0, 19, .inl f)) = wM G a S (tS T 10 f) K Z L F := rfl
theorem sM_16 {f : Nat → Int32} : (wM G a S T K Z L F).set 16 (a 16, .inl (G.2 2, 19, .inl f)) = wM G a S T K (tS Z 0 f) L F := rfl
theorem sM_17 {f : Nat → Int32} : (wM G a S T K Z L F).set 17 (a 17, .inl (G.2 2, 19, .inl f)) = wM G a S T K (tS Z 1 f) L F := rfl
theorem sM_18 {f : Nat → Int32} : (wM G a S T K Z L F).set 18 (a 18, .inl (G.2 0, 10, .inl f)) = wM G a S (tS T 11 f) K Z L F := rfl
theorem sM_19 {f : Nat → Int32} : (wM G a S T K Z L F).set 19 (a 19, .inl (G.2 0, 12, .inl f)) = wM G a S T (tS K 0 f) Z L F := rfl
theorem sM_20 {f : Nat → Int32} : (wM G a S T K Z L F).set 20 (a 20, .inl (G.2 0, 12, .inl f)) = wM G a S T (tS K 1 f) Z L F := rfl
theorem sM_21 {f : Nat → Int32} : (wM G a S T K Z L F).set 21 (a 21, .inl (G.2 0, 12, .inl f)) = wM G a S T (tS K 2 f) Z L F := rfl
theorem sM_22 {f : Nat → Int32} : (wM G a S T K Z L F).set 22 (a 22, .inl (G.2 0, 12, .inl f)) = wM G a S T (tS K 3 f) Z L F := rfl
theorem sM_23 {f : Nat → Int32} : (wM G a S T K Z L F).set 23 (a 23, .inl (G.2 0, 12, .inl f)) = wM G a S T (tS K 4 f) Z L F := rfl
theorem sM_24 {f : Nat → Int64} : (wM G a S T K Z L F).set 24 (a 24, .inl (G.2 1, 19, .inr (.inl f))) = wM G a S T K Z (tS L 0 f) F := rfl
theorem sM_25 {f : Nat → Int64} : (wM G a S T K Z L F).set 25 (a 25, .inl (G.2 1, 19, .inr (.inl f))) = wM G a S T K Z (tS L 1 f) F := rfl
end
end XBASE
/-! contracts: a method that makes mc cells of ms slots, and turns the world w into w' -/
def xPre (G : xG) (w : va_W) (sz : Nat) : State → Prop := fun U => U.heap.size = sz ∧ va_P G.1 vwCl w U.heap ∧ xK G U ∧ va_D (fun _ => True) w
def xPost (G : xG) (A : Nat → Prop) (w : va_W) : Unit → State → Prop := fun _ t => va_P G.1 vwCl w t.heap ∧ va_D A w
def xMi (l : Launch) (y : MethodName) (ws : List Cond) (rm : Room) (av : List Value) (G : xG) (w : va_W) (r : Int32) (w' : va_W) (mc ms : Nat) : Prop := ∀ sz : Nat, Met l y ws rm (va_Pc av (xPre G w sz)) (va_Qi (fun (x : Int32) (_ : Unit) => x = r) (xPost G (va_A w sz) w') (va_A w sz)) mc ms (va_A w sz)
def xMl (l : Launch) (y : MethodName) (ws : List Cond) (rm : Room) (av : List Value) (G : xG) (w : va_W) (r : Int64) (w' : va_W) (mc ms : Nat) : Prop := ∀ sz : Nat, Met l y ws rm (va_Pc av (xPre G w sz)) (va_Ql (fun (x : Int64) (_ : Unit) => x = r) (xPost G (va_A w sz) w') (va_A w sz)) mc ms (va_A w sz)
def xMv (l : Launch) (y : MethodName) (ws : List Cond) (rm : Room) (av : List Value) (G : xG) (w : va_W) (w' : va_W) (mc ms : Nat) : Prop := ∀ sz : Nat, Met l y ws rm (va_Pc av (xPre G w sz)) (va_Qv (fun (_ : Unit) => True) (xPost G (va_A w sz) w') (va_A w sz)) mc ms (va_A w sz)
theorem x_blind {av : List Value} {G : xG} {w : va_W} {sz : Nat} : FrameBlind (va_Pc av (xPre G w sz)) := fun a U g mk q => ⟨q.1, q.2.1, q.2.2.1, xK.warm (u := U) (U := U.calling g mk a) (State.WarmedH.refl U) q.2.2.2.1, q.2.2.2.2⟩
theorem x_pre {s U : State} {H : Heap} {G : xG} {A : Nat → Prop} {w : va_W} {av : List Value} (hK : xK G s) (hP : va_P G.1 vwCl w H) (hD : va_D A w) (hU : U.heap = H) (hW : s.WarmedH U.vm) : va_Pc av (xPre G w H.size) av.toArray U := ⟨rfl, by rw [hU], by rw [hU]; exact hP, xK.warm hW hK, hD.weaken (fun _ _ _ _ => trivial)⟩
/-- a world's places, all of them -/
theorem x_freeAll {A : Nat → Prop} {w : va_W} {H0 H : Heap} {locs : List Loc} (hD : va_D A w) (hS : va_S A H0 H locs) (hA : ∀ q, H0.size ≤ q → A q) : ∀ q, va_A w H.size q → A q := fun q h => by
  rcases h with ⟨k, e, h⟩ | h
  · exact hD.2 k (q, e) h
  · exact hA q (Nat.le_trans hS.1 h)
section XCALL
variable {p : Program} {l : Launch} {e : Env} {R : Room} {s : State} {m : MethodId} {args : Array Value} {below : List Frame} {meth : Method} {c : Code} {H : Heap} {locs : List Loc} {cells slots : Nat} {Q : State → Prop}
variable {cc : ByteArray} {pc : Nat} {ls : Array Slot} {st0 rest : List Value} {A : Nat → Prop} {H0 : Heap} {own : String} {Ts : List Cond} {G : xG} {w w' : va_W} {mc ms : Nat}
theorem x_behind {t : State} {H1 : Heap} {locs1 : List Loc} (hD : va_D A w) (hS0 : va_S A H0 H locs) (hA : ∀ q, H0.size ≤ q → A q) (ht : t.heap = H1) (hB : va_P G.1 vwCl w' t.heap ∧ va_D (va_A w H.size) w') (hS : va_S A H0 H1 locs1) : xH G A H0 H1 locs1 w' := ⟨ht ▸ hB.1, hB.2.weaken (fun _ q _ h => x_freeAll hD hS0 hA q.1 h), hS⟩
/-- calls that hand on the whole world -/
theorem x_ci {r : Int32} {a : Array Value} (hr : va_Run p l e R s m args below meth c H locs cells slots mc ms (F0 m pc ls st0) rest (va_Qi (fun (x : Int32) (_ : Unit) => x = r) (xPost G (va_A w H.size) w') (va_A w H.size) a) (va_A w H.size)) (hH : xH G A H0 H locs w) (hA : ∀ q, H0.size ≤ q → A q)
    (kk : ∀ (H1 : Heap) (locs1 : List Loc), xH G A H0 H1 locs1 w' → W p l e R s m args below meth c H1 locs1 (cells + mc) (slots + ms) Q (F0 m (pc + 3) ls (.int r :: rest))) : W p l e R s m args below meth c H locs cells slots Q (F0 m pc ls st0) :=
  va_calli hr hH.2.2 (fun q _ h => x_freeAll hH.2.1 hH.2.2 hA q h) (x_freeAll hH.2.1 hH.2.2 hA) (fun r2 _ t H1 locs1 ht hvm hp hB hz1 hk1 hS => by subst hp; exact kk H1 locs1 (x_behind hH.2.1 hH.2.2 hA ht hB hS))
theorem x_cl {r : Int64} {a : Array Value} (hr : va_Run p l e R s m args below meth c H locs cells slots mc ms (F0 m pc ls st0) rest (va_Ql (fun (x : Int64) (_ : Unit) => x = r) (xPost G (va_A w H.size) w') (va_A w H.size) a) (va_A w H.size)) (hH : xH G A H0 H locs w) (hA : ∀ q, H0.size ≤ q → A q)
    (kk : ∀ (H1 : Heap) (locs1 : List Loc), xH G A H0 H1 locs1 w' → W p l e R s m args below meth c H1 locs1 (cells + mc) (slots + ms) Q (F0 m (pc + 3) ls (.long r :: rest))) : W p l e R s m args below meth c H locs cells slots Q (F0 m pc ls st0) :=
  va_calll hr hH.2.2 (fun q _ h => x_freeAll hH.2.1 hH.2.2 hA q h) (x_freeAll hH.2.1 hH.2.2 hA) (fun r2 _ t H1 locs1 ht hvm hp hB hz1 hk1 hS => by subst hp; exact kk H1 locs1 (x_behind hH.2.1 hH.2.2 hA ht hB hS))
theorem x_cv {a : Array Value} (hr : va_Run p l e R s m args below meth c H locs cells slots mc ms (F0 m pc ls st0) rest (va_Qv (fun (_ : Unit) => True) (xPost G (va_A w H.size) w') (va_A w H.size) a) (va_A w H.size)) (hH : xH G A H0 H locs w) (hA : ∀ q, H0.size ≤ q → A q)
    (kk : ∀ (H1 : Heap) (locs1 : List Loc), xH G A H0 H1 locs1 w' → W p l e R s m args below meth c H1 locs1 (cells + mc) (slots + ms) Q (F0 m (pc + 3) ls rest)) : W p l e R s m args below meth c H locs cells slots Q (F0 m pc ls st0) :=
  va_callv hr hH.2.2 (fun q _ h => x_freeAll hH.2.1 hH.2.2 hA q h) (x_freeAll hH.2.1 hH.2.2 hA) (fun _ t H1 locs1 ht hvm hp hB hz1 hk1 hS => kk H1 locs1 (x_behind hH.2.1 hH.2.2 hA ht hB hS))
theorem x_fix {nL : Nat} (h : xC p c m s args cc own Ts G) (hml : c.maxLocals = nL) : CallFix p m c cc nL s args Ts own := ⟨h.1, h.2.1, hml, h.2.2.1, h.2.2.2.1⟩
theorem x_pv {C : String} {b q0 ci : Nat} {fs : List Value} {q : vw_C} {As av : List Value} (h : xC p c m s args cc own Ts G) (hH : xH G A H0 H locs w) (hav : av = .ref b :: As) (he : w[q0]? = some (b, .inr (ci, fs))) (hc : vwCl[ci]? = some q) (hC : q.1 = C) : PreV s H C b (va_Pc av (xPre G w H.size)) As := by
  subst hav
  refine ⟨x_blind, ?_, fun U hU hW => x_pre h.2.2.2.2 hH.1 hH.2.1 hU hW⟩
  have := va_recv h.2.2.2.2.1 hH.1 hc he
  rw [hC] at this
  exact this
theorem x_ps {As : List Value} (h : xC p c m s args cc own Ts G) (hH : xH G A H0 H locs w) : PreS s H (va_Pc As (xPre G w H.size)) As := ⟨x_blind, fun U hU hW => x_pre h.2.2.2.2 hH.1 hH.2.1 hU hW⟩
end XCALL
/-- contracts out of a walk: the walk's head and its end, the same for all -/
theorem x_ofi {l : Launch} {y : MethodName} {ws ws' : List Cond} {rm : Room} {av : List Value} {G : xG} {w w' : va_W} {r : Int32} {mc ms : Nat} {cc : ByteArray} {maxL : Nat} {ty : FieldType} (hy : plainName y.cls = true) (hw : ws = Cond.code y cc maxL (some ty) :: ws') (hn : (lg_sl av).length ≤ maxL)
    (body : ∀ (p : Program) (e : Env) (s : State) (m : MethodId) (args : Array Value) (below : List Frame) (meth : Method) (c : Code) (ls : Array Slot) (A : Nat → Prop) (Q : State → Prop), xC p c m s args cc y.cls ws G → c.maxLocals = maxL → (∀ q : Nat, s.heap.size ≤ q → A q) → xH G A s.heap s.heap [] w → lv_has ls maxL (lv_args 0 av) →
      (∀ (H : Heap) (locs : List Loc) (ls : Array Slot) (pc : Nat) (v : Int32), xH G A s.heap H locs w' → v = r → narrow ty (.int v) = .int v → decode cc pc = .ok (.ireturn, 1) → W p l e rm s m args below meth c H locs mc ms Q (F0 m pc ls [.int v])) →
      W p l e rm s m args below meth c s.heap [] 0 0 Q (F0 m 0 ls [])) : xMi l y ws rm av G w r w' mc ms := by
  intro sz
  refine Met.ofW (cc := cc) (maxL := maxL) (ret := some ty) hy hw ?_
  intro p e s m args below meth c s₁ B hml hv
  obtain ⟨rfl, hsz, hP, hK, hD0⟩ := hv
  subst hsz
  have hts := atoms_spec (ws := ws) B.pre
  have hown : s.vm.findClass y.cls = some m.cls := findClass_of_methodNamed B.named
  have hl := lv_entry av (n := maxL) hn
  rw [lg_entry_eq]
  exact body p e s m _ below meth c _ (va_A w s.heap.size) _ ⟨B.exec, B.bytes, hown, hts, hK⟩ hml (fun q h => Or.inr h) ⟨hP, hD0.self, va_S.rf⟩ hl
    (fun H locs ls pc v hH hv hn hdg => W.zret B.exec B.bytes B.returns hn (fun t ht hW => ⟨⟨v, (), rfl, hv, ht ▸ hH.1, hH.2.1⟩, hH.2.2.F ht⟩) hH.2.2.2.2 hdg B.notSynchronized)
theorem x_ofl {l : Launch} {y : MethodName} {ws ws' : List Cond} {rm : Room} {av : List Value} {G : xG} {w w' : va_W} {r : Int64} {mc ms : Nat} {cc : ByteArray} {maxL : Nat} (hy : plainName y.cls = true) (hw : ws = Cond.code y cc maxL (some .long) :: ws') (hn : (lg_sl av).length ≤ maxL)
    (body : ∀ (p : Program) (e : Env) (s : State) (m : MethodId) (args : Array Value) (below : List Frame) (meth : Method) (c : Code) (ls : Array Slot) (A : Nat → Prop) (Q : State → Prop), xC p c m s args cc y.cls ws G → c.maxLocals = maxL → (∀ q : Nat, s.heap.size ≤ q → A q) → xH G A s.heap s.heap [] w → lv_has ls maxL (lv_args 0 av) →
      (∀ (H : Heap) (locs : List Loc) (ls : Array Slot) (pc : Nat) (v : Int64), xH G A s.heap H locs w' → v = r → decode cc pc = .ok (.lreturn, 1) → W p l e rm s m args below meth c H locs mc ms Q (F0 m pc ls [.long v])) →
      W p l e rm s m args below meth c s.heap [] 0 0 Q (F0 m 0 ls [])) : xMl l y ws rm av G w r w' mc ms := by
  intro sz
  refine Met.ofW (cc := cc) (maxL := maxL) (ret := some .long) hy hw ?_
  intro p e s m args below meth c s₁ B hml hv
  obtain ⟨rfl, hsz, hP, hK, hD0⟩ := hv
  subst hsz
  have hts := atoms_spec (ws := ws) B.pre
  have hown : s.vm.findClass y.cls = some m.cls := findClass_of_methodNamed B.named
  have hl := lv_entry av (n := maxL) hn
  rw [lg_entry_eq]
  exact body p e s m _ below meth c _ (va_A w s.heap.size) _ ⟨B.exec, B.bytes, hown, hts, hK⟩ hml (fun q h => Or.inr h) ⟨hP, hD0.self, va_S.rf⟩ hl
    (fun H locs ls pc v hH hv hdg => W.lret B.exec B.bytes B.returns (fun t ht hW => ⟨⟨v, (), rfl, hv, ht ▸ hH.1, hH.2.1⟩, hH.2.2.F ht⟩) hH.2.2.2.2 hdg B.notSynchronized)
theorem x_ofv {l : Launch} {y : MethodName} {ws ws' : List Cond} {rm : Room} {av : List Value} {G : xG} {w w' : va_W} {mc ms : Nat} {cc : ByteArray} {maxL : Nat} (hy : plainName y.cls = true) (hw : ws = Cond.code y cc maxL none :: ws') (hn : (lg_sl av).length ≤ maxL)
    (body : ∀ (p : Program) (e : Env) (s : State) (m : MethodId) (args : Array Value) (below : List Frame) (meth : Method) (c : Code) (ls : Array Slot) (A : Nat → Prop) (Q : State → Prop), xC p c m s args cc y.cls ws G → c.maxLocals = maxL → (∀ q : Nat, s.heap.size ≤ q → A q) → xH G A s.heap s.heap [] w → lv_has ls maxL (lv_args 0 av) →
      (∀ (H : Heap) (locs : List Loc) (ls : Array Slot) (pc : Nat), xH G A s.heap H locs w' → decode cc pc = .ok (.return_, 1) → W p l e rm s m args below meth c H locs mc ms Q (F0 m pc ls [])) →
      W p l e rm s m args below meth c s.heap [] 0 0 Q (F0 m 0 ls [])) : xMv l y ws rm av G w w' mc ms := by
  intro sz
  refine Met.ofW (cc := cc) (maxL := maxL) (ret := none) hy hw ?_
  intro p e s m args below meth c s₁ B hml hv
  obtain ⟨rfl, hsz, hP, hK, hD0⟩ := hv
  subst hsz
  have hts := atoms_spec (ws := ws) B.pre
  have hown : s.vm.findClass y.cls = some m.cls := findClass_of_methodNamed B.named
  have hl := lv_entry av (n := maxL) hn
  rw [lg_entry_eq]
  exact body p e s m _ below meth c _ (va_A w s.heap.size) _ ⟨B.exec, B.bytes, hown, hts, hK⟩ hml (fun q h => Or.inr h) ⟨hP, hD0.self, va_S.rf⟩ hl
    (fun H locs ls pc hH hdg => W.vret B.exec B.bytes B.returns (fun t ht hW => ⟨⟨(), rfl, trivial, ht ▸ hH.1, hH.2.1⟩, hH.2.2.F ht⟩) hH.2.2.2.2 hdg B.notSynchronized)
/-! booleans out of a claim -/
def xb (P : Prop) [Decidable P] : Int32 := if P then nI 1 else nI 0
theorem xb_0 {P : Prop} [Decidable P] : xb P = 0 ↔ ¬ P := by
  unfold xb
  by_cases h : P
  · rw [if_pos h]; exact ⟨fun z => absurd z (by decide), fun z => absurd h z⟩
  · rw [if_neg h]; exact ⟨fun _ => h, fun _ => by decide⟩
theorem xb_t {P : Prop} [Decidable P] (h : P) : nI 1 = xb P := (if_pos h).symm
theorem xb_f {P : Prop} [Decidable P] (h : ¬ P) : nI 0 = xb P := (if_neg h).symm
theorem xb_nar {P : Prop} [Decidable P] : narrow .boolean (.int (xb P)) = .int (xb P) := by
  unfold xb
  by_cases h : P
  · rw [if_pos h]; decide
  · rw [if_neg h]; decide
theorem xb_vp {P : Prop} [Decidable P] : vp_nar .boolean (xb P) = xb P := by
  unfold xb
  by_cases h : P
  · rw [if_pos h]; decide
  · rw [if_neg h]; decide
theorem xb_iff {P Q : Prop} [Decidable P] [Decidable Q] (h : P ↔ Q) : xb P = xb Q := by
  unfold xb
  by_cases hp : P
  · rw [if_pos hp, if_pos (h.mp hp)]
  · rw [if_neg hp, if_neg (fun q => hp (h.mpr q))]

/-! numbers and merges -/
def imax (x y : Int32) : Int32 := if x < y then y else x
def imin (x y : Int32) : Int32 := if y < x then y else x
def iabs (x : Int32) : Int32 := if 0 ≤ x then x else 0 - x
def lmin (x y : Int64) : Int64 := if y < x then y else x
theorem xn_dec {n : Nat} (h : 1 ≤ n) : nI n + Int32.ofInt (-1) = nI (n - 1) := by
  obtain ⟨k, rfl⟩ : ∃ k, n = k + 1 := ⟨n - 1, by omega⟩
  exact pk_m1 k
theorem xl_gt {x y : Int64} : ¬ 0 < lg_cmp x y ↔ ¬ x > y := by
  unfold lg_cmp
  by_cases h : x > y
  · simp [h]
  · by_cases h2 : x = y
    · rw [if_neg h, if_pos h2]; simp [h]
    · rw [if_neg h, if_neg h2]; simp [h]
theorem xl_eq {x y : Int64} : lg_cmp x y = 0 ↔ x = y := by
  unfold lg_cmp
  by_cases h : x > y
  · rw [if_pos h]
    exact ⟨fun z => absurd z (by decide), fun z => absurd h (by rw [z]; exact Int64.lt_irrefl)⟩
  · by_cases h2 : x = y
    · rw [if_neg h, if_pos h2]; simp [h2]
    · rw [if_neg h, if_neg h2]
      exact ⟨fun z => absurd z (by decide), fun z => absurd z h2⟩
theorem xl_lt {x y : Int64} : lg_cmp x y < 0 ↔ x < y := by
  unfold lg_cmp
  by_cases h : x > y
  · rw [if_pos h]
    exact ⟨fun z => absurd z (by decide), fun z => absurd (Int64.lt_trans h z) Int64.lt_irrefl⟩
  · by_cases h2 : x = y
    · rw [if_neg h, if_pos h2]
      exact ⟨fun z => absurd z (by decide), fun z => absurd z (by rw [h2]; exact Int64.lt_irrefl)⟩
    · rw [if_neg h, if_neg h2]
      refine ⟨fun _ => ?_, fun _ => by decide⟩
      have h3 : x ≤ y := Int64.not_lt.mp h
      exact Int64.lt_of_le_of_ne h3 h2
section XOPS
variable {p : Program} {l : Launch} {e : Env} {R : Room} {s : State} {m : MethodId} {args : Array Value} {below : List Frame} {meth : Method} {c : Code} {H : Heap} {locs : List Loc} {cells slots : Nat} {Q : State → Prop}
variable {cc : ByteArray} {pc : Nat} {ls : Array Slot} {rest : List Value}
theorem x_mrg {g : JFrame} {pc2 : Nat} {v : Int32} {st : List Value} (k : W p l e R s m args below meth c H locs cells slots Q (F0 m pc2 ls (.int v :: st))) (f : W p l e R s m args below meth c H locs cells slots Q (F0 m pc2 ls (.int v :: st)) → W p l e R s m args below meth c H locs cells slots Q (F0 m pc ls rest)) : W p l e R s m args below meth c H locs cells slots Q (F0 m pc ls rest) := f k
theorem x_mrgl {g : JFrame} {pc2 : Nat} {v : Int64} {st : List Value} (k : W p l e R s m args below meth c H locs cells slots Q (F0 m pc2 ls (.long v :: st))) (f : W p l e R s m args below meth c H locs cells slots Q (F0 m pc2 ls (.long v :: st)) → W p l e R s m args below meth c H locs cells slots Q (F0 m pc ls rest)) : W p l e R s m args below meth c H locs cells slots Q (F0 m pc ls rest) := f k
theorem x_lcmp_eq {x y : Int64} {off : Int} {tgt : Nat} (hexec : p.tables.exec = Jvm.exec) (hb : c.code = cc) (d1 : decode cc pc = .ok (.lcmp, 1)) (d2 : decode cc (pc + 1) = .ok (.ifCond .eq off, 3)) (ht : ((pc + 1 : Nat) : Int) + off = (tgt : Int))
    (kt : x = y → W p l e R s m args below meth c H locs cells slots Q (F0 m tgt ls rest)) (kf : ¬ x = y → W p l e R s m args below meth c H locs cells slots Q (F0 m (pc + 4) ls rest)) : W p l e R s m args below meth c H locs cells slots Q (F0 m pc ls (.long y :: .long x :: rest)) :=
  W.lcmp hexec hb d1 (lv_if_eq hexec hb d2 ht (fun h => kt (xl_eq.mp h)) (fun h => kf (fun z => h (xl_eq.mpr z))))
theorem x_lcmp_ne {x y : Int64} {off : Int} {tgt : Nat} (hexec : p.tables.exec = Jvm.exec) (hb : c.code = cc) (d1 : decode cc pc = .ok (.lcmp, 1)) (d2 : decode cc (pc + 1) = .ok (.ifCond .ne off, 3)) (ht : ((pc + 1 : Nat) : Int) + off = (tgt : Int))
    (kt : ¬ x = y → W p l e R s m args below meth c H locs cells slots Q (F0 m tgt ls rest)) (kf : x = y → W p l e R s m args below meth c H locs cells slots Q (F0 m (pc + 4) ls rest)) : W p l e R s m args below meth c H locs cells slots Q (F0 m pc ls (.long y :: .long x :: rest)) :=
  W.lcmp hexec hb d1 (lv_if_ne hexec hb d2 ht (fun h => kt (fun z => h (xl_eq.mpr z))) (fun h => kf (xl_eq.mp h)))
theorem x_lcmp_le {x y : Int64} {off : Int} {tgt : Nat} (hexec : p.tables.exec = Jvm.exec) (hb : c.code = cc) (d1 : decode cc pc = .ok (.lcmp, 1)) (d2 : decode cc (pc + 1) = .ok (.ifCond .le off, 3)) (ht : ((pc + 1 : Nat) : Int) + off = (tgt : Int))
    (kt : ¬ x > y → W p l e R s m args below meth c H locs cells slots Q (F0 m tgt ls rest)) (kf : x > y → W p l e R s m args below meth c H locs cells slots Q (F0 m (pc + 4) ls rest)) : W p l e R s m args below meth c H locs cells slots Q (F0 m pc ls (.long y :: .long x :: rest)) :=
  W.lcmp hexec hb d1 (lv_if_le hexec hb d2 ht (fun h => kt (xl_gt.mp (Int32.not_lt.mpr h))) (fun h => kf (Classical.not_not.mp (fun z => h (Int32.not_lt.mp (xl_gt.mpr z))))))
theorem x_lcmp_ge {x y : Int64} {off : Int} {tgt : Nat} (hexec : p.tables.exec = Jvm.exec) (hb : c.code = cc) (d1 : decode cc pc = .ok (.lcmp, 1)) (d2 : decode cc (pc + 1) = .ok (.ifCond .ge off, 3)) (ht : ((pc + 1 : Nat) : Int) + off = (tgt : Int))
    (kt : ¬ x < y → W p l e R s m args below meth c H locs cells slots Q (F0 m tgt ls rest)) (kf : x < y → W p l e R s m args below meth c H locs cells slots Q (F0 m (pc + 4) ls rest)) : W p l e R s m args below meth c H locs cells slots Q (F0 m pc ls (.long y :: .long x :: rest)) :=
  W.lcmp hexec hb d1 (lv_if_ge hexec hb d2 ht (fun h => kt (fun z => absurd (xl_lt.mpr z) (Int32.not_lt.mpr h))) (fun h => kf (xl_lt.mp (Int32.not_le.mp h))))
theorem x_lcmp_gt {x y : Int64} {off : Int} {tgt : Nat} (hexec : p.tables.exec = Jvm.exec) (hb : c.code = cc) (d1 : decode cc pc = .ok (.lcmp, 1)) (d2 : decode cc (pc + 1) = .ok (.ifCond .gt off, 3)) (ht : ((pc + 1 : Nat) : Int) + off = (tgt : Int))
    (kt : x > y → W p l e R s m args below meth c H locs cells slots Q (F0 m tgt ls rest)) (kf : ¬ x > y → W p l e R s m args below meth c H locs cells slots Q (F0 m (pc + 4) ls rest)) : W p l e R s m args below meth c H locs cells slots Q (F0 m pc ls (.long y :: .long x :: rest)) :=
  W.lcmp hexec hb d1 (lv_if_gt hexec hb d2 ht (fun h => kt (Classical.not_not.mp (fun z => xl_gt.mpr z h))) (fun h => kf (xl_gt.mp h)))
end XOPS

