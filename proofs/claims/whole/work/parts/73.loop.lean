section XSKEL
/-! THE CLAIM OUT OF ONE WALK OF THE LAW'S BODY. Your part is whole_start (and what it stands on); all else here is the same for every law, but numbers. -/
def R_law : String := "EvenClockLaw"
def lw_P (b : Addr) (xs : List Int32) (args : Array Value) (s : State) : Prop := args = #[.ref b] ∧ s.IntsAt b xs ∧ xs.length ≤ 2560 ∧ (Jvm.Cond.and given_1 narrow_1).before args s = true
def lw_Q (_ : Array Value) (s : State) (o : Outcome) (t : State) : Prop := o = .returned (some (.int 1)) ∧ Framed s o t [] 624656 7222135
def lw_Z (below : List Frame) (a : Array Value) (s : State) : State → Prop := fun t => ∃ o, t.status = .running ∧ Ended t below o ∧ lw_Q a s o t
/-- the law's own end, with 1 on the stack, nothing written that was there before, its room as the claim has it -/
theorem lw_ret {p : Program} {l : Launch} {e : Env} {s : State} {m : MethodId} {below : List Frame} {meth : Method} {c : Code} {b : Nat} (hx : p.tables.exec = Jvm.exec) (hb : c.code = code) (hr : meth.sig.returnType = ret) (hlocks : meth.locks = false) {pc : Nat} {H : Heap} {ls : Array Slot} (hdg : decode code pc = .ok (.ireturn, 1)) : W p l e room_1 s m #[Value.ref b] below meth c H [] 624656 7222135 (lw_Z below #[Value.ref b] s) (F0 m pc ls [.int 1]) := by
  intro T hT X
  obtain ⟨fs, hret, hrun, hended, hW, hframe⟩ := X.leave (v := some (.int 1)) (hlocks := hlocks) (fun h => by rw [hr] at h; cases h)
  have hmeth' : T.vm.method? m = some meth := X.method'
  refine ⟨T.setFrames fs, ?_, .returned (some (.int 1)), hrun, hended, rfl, ⟨_, rfl⟩, hW, hframe⟩
  jvm_step X.here [X.here.top, hx, hb, hdg, hmeth', hr, ret, narrow_b1]
  (try refine ⟨rfl, ?_⟩); (try refine ⟨rfl, ?_⟩)
  first | (intro acts; rw [hret _ acts rfl rfl rfl]) | rw [hret _ _ rfl rfl rfl]
  exact Steps.refl _
/-- what holds at the law's entry: the machine, the code, the tables' words (any of lw_tbl by 'hts w (by decide +kernel)'), the script of L ints xs at the cell b, what the Statement gives of the start (any of its parts by flat_of_before) -/
def lw_At (p : Program) (s : State) (m : MethodId) (meth : Method) (c : Code) (b L : Nat) (xs : Nat → Int32) : Prop :=
  p.tables.exec = Jvm.exec ∧ c.code = code ∧ meth.sig.returnType = ret ∧ c.maxLocals = 8 ∧ s.vm.findClass R_law = some m.cls ∧ (∀ w ∈ lw_tbl, w.before #[Value.ref b] s = true) ∧ va_X b L xs s s.heap ∧ b < s.heap.size ∧ meth.locks = false ∧ (Jvm.Cond.and given_1 narrow_1).before #[Value.ref b] s = true
end XSKEL
abbrev xCS : Type := (Nat → Nat → Int32) × (Nat → Nat → Int32) × (Nat → Nat → Int64) × (Nat → Int32) × Int64
abbrev xMS : Type := (Nat → Nat → Int32) × (Nat → Nat → Int32) × (Nat → Nat → Int32) × (Nat → Nat → Int32) × (Nat → Nat → Int64) × (Nat → Int32)
def wXs (G : xG) (a : Nat → Nat) (q : xCS) : va_W := wX G a q.1 q.2.1 q.2.2.1 q.2.2.2.1 q.2.2.2.2
def wMs (G : xG) (a : Nat → Nat) (q : xMS) : va_W := wM G a q.1 q.2.1 q.2.2.1 q.2.2.2.1 q.2.2.2.2.1 q.2.2.2.2.2
def rmOk (r : Room) : Prop := r.frames ≤ 30 ∧ r.locals ≤ 900 ∧ r.cells = 0 ∧ r.slots = 0
def st_sink (l : Launch) (G : xG) (sa a a' : Nat → Nat) (o : Nat) (Rel : xCS → xMS → Prop) : Prop := ∀ (cs : xCS) (ms : xMS), Rel cs ms → ∀ (x : Int32) (y : Int32) (z : Int32) (u : Int32) (f : Nat → Int64), ∃ (k : Int32) (rb : Int32) (cs' : xCS) (ms' : xMS) (f' : Nat → Int64) (rm9 : Room), xMy l yL_sink wsL_sink rmL [.ref (a 0), .int x, .int y, .int z, .int u, .ref o] G sa (wO G o f ++ wXs G a cs) k (wO G o f' ++ wXs G a cs') ∧ rmOk rm9 ∧ xMi l yX4_sink wsX4_sink rm9 [.ref (a' 0), .int x, .int y, .int z, .int u] G (wMs G a' ms) rb (wMs G a' ms') 0 0 ∧ ms'.2.2.2.2.2 3 = k ∧ (k = 0 → f' 0 = rb.toInt64) ∧ Rel cs' ms'
def st_cut (l : Launch) (G : xG) (sa a a' : Nat → Nat) (o : Nat) (Rel : xCS → xMS → Prop) : Prop := ∀ (cs : xCS) (ms : xMS), Rel cs ms → ∀ (x : Int32), ∃ (k : Int32) (cs' : xCS) (ms' : xMS) (rm9 : Room), xMy l yL_cut wsL_cut rmL [.ref (a 0), .int x] G sa ([] ++ wXs G a cs) k ([] ++ wXs G a cs') ∧ rmOk rm9 ∧ xMv l yX4_cut wsX4_cut rm9 [.ref (a' 0), .int x] G (wMs G a' ms) (wMs G a' ms') 0 0 ∧ ms'.2.2.2.2.2 3 = k ∧ Rel cs' ms'
def st_source (l : Launch) (G : xG) (sa a a' : Nat → Nat) (o : Nat) (Rel : xCS → xMS → Prop) : Prop := ∀ (cs : xCS) (ms : xMS), Rel cs ms → ∀ (x : Int32) (y : Int32), ∃ (k : Int32) (cs' : xCS) (ms' : xMS) (rm9 : Room), xMy l yL_source wsL_source rmL [.ref (a 0), .int x, .int y] G sa ([] ++ wXs G a cs) k ([] ++ wXs G a cs') ∧ rmOk rm9 ∧ xMv l yX4_source wsX4_source rm9 [.ref (a' 0), .int x, .int y] G (wMs G a' ms) (wMs G a' ms') 0 0 ∧ ms'.2.2.2.2.2 3 = k ∧ Rel cs' ms'
def st_wires (l : Launch) (G : xG) (sa a a' : Nat → Nat) (o : Nat) (Rel : xCS → xMS → Prop) : Prop := ∀ (cs : xCS) (ms : xMS), Rel cs ms → ∀ (x : Int32) (y : Int32), ∃ (k : Int32) (cs' : xCS) (ms' : xMS) (rm9 : Room), xMy l yL_wires wsL_wires rmL [.ref (a 0), .int x, .int y] G sa ([] ++ wXs G a cs) k ([] ++ wXs G a cs') ∧ rmOk rm9 ∧ xMv l yX4_wires wsX4_wires rm9 [.ref (a' 0), .int x, .int y] G (wMs G a' ms) (wMs G a' ms') 0 0 ∧ ms'.2.2.2.2.2 3 = k ∧ Rel cs' ms'
def st_buffer (l : Launch) (G : xG) (sa a a' : Nat → Nat) (o : Nat) (Rel : xCS → xMS → Prop) : Prop := ∀ (cs : xCS) (ms : xMS), Rel cs ms → ∀ (x : Int32) (y : Int32) (z : Int32), ∃ (k : Int32) (cs' : xCS) (ms' : xMS) (rm9 : Room), xMy l yL_buffer wsL_buffer rmL [.ref (a 0), .int x, .int y, .int z] G sa ([] ++ wXs G a cs) k ([] ++ wXs G a cs') ∧ rmOk rm9 ∧ xMv l yX4_buffer wsX4_buffer rm9 [.ref (a' 0), .int x, .int y, .int z] G (wMs G a' ms) (wMs G a' ms') 0 0 ∧ ms'.2.2.2.2.2 3 = k ∧ Rel cs' ms'
def st_sinks (Rel : xCS → xMS → Prop) : Prop := ∀ (cs : xCS) (ms : xMS), Rel cs ms → cs.2.2.2.1 4 = ms.2.2.2.2.2 4 ∧ Rel cs (ms.1, ms.2.1, ms.2.2.1, ms.2.2.2.1, ms.2.2.2.2.1, tS ms.2.2.2.2.2 3 (nI 0))
def st_build (l : Launch) (G : xG) (sa a a' : Nat → Nat) (o : Nat) (Rel : xCS → xMS → Prop) : Prop := ∀ (cs : xCS) (ms : xMS), Rel cs ms → ∀ (x : Int32) (f : Nat → Int64), ∃ (k : Int32) (rb : Int32) (cs' : xCS) (ms' : xMS) (f' : Nat → Int64) (rm9 : Room), xMy l yL_build wsL_build rmL [.ref (a 0), .int x, .ref o] G sa (wO G o f ++ wXs G a cs) k (wO G o f' ++ wXs G a cs') ∧ rmOk rm9 ∧ xMi l yX4_build wsX4_build rm9 [.ref (a' 0), .int x] G (wMs G a' ms) rb (wMs G a' ms') 0 0 ∧ ms'.2.2.2.2.2 3 = k ∧ (k = 0 → f' 0 = rb.toInt64) ∧ Rel cs' ms'
def st_node (l : Launch) (G : xG) (sa a a' : Nat → Nat) (o : Nat) (Rel : xCS → xMS → Prop) : Prop := ∀ (cs : xCS) (ms : xMS), Rel cs ms → ∀ (x : Int32) (y : Int32) (f : Nat → Int64), ∃ (k : Int32) (rb : Int32) (cs' : xCS) (ms' : xMS) (f' : Nat → Int64) (rm9 : Room), xMy l yL_node wsL_node rmL [.ref (a 0), .int x, .int y, .ref o] G sa (wO G o f ++ wXs G a cs) k (wO G o f' ++ wXs G a cs') ∧ rmOk rm9 ∧ xMi l yX4_node wsX4_node rm9 [.ref (a' 0), .int x, .int y] G (wMs G a' ms) rb (wMs G a' ms') 0 0 ∧ ms'.2.2.2.2.2 3 = k ∧ (k = 0 → f' 0 = rb.toInt64) ∧ Rel cs' ms'
def st_length (l : Launch) (G : xG) (sa a a' : Nat → Nat) (o : Nat) (Rel : xCS → xMS → Prop) : Prop := ∀ (cs : xCS) (ms : xMS), Rel cs ms → ∀ (f : Nat → Int64), ∃ (k : Int32) (rb : Int32) (cs' : xCS) (ms' : xMS) (f' : Nat → Int64) (rm9 : Room), xMy l yL_length wsL_length rmL [.ref (a 0), .ref o] G sa (wO G o f ++ wXs G a cs) k (wO G o f' ++ wXs G a cs') ∧ rmOk rm9 ∧ xMi l yX4_length wsX4_length rm9 [.ref (a' 0)] G (wMs G a' ms) rb (wMs G a' ms') 0 0 ∧ ms'.2.2.2.2.2 3 = k ∧ (k = 0 → f' 0 = rb.toInt64) ∧ Rel cs' ms'
def st_depth (l : Launch) (G : xG) (sa a a' : Nat → Nat) (o : Nat) (Rel : xCS → xMS → Prop) : Prop := ∀ (cs : xCS) (ms : xMS), Rel cs ms → ∀ (x : Int32) (f : Nat → Int64), ∃ (k : Int32) (rb : Int32) (cs' : xCS) (ms' : xMS) (f' : Nat → Int64) (rm9 : Room), xMy l yL_depth wsL_depth rmL [.ref (a 0), .int x, .ref o] G sa (wO G o f ++ wXs G a cs) k (wO G o f' ++ wXs G a cs') ∧ rmOk rm9 ∧ xMi l yX4_depth wsX4_depth rm9 [.ref (a' 0), .int x] G (wMs G a' ms) rb (wMs G a' ms') 0 0 ∧ ms'.2.2.2.2.2 3 = k ∧ (k = 0 → f' 0 = rb.toInt64) ∧ Rel cs' ms'
def st_set (l : Launch) (G : xG) (sa a a' : Nat → Nat) (o : Nat) (Rel : xCS → xMS → Prop) : Prop := ∀ (cs : xCS) (ms : xMS), Rel cs ms → ∀ (x : Int32) (y : Int32) (f : Nat → Int64), ∃ (k : Int32) (rb : Int32) (cs' : xCS) (ms' : xMS) (f' : Nat → Int64) (rm9 : Room), xMy l yL_set wsL_set rmL [.ref (a 0), .int x, .int (xb (¬ y = 0)), .ref o] G sa (wO G o f ++ wXs G a cs) k (wO G o f' ++ wXs G a cs') ∧ rmOk rm9 ∧ xMi l yX4_set wsX4_set rm9 [.ref (a' 0), .int x, .int (xb (¬ y = 0))] G (wMs G a' ms) rb (wMs G a' ms') 0 0 ∧ ms'.2.2.2.2.2 3 = k ∧ (k = 0 → f' 0 = (if rb = 0 then 0 else 1)) ∧ Rel cs' ms'
def st_setting (l : Launch) (G : xG) (sa a a' : Nat → Nat) (o : Nat) (Rel : xCS → xMS → Prop) : Prop := ∀ (cs : xCS) (ms : xMS), Rel cs ms → ∀ (f : Nat → Int64), ∃ (k : Int32) (rb : Int32) (cs' : xCS) (ms' : xMS) (f' : Nat → Int64) (rm9 : Room), xMy l yL_setting wsL_setting rmL [.ref (a 0), .ref o] G sa (wO G o f ++ wXs G a cs) k (wO G o f' ++ wXs G a cs') ∧ rmOk rm9 ∧ xMi l yX4_setting wsX4_setting rm9 [.ref (a' 0)] G (wMs G a' ms) rb (wMs G a' ms') 0 0 ∧ ms'.2.2.2.2.2 3 = k ∧ (k = 0 → f' 0 = rb.toInt64) ∧ Rel cs' ms'
def st_load (l : Launch) (G : xG) (sa a a' : Nat → Nat) (o : Nat) (Rel : xCS → xMS → Prop) : Prop := ∀ (cs : xCS) (ms : xMS), Rel cs ms → ∀ (x : Int32) (y : Int32) (f : Nat → Int64), ∃ (k : Int32) (rb : Int64) (cs' : xCS) (ms' : xMS) (f' : Nat → Int64) (rm9 : Room), xMy l yL_load wsL_load rmL [.ref (a 0), .int x, .int (xb (¬ y = 0)), .ref o] G sa (wO G o f ++ wXs G a cs) k (wO G o f' ++ wXs G a cs') ∧ rmOk rm9 ∧ xMl l yX4_load wsX4_load rm9 [.ref (a' 0), .int x, .int (xb (¬ y = 0))] G (wMs G a' ms) rb (wMs G a' ms') 0 0 ∧ ms'.2.2.2.2.2 3 = k ∧ (k = 0 → f' 0 = rb) ∧ Rel cs' ms'
def st_delay (l : Launch) (G : xG) (sa a a' : Nat → Nat) (o : Nat) (Rel : xCS → xMS → Prop) : Prop := ∀ (cs : xCS) (ms : xMS), Rel cs ms → ∀ (x : Int32) (f : Nat → Int64), ∃ (k : Int32) (rb : Int64) (cs' : xCS) (ms' : xMS) (f' : Nat → Int64) (rm9 : Room), xMy l yL_delay wsL_delay rmL [.ref (a 0), .int x, .ref o] G sa (wO G o f ++ wXs G a cs) k (wO G o f' ++ wXs G a cs') ∧ rmOk rm9 ∧ xMl l yX4_delay wsX4_delay rm9 [.ref (a' 0), .int x] G (wMs G a' ms) rb (wMs G a' ms') 0 0 ∧ ms'.2.2.2.2.2 3 = k ∧ (k = 0 → f' 0 = rb) ∧ Rel cs' ms'
def st_slack (l : Launch) (G : xG) (sa a a' : Nat → Nat) (o : Nat) (Rel : xCS → xMS → Prop) : Prop := ∀ (cs : xCS) (ms : xMS), Rel cs ms → ∀ (f : Nat → Int64), ∃ (k : Int32) (rb : Int64) (cs' : xCS) (ms' : xMS) (f' : Nat → Int64) (rm9 : Room), xMy l yL_slack wsL_slack rmL [.ref (a 0), .ref o] G sa (wO G o f ++ wXs G a cs) k (wO G o f' ++ wXs G a cs') ∧ rmOk rm9 ∧ xMl l yX4_slack wsX4_slack rm9 [.ref (a' 0)] G (wMs G a' ms) rb (wMs G a' ms') 0 0 ∧ ms'.2.2.2.2.2 3 = k ∧ (k = 0 → f' 0 = rb) ∧ Rel cs' ms'
def st_best (l : Launch) (G : xG) (sa a a' : Nat → Nat) (o : Nat) (Rel : xCS → xMS → Prop) : Prop := ∀ (cs : xCS) (ms : xMS), Rel cs ms → ∀ (f : Nat → Int64), ∃ (k : Int32) (rb : Int64) (cs' : xCS) (ms' : xMS) (f' : Nat → Int64) (rm9 : Room), xMy l yL_best wsL_best rmL [.ref (a 0), .ref o] G sa (wO G o f ++ wXs G a cs) k (wO G o f' ++ wXs G a cs') ∧ rmOk rm9 ∧ xMl l yX4_best wsX4_best rm9 [.ref (a' 0)] G (wMs G a' ms) rb (wMs G a' ms') 0 0 ∧ ms'.2.2.2.2.2 3 = k ∧ (k = 0 → f' 0 = rb) ∧ Rel cs' ms'
def st_improve (l : Launch) (G : xG) (sa a a' : Nat → Nat) (o : Nat) (Rel : xCS → xMS → Prop) : Prop := ∀ (cs : xCS) (ms : xMS), Rel cs ms → ∀ (f : Nat → Int64), ∃ (k : Int32) (rb : Int32) (cs' : xCS) (ms' : xMS) (f' : Nat → Int64) (rm9 : Room), xMy l yL_improve wsL_improve rmL [.ref (a 0), .ref o] G sa (wO G o f ++ wXs G a cs) k (wO G o f' ++ wXs G a cs') ∧ rmOk rm9 ∧ xMi l yX4_improve wsX4_improve rm9 [.ref (a' 0)] G (wMs G a' ms) rb (wMs G a' ms') 0 0 ∧ ms'.2.2.2.2.2 3 = k ∧ (k = 0 → f' 0 = rb.toInt64) ∧ Rel cs' ms'
theorem x_gt5 {i L : Nat} (hi : i ≤ 10000) (hL : L ≤ 10000) : nI L - nI 5 < nI i ↔ L < i + 5 := by
  rcases Nat.lt_or_ge L 5 with h | h
  · refine ⟨fun _ => by omega, fun _ => ?_⟩
    exact Int32.lt_of_lt_of_le (pk_sneg (by omega) h) (Int32.not_lt.mp (nI_pos (by omega)))
  · rw [pk_sub h, nI_ltI (by omega) (by omega)]
    omega
set_option maxHeartbeats 2000000 in
set_option maxRecDepth 100000 in
/-- the law's loop, over any relation of class and model that the calls keep -/
theorem law_loop {p : Program} {l : Launch} {e : Env} {s : State} {m : MethodId} {below : List Frame} {meth : Method} {c : Code} {G : xG} {sa a a' : Nat → Nat} {o b L : Nat} {xs : Nat → Int32} (Rel : xCS → xMS → Prop) (hL : L ≤ 2560) (C : xC p c m s #[.ref b] cL_law RL wsL_law G) (hml : c.maxLocals = 8) (hr : meth.sig.returnType = ret) (hlocks : meth.locks = false) (hX9 : va_X b L xs s s.heap) (hbl : b < s.heap.size) (hX : xX sa s) (hN : xN s) (hZ : xZ (fun q : Nat => s.heap.size ≤ q) s s.heap)
    (s_sink : st_sink l G sa a a' o Rel) (s_cut : st_cut l G sa a a' o Rel) (s_source : st_source l G sa a a' o Rel) (s_wires : st_wires l G sa a a' o Rel) (s_buffer : st_buffer l G sa a a' o Rel) (s_sinks : st_sinks Rel) (s_build : st_build l G sa a a' o Rel) (s_node : st_node l G sa a a' o Rel) (s_length : st_length l G sa a a' o Rel) (s_depth : st_depth l G sa a a' o Rel) (s_set : st_set l G sa a a' o Rel) (s_setting : st_setting l G sa a a' o Rel) (s_load : st_load l G sa a a' o Rel) (s_delay : st_delay l G sa a a' o Rel) (s_slack : st_slack l G sa a a' o Rel) (s_best : st_best l G sa a a' o Rel) (s_improve : st_improve l G sa a a' o Rel) :
    ∀ (n i : Nat) (cs : xCS) (ms : xMS) (f : Nat → Int64) (cells slots : Nat) (H : Heap) (locs : List Loc) (ls : Array Slot), i ≤ L + 5 → L + 6 ≤ i + n → Rel cs ms → cells ≤ 100 + i → slots ≤ 2000 + 6 * i → xH G (fun q : Nat => s.heap.size ≤ q) s.heap H locs (wMs G a' ms ++ (wO G o f ++ wXs G a cs)) → lv_has ls 8 [(0, .ref b), (1, .ref (a 0)), (2, .ref (a' 0)), (3, .ref o), (4, .int (nI i))] →
      W p l e room_1 s m #[.ref b] below meth c H locs cells slots (lw_Z below #[.ref b] s) (F0 m 23 ls []) := by
  have hA : ∀ q : Nat, s.heap.size ≤ q → (fun q : Nat => s.heap.size ≤ q) q := fun _ h => h
  have hbA : ¬ (fun q : Nat => s.heap.size ≤ q) b := Nat.not_le.mpr hbl
  intro n
  induction n with
  | zero =>
    intro i cs ms f cells slots H locs ls h1 h2
    exact absurd h2 (by omega)
  | succ n ih =>
    intro i cs ms f cells slots H locs ls hi hin hrel hc1 hs1 hH hl
    refine lv_iload C.1 C.2.1 dL_law_23 (lv_at hl 4 rfl) ?_
    refine lv_aload_n C.1 C.2.1 dL_law_25 rfl (lv_at hl 0 rfl) ?_
    refine va_slen C.1 C.2.1 hX9 hbl hbA hH.2.2 dL_law_26 ?_
    refine lv_iconst (v := nI 5) C.1 C.2.1 dL_law_27 (by decide) ?_
    refine lv_isub C.1 C.2.1 dL_law_28 ?_
    refine lv_icmp_gt (tgt := 1050) C.1 C.2.1 dL_law_29 (by decide) (fun _ => ?_) (fun hg => ?_)
    · refine lv_iconst (v := 1) C.1 C.2.1 dL_law_1050 (by decide) ?_
      refine va_forget (fun q hq => hH.2.2.2.2 q hq) ?_
      refine W.widen (k := 624656) (n := 7222135) (by omega) (by omega) ?_
      exact lw_ret C.1 C.2.1 hr hlocks dL_law_1051
    · have h5 : i + 5 ≤ L := by
        have h9 : ¬ L < i + 5 := fun q => hg ((x_gt5 (by omega) (by omega)).mpr q)
        omega
      have fin : ∀ (cs : xCS) (ms : xMS) (f : Nat → Int64) (k n9 : Nat) (H : Heap) (locs : List Loc) (ls : Array Slot), Rel cs ms → k ≤ 100 + (i + 5) → n9 ≤ 2000 + 6 * (i + 5) → xH G (fun q : Nat => s.heap.size ≤ q) s.heap H locs (wMs G a' ms ++ (wO G o f ++ wXs G a cs)) → lv_has ls 8 [(0, .ref b), (1, .ref (a 0)), (2, .ref (a' 0)), (3, .ref o), (4, .int (nI i))] → W p l e room_1 s m #[.ref b] below meth c H locs k n9 (lw_Z below #[.ref b] s) (F0 m 1044 ls []) := by
        intro cs ms f k n9 H locs ls hrel hk hn hH hl
        refine lv_iinc (v := nI (i + 5)) (lv' := [(4, .int (nI (i + 5))), (0, .ref b), (1, .ref (a 0)), (2, .ref (a' 0)), (3, .ref o)]) C.1 C.2.1 dL_law_1044 hl (k := 4) rfl (x_add i 5) (by decide) rfl (fun ls hl => ?_)
        refine lv_goto (tgt := 23) C.1 C.2.1 dL_law_1047 (by decide) ?_
        exact ih (i + 5) cs ms f k n9 H locs ls (by omega) (by omega) hrel hk hn hH (lv_sub hl [1, 2, 3, 4, 0] rfl)
      refine lv_aload_n C.1 C.2.1 dL_law_32 rfl (lv_at hl 0 rfl) ?_
      refine lv_iload C.1 C.2.1 dL_law_33 (lv_at hl 4 rfl) ?_
      refine x_scr C hX9 hbl hbA hH i (by omega) hL dL_law_35 ?_
      refine lv_bipush (v := 31) C.1 C.2.1 dL_law_36 (by decide) ?_
      refine lv_iand C.1 C.2.1 dL_law_38 ?_
      generalize xs i &&& 31 = y
      by_cases hout : y.toInt < 0 ∨ 16 < y.toInt
      · refine lv_tableOut (tgt := 1044) C.1 C.2.1 dL_law_39 hout (by decide) ?_
        exact fin cs ms f cells slots H locs ls hrel (by omega) (by omega) hH hl
      rcases (show y.toInt = 0 ∨ y.toInt = 1 ∨ y.toInt = 2 ∨ y.toInt = 3 ∨ y.toInt = 4 ∨ y.toInt = 5 ∨ y.toInt = 6 ∨ y.toInt = 7 ∨ y.toInt = 8 ∨ y.toInt = 9 ∨ y.toInt = 10 ∨ y.toInt = 11 ∨ y.toInt = 12 ∨ y.toInt = 13 ∨ y.toInt = 14 ∨ y.toInt = 15 ∨ y.toInt = 16 by omega) with hy | hy | hy | hy | hy | hy | hy | hy | hy | hy | hy | hy | hy | hy | hy | hy | hy
      · refine lv_tableIn (off := 81) (tgt := 120) C.1 C.2.1 dL_law_39 (by omega) (by omega) (by rw [hy]; rfl) (by decide) ?_
        obtain ⟨k, rb, cs', ms', f', rm9, h1, h2, h3, h4, hv, hrel2⟩ := s_sink cs ms hrel (xs (i + 1)) (xs (i + 2)) (xs (i + 3)) (xs (i + 4)) f
        exact lc_sink (f' := f') (wm := wMs G a' ms) (wm' := wMs G a' ms') (wx := wXs G a cs) (wx' := wXs G a cs') C hml hX9 hbl hbA hA hX hN hZ h5 hL hH hl rfl rfl (by omega) (by omega) h1 h2 h3 (by rw [← h4]; exact c_X4_thrown l G a' ms'.1 ms'.2.1 ms'.2.2.1 ms'.2.2.2.1 ms'.2.2.2.2.1 ms'.2.2.2.2.2) hv
          (fun H1 locs1 ls1 hH1 hl1 => fin cs' ms' f' (cells + 1) (slots + 6) H1 locs1 ls1 hrel2 (by omega) (by omega) hH1 hl1)
      · refine lv_tableIn (off := 173) (tgt := 212) C.1 C.2.1 dL_law_39 (by omega) (by omega) (by rw [hy]; rfl) (by decide) ?_
        obtain ⟨k, cs', ms', rm9, h1, h2, h3, h4, hrel2⟩ := s_cut cs ms hrel (xs (i + 1))
        exact lc_cut (f' := f) (wm := wMs G a' ms) (wm' := wMs G a' ms') (wx := wXs G a cs) (wx' := wXs G a cs') C hml hX9 hbl hbA hA hX hN hZ h5 hL hH hl rfl rfl (by omega) (by omega) h1 h2 h3 (by rw [← h4]; exact c_X4_thrown l G a' ms'.1 ms'.2.1 ms'.2.2.1 ms'.2.2.2.1 ms'.2.2.2.2.1 ms'.2.2.2.2.2) rfl
          (fun H1 locs1 ls1 hH1 hl1 => fin cs' ms' f (cells + 1) (slots + 6) H1 locs1 ls1 hrel2 (by omega) (by omega) hH1 hl1)
      · refine lv_tableIn (off := 209) (tgt := 248) C.1 C.2.1 dL_law_39 (by omega) (by omega) (by rw [hy]; rfl) (by decide) ?_
        obtain ⟨k, cs', ms', rm9, h1, h2, h3, h4, hrel2⟩ := s_source cs ms hrel (xs (i + 1)) (xs (i + 2))
        exact lc_source (f' := f) (wm := wMs G a' ms) (wm' := wMs G a' ms') (wx := wXs G a cs) (wx' := wXs G a cs') C hml hX9 hbl hbA hA hX hN hZ h5 hL hH hl rfl rfl (by omega) (by omega) h1 h2 h3 (by rw [← h4]; exact c_X4_thrown l G a' ms'.1 ms'.2.1 ms'.2.2.1 ms'.2.2.2.1 ms'.2.2.2.2.1 ms'.2.2.2.2.2) rfl
          (fun H1 locs1 ls1 hH1 hl1 => fin cs' ms' f (cells + 1) (slots + 6) H1 locs1 ls1 hrel2 (by omega) (by omega) hH1 hl1)
      · refine lv_tableIn (off := 257) (tgt := 296) C.1 C.2.1 dL_law_39 (by omega) (by omega) (by rw [hy]; rfl) (by decide) ?_
        obtain ⟨k, cs', ms', rm9, h1, h2, h3, h4, hrel2⟩ := s_wires cs ms hrel (xs (i + 1)) (xs (i + 2))
        exact lc_wires (f' := f) (wm := wMs G a' ms) (wm' := wMs G a' ms') (wx := wXs G a cs) (wx' := wXs G a cs') C hml hX9 hbl hbA hA hX hN hZ h5 hL hH hl rfl rfl (by omega) (by omega) h1 h2 h3 (by rw [← h4]; exact c_X4_thrown l G a' ms'.1 ms'.2.1 ms'.2.2.1 ms'.2.2.2.1 ms'.2.2.2.2.1 ms'.2.2.2.2.2) rfl
          (fun H1 locs1 ls1 hH1 hl1 => fin cs' ms' f (cells + 1) (slots + 6) H1 locs1 ls1 hrel2 (by omega) (by omega) hH1 hl1)
      · refine lv_tableIn (off := 305) (tgt := 344) C.1 C.2.1 dL_law_39 (by omega) (by omega) (by rw [hy]; rfl) (by decide) ?_
        obtain ⟨k, cs', ms', rm9, h1, h2, h3, h4, hrel2⟩ := s_buffer cs ms hrel (xs (i + 1)) (xs (i + 2)) (xs (i + 3))
        exact lc_buffer (f' := f) (wm := wMs G a' ms) (wm' := wMs G a' ms') (wx := wXs G a cs) (wx' := wXs G a cs') C hml hX9 hbl hbA hA hX hN hZ h5 hL hH hl rfl rfl (by omega) (by omega) h1 h2 h3 (by rw [← h4]; exact c_X4_thrown l G a' ms'.1 ms'.2.1 ms'.2.2.1 ms'.2.2.2.1 ms'.2.2.2.2.1 ms'.2.2.2.2.2) rfl
          (fun H1 locs1 ls1 hH1 hl1 => fin cs' ms' f (cells + 1) (slots + 6) H1 locs1 ls1 hrel2 (by omega) (by omega) hH1 hl1)
      · refine lv_tableIn (off := 365) (tgt := 404) C.1 C.2.1 dL_law_39 (by omega) (by omega) (by rw [hy]; rfl) (by decide) ?_
        obtain ⟨k1, k2⟩ := s_sinks cs ms hrel
        exact lc_sinks (r9 := cs.2.2.2.1 4) (wm := wMs G a' ms) (wm' := wMs G a' (ms.1, ms.2.1, ms.2.2.1, ms.2.2.2.1, ms.2.2.2.2.1, tS ms.2.2.2.2.2 3 (nI 0))) (wx := wXs G a cs) C hml hX9 hbl hbA hA hX hN hZ h5 hL hH hl rfl rfl (by omega) (by omega) gX_0 (c_X3_sinks l G a cs.1 cs.2.1 cs.2.2.1 cs.2.2.2.1 cs.2.2.2.2) (by rw [k1]; exact c_X4_sinks l G a' ms.1 ms.2.1 ms.2.2.1 ms.2.2.2.1 ms.2.2.2.2.1 ms.2.2.2.2.2)
          (fun H1 locs1 ls1 hH1 hl1 => fin cs _ f cells slots H1 locs1 ls1 k2 (by omega) (by omega) hH1 hl1)
      · refine lv_tableIn (off := 378) (tgt := 417) C.1 C.2.1 dL_law_39 (by omega) (by omega) (by rw [hy]; rfl) (by decide) ?_
        obtain ⟨k, rb, cs', ms', f', rm9, h1, h2, h3, h4, hv, hrel2⟩ := s_build cs ms hrel (xs (i + 1)) f
        exact lc_build (f' := f') (wm := wMs G a' ms) (wm' := wMs G a' ms') (wx := wXs G a cs) (wx' := wXs G a cs') C hml hX9 hbl hbA hA hX hN hZ h5 hL hH hl rfl rfl (by omega) (by omega) h1 h2 h3 (by rw [← h4]; exact c_X4_thrown l G a' ms'.1 ms'.2.1 ms'.2.2.1 ms'.2.2.2.1 ms'.2.2.2.2.1 ms'.2.2.2.2.2) hv
          (fun H1 locs1 ls1 hH1 hl1 => fin cs' ms' f' (cells + 1) (slots + 6) H1 locs1 ls1 hrel2 (by omega) (by omega) hH1 hl1)
      · refine lv_tableIn (off := 434) (tgt := 473) C.1 C.2.1 dL_law_39 (by omega) (by omega) (by rw [hy]; rfl) (by decide) ?_
        obtain ⟨k, rb, cs', ms', f', rm9, h1, h2, h3, h4, hv, hrel2⟩ := s_node cs ms hrel (xs (i + 1)) (xs (i + 2)) f
        exact lc_node (f' := f') (wm := wMs G a' ms) (wm' := wMs G a' ms') (wx := wXs G a cs) (wx' := wXs G a cs') C hml hX9 hbl hbA hA hX hN hZ h5 hL hH hl rfl rfl (by omega) (by omega) h1 h2 h3 (by rw [← h4]; exact c_X4_thrown l G a' ms'.1 ms'.2.1 ms'.2.2.1 ms'.2.2.2.1 ms'.2.2.2.2.1 ms'.2.2.2.2.2) hv
          (fun H1 locs1 ls1 hH1 hl1 => fin cs' ms' f' (cells + 1) (slots + 6) H1 locs1 ls1 hrel2 (by omega) (by omega) hH1 hl1)
      · refine lv_tableIn (off := 502) (tgt := 541) C.1 C.2.1 dL_law_39 (by omega) (by omega) (by rw [hy]; rfl) (by decide) ?_
        obtain ⟨k, rb, cs', ms', f', rm9, h1, h2, h3, h4, hv, hrel2⟩ := s_length cs ms hrel  f
        exact lc_length (f' := f') (wm := wMs G a' ms) (wm' := wMs G a' ms') (wx := wXs G a cs) (wx' := wXs G a cs') C hml hX9 hbl hbA hA hX hN hZ h5 hL hH hl rfl rfl (by omega) (by omega) h1 h2 h3 (by rw [← h4]; exact c_X4_thrown l G a' ms'.1 ms'.2.1 ms'.2.2.1 ms'.2.2.2.1 ms'.2.2.2.2.1 ms'.2.2.2.2.2) hv
          (fun H1 locs1 ls1 hH1 hl1 => fin cs' ms' f' (cells + 1) (slots + 6) H1 locs1 ls1 hrel2 (by omega) (by omega) hH1 hl1)
      · refine lv_tableIn (off := 546) (tgt := 585) C.1 C.2.1 dL_law_39 (by omega) (by omega) (by rw [hy]; rfl) (by decide) ?_
        obtain ⟨k, rb, cs', ms', f', rm9, h1, h2, h3, h4, hv, hrel2⟩ := s_depth cs ms hrel (xs (i + 1)) f
        exact lc_depth (f' := f') (wm := wMs G a' ms) (wm' := wMs G a' ms') (wx := wXs G a cs) (wx' := wXs G a cs') C hml hX9 hbl hbA hA hX hN hZ h5 hL hH hl rfl rfl (by omega) (by omega) h1 h2 h3 (by rw [← h4]; exact c_X4_thrown l G a' ms'.1 ms'.2.1 ms'.2.2.1 ms'.2.2.2.1 ms'.2.2.2.2.1 ms'.2.2.2.2.2) hv
          (fun H1 locs1 ls1 hH1 hl1 => fin cs' ms' f' (cells + 1) (slots + 6) H1 locs1 ls1 hrel2 (by omega) (by omega) hH1 hl1)
      · refine lv_tableIn (off := 602) (tgt := 641) C.1 C.2.1 dL_law_39 (by omega) (by omega) (by rw [hy]; rfl) (by decide) ?_
        obtain ⟨k, rb, cs', ms', f', rm9, h1, h2, h3, h4, hv, hrel2⟩ := s_set cs ms hrel (xs (i + 1)) (xs (i + 2)) f
        exact lc_set (f' := f') (wm := wMs G a' ms) (wm' := wMs G a' ms') (wx := wXs G a cs) (wx' := wXs G a cs') C hml hX9 hbl hbA hA hX hN hZ h5 hL hH hl rfl rfl (by omega) (by omega) h1 h2 h3 (by rw [← h4]; exact c_X4_thrown l G a' ms'.1 ms'.2.1 ms'.2.2.1 ms'.2.2.2.1 ms'.2.2.2.2.1 ms'.2.2.2.2.2) hv
          (fun H1 locs1 ls1 hH1 hl1 => fin cs' ms' f' (cells + 1) (slots + 6) H1 locs1 ls1 hrel2 (by omega) (by omega) hH1 hl1)
      · refine lv_tableIn (off := 693) (tgt := 732) C.1 C.2.1 dL_law_39 (by omega) (by omega) (by rw [hy]; rfl) (by decide) ?_
        obtain ⟨k, rb, cs', ms', f', rm9, h1, h2, h3, h4, hv, hrel2⟩ := s_setting cs ms hrel  f
        exact lc_setting (f' := f') (wm := wMs G a' ms) (wm' := wMs G a' ms') (wx := wXs G a cs) (wx' := wXs G a cs') C hml hX9 hbl hbA hA hX hN hZ h5 hL hH hl rfl rfl (by omega) (by omega) h1 h2 h3 (by rw [← h4]; exact c_X4_thrown l G a' ms'.1 ms'.2.1 ms'.2.2.1 ms'.2.2.2.1 ms'.2.2.2.2.1 ms'.2.2.2.2.2) hv
          (fun H1 locs1 ls1 hH1 hl1 => fin cs' ms' f' (cells + 1) (slots + 6) H1 locs1 ls1 hrel2 (by omega) (by omega) hH1 hl1)
      · refine lv_tableIn (off := 737) (tgt := 776) C.1 C.2.1 dL_law_39 (by omega) (by omega) (by rw [hy]; rfl) (by decide) ?_
        obtain ⟨k, rb, cs', ms', f', rm9, h1, h2, h3, h4, hv, hrel2⟩ := s_load cs ms hrel (xs (i + 1)) (xs (i + 2)) f
        exact lc_load (f' := f') (wm := wMs G a' ms) (wm' := wMs G a' ms') (wx := wXs G a cs) (wx' := wXs G a cs') C hml hX9 hbl hbA hA hX hN hZ h5 hL hH hl rfl rfl (by omega) (by omega) h1 h2 h3 (by rw [← h4]; exact c_X4_thrown l G a' ms'.1 ms'.2.1 ms'.2.2.1 ms'.2.2.2.1 ms'.2.2.2.2.1 ms'.2.2.2.2.2) hv
          (fun H1 locs1 ls1 hH1 hl1 => fin cs' ms' f' (cells + 1) (slots + 6) H1 locs1 ls1 hrel2 (by omega) (by omega) hH1 hl1)
      · refine lv_tableIn (off := 820) (tgt := 859) C.1 C.2.1 dL_law_39 (by omega) (by omega) (by rw [hy]; rfl) (by decide) ?_
        obtain ⟨k, rb, cs', ms', f', rm9, h1, h2, h3, h4, hv, hrel2⟩ := s_delay cs ms hrel (xs (i + 1)) f
        exact lc_delay (f' := f') (wm := wMs G a' ms) (wm' := wMs G a' ms') (wx := wXs G a cs) (wx' := wXs G a cs') C hml hX9 hbl hbA hA hX hN hZ h5 hL hH hl rfl rfl (by omega) (by omega) h1 h2 h3 (by rw [← h4]; exact c_X4_thrown l G a' ms'.1 ms'.2.1 ms'.2.2.1 ms'.2.2.2.1 ms'.2.2.2.2.1 ms'.2.2.2.2.2) hv
          (fun H1 locs1 ls1 hH1 hl1 => fin cs' ms' f' (cells + 1) (slots + 6) H1 locs1 ls1 hrel2 (by omega) (by omega) hH1 hl1)
      · refine lv_tableIn (off := 875) (tgt := 914) C.1 C.2.1 dL_law_39 (by omega) (by omega) (by rw [hy]; rfl) (by decide) ?_
        obtain ⟨k, rb, cs', ms', f', rm9, h1, h2, h3, h4, hv, hrel2⟩ := s_slack cs ms hrel  f
        exact lc_slack (f' := f') (wm := wMs G a' ms) (wm' := wMs G a' ms') (wx := wXs G a cs) (wx' := wXs G a cs') C hml hX9 hbl hbA hA hX hN hZ h5 hL hH hl rfl rfl (by omega) (by omega) h1 h2 h3 (by rw [← h4]; exact c_X4_thrown l G a' ms'.1 ms'.2.1 ms'.2.2.1 ms'.2.2.2.1 ms'.2.2.2.2.1 ms'.2.2.2.2.2) hv
          (fun H1 locs1 ls1 hH1 hl1 => fin cs' ms' f' (cells + 1) (slots + 6) H1 locs1 ls1 hrel2 (by omega) (by omega) hH1 hl1)
      · refine lv_tableIn (off := 918) (tgt := 957) C.1 C.2.1 dL_law_39 (by omega) (by omega) (by rw [hy]; rfl) (by decide) ?_
        obtain ⟨k, rb, cs', ms', f', rm9, h1, h2, h3, h4, hv, hrel2⟩ := s_best cs ms hrel  f
        exact lc_best (f' := f') (wm := wMs G a' ms) (wm' := wMs G a' ms') (wx := wXs G a cs) (wx' := wXs G a cs') C hml hX9 hbl hbA hA hX hN hZ h5 hL hH hl rfl rfl (by omega) (by omega) h1 h2 h3 (by rw [← h4]; exact c_X4_thrown l G a' ms'.1 ms'.2.1 ms'.2.2.1 ms'.2.2.2.1 ms'.2.2.2.2.1 ms'.2.2.2.2.2) hv
          (fun H1 locs1 ls1 hH1 hl1 => fin cs' ms' f' (cells + 1) (slots + 6) H1 locs1 ls1 hrel2 (by omega) (by omega) hH1 hl1)
      · refine lv_tableIn (off := 961) (tgt := 1000) C.1 C.2.1 dL_law_39 (by omega) (by omega) (by rw [hy]; rfl) (by decide) ?_
        obtain ⟨k, rb, cs', ms', f', rm9, h1, h2, h3, h4, hv, hrel2⟩ := s_improve cs ms hrel  f
        exact lc_improve (f' := f') (wm := wMs G a' ms) (wm' := wMs G a' ms') (wx := wXs G a cs) (wx' := wXs G a cs') C hml hX9 hbl hbA hA hX hN hZ h5 hL hH hl rfl rfl (by omega) (by omega) h1 h2 h3 (by rw [← h4]; exact c_X4_thrown l G a' ms'.1 ms'.2.1 ms'.2.2.1 ms'.2.2.2.1 ms'.2.2.2.2.1 ms'.2.2.2.2.2) hv
          (fun H1 locs1 ls1 hH1 hl1 => fin cs' ms' f' (cells + 1) (slots + 6) H1 locs1 ls1 hrel2 (by omega) (by omega) hH1 hl1)
