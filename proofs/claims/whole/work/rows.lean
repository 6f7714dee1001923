section
-- ===== PART A: goes FIRST, ahead of the names: the tables' words, and 'selects' of the private methods out of them =====
/-- a private method of a class that the tables say can be made, by its rows of tables_1 -/
def lw_okq (q : MethodName × Nat) : Prop := (q.1.cls ≠ "java/lang/invoke/MethodHandle" ∧ q.1.cls ≠ "java/lang/invoke/VarHandle") ∧ Cond.instantiable q.1.cls q.2 ∈ tables_1 ∧ Cond.privateMethod q.1 ∈ tables_1 ∧ Cond.instanceMethod q.1 ∈ tables_1
theorem lw_p0 : lw_okq (⟨"java/lang/Throwable", "fillInStackTrace", "(I)Ljava/lang/Throwable;"⟩, 6) := ⟨⟨by decide +kernel, by decide +kernel⟩, List.mem_of_getElem? (i := 239) (by decide +kernel), List.mem_of_getElem? (i := 237) (by decide +kernel), List.mem_of_getElem? (i := 238) (by decide +kernel)⟩
theorem lw_p1 : lw_okq (⟨"EvenClock$Tree", "joinNearestPair", "()V"⟩, 14) := ⟨⟨by decide +kernel, by decide +kernel⟩, List.mem_of_getElem? (i := 53) (by decide +kernel), List.mem_of_getElem? (i := 361) (by decide +kernel), List.mem_of_getElem? (i := 362) (by decide +kernel)⟩
theorem lw_p2 : lw_okq (⟨"EvenClock$Tree", "distanceOf", "(II)I"⟩, 14) := ⟨⟨by decide +kernel, by decide +kernel⟩, List.mem_of_getElem? (i := 53) (by decide +kernel), List.mem_of_getElem? (i := 366) (by decide +kernel), List.mem_of_getElem? (i := 367) (by decide +kernel)⟩
theorem lw_p3 : lw_okq (⟨"EvenClock$Tree", "joinTwo", "(II)I"⟩, 14) := ⟨⟨by decide +kernel, by decide +kernel⟩, List.mem_of_getElem? (i := 53) (by decide +kernel), List.mem_of_getElem? (i := 376) (by decide +kernel), List.mem_of_getElem? (i := 377) (by decide +kernel)⟩
theorem lw_p4 : lw_okq (⟨"EvenClock$Tree", "setWires", "(III)V"⟩, 14) := ⟨⟨by decide +kernel, by decide +kernel⟩, List.mem_of_getElem? (i := 53) (by decide +kernel), List.mem_of_getElem? (i := 380) (by decide +kernel), List.mem_of_getElem? (i := 381) (by decide +kernel)⟩
theorem lw_p5 : lw_okq (⟨"EvenClock$Tree", "orderRow", "(LEvenClock$SinkRows;IIZ)V"⟩, 14) := ⟨⟨by decide +kernel, by decide +kernel⟩, List.mem_of_getElem? (i := 53) (by decide +kernel), List.mem_of_getElem? (i := 394) (by decide +kernel), List.mem_of_getElem? (i := 395) (by decide +kernel)⟩
theorem lw_p6 : lw_okq (⟨"EvenClock$Tree", "standNear", "(III)V"⟩, 14) := ⟨⟨by decide +kernel, by decide +kernel⟩, List.mem_of_getElem? (i := 53) (by decide +kernel), List.mem_of_getElem? (i := 408) (by decide +kernel), List.mem_of_getElem? (i := 409) (by decide +kernel)⟩
theorem lw_p7 : lw_okq (⟨"EvenClock", "requireTree", "()V"⟩, 7) := ⟨⟨by decide +kernel, by decide +kernel⟩, List.mem_of_getElem? (i := 16) (by decide +kernel), List.mem_of_getElem? (i := 424) (by decide +kernel), List.mem_of_getElem? (i := 425) (by decide +kernel)⟩
theorem lw_p8 : lw_okq (⟨"EvenClock", "requireSink", "(I)V"⟩, 7) := ⟨⟨by decide +kernel, by decide +kernel⟩, List.mem_of_getElem? (i := 16) (by decide +kernel), List.mem_of_getElem? (i := 482) (by decide +kernel), List.mem_of_getElem? (i := 483) (by decide +kernel)⟩
theorem lw_p9 : lw_okq (⟨"EvenClock$Circuit", "weighSinks", "(LEvenClock$Tree;LEvenClock$SinkRows;)V"⟩, 10) := ⟨⟨by decide +kernel, by decide +kernel⟩, List.mem_of_getElem? (i := 110) (by decide +kernel), List.mem_of_getElem? (i := 522) (by decide +kernel), List.mem_of_getElem? (i := 523) (by decide +kernel)⟩
theorem lw_p10 : lw_okq (⟨"EvenClock$Circuit", "weighJoin", "(LEvenClock$Tree;IZ)V"⟩, 10) := ⟨⟨by decide +kernel, by decide +kernel⟩, List.mem_of_getElem? (i := 110) (by decide +kernel), List.mem_of_getElem? (i := 529) (by decide +kernel), List.mem_of_getElem? (i := 530) (by decide +kernel)⟩
theorem lw_p11 : lw_okq (⟨"EvenClock$Circuit", "wireCapacity", "(LEvenClock$Tree;I)J"⟩, 10) := ⟨⟨by decide +kernel, by decide +kernel⟩, List.mem_of_getElem? (i := 110) (by decide +kernel), List.mem_of_getElem? (i := 533) (by decide +kernel), List.mem_of_getElem? (i := 534) (by decide +kernel)⟩
theorem lw_p12 : lw_okq (⟨"EvenClock$Circuit", "slackAbove", "(LEvenClock$Tree;I)J"⟩, 10) := ⟨⟨by decide +kernel, by decide +kernel⟩, List.mem_of_getElem? (i := 110) (by decide +kernel), List.mem_of_getElem? (i := 537) (by decide +kernel), List.mem_of_getElem? (i := 538) (by decide +kernel)⟩
theorem lw_p13 : lw_okq (⟨"EvenClock$Circuit", "wireDelay", "(LEvenClock$Tree;I)J"⟩, 10) := ⟨⟨by decide +kernel, by decide +kernel⟩, List.mem_of_getElem? (i := 110) (by decide +kernel), List.mem_of_getElem? (i := 541) (by decide +kernel), List.mem_of_getElem? (i := 542) (by decide +kernel)⟩
theorem lw_p14 : lw_okq (⟨"EvenClock$Circuit", "bufferDelay", "(I)J"⟩, 10) := ⟨⟨by decide +kernel, by decide +kernel⟩, List.mem_of_getElem? (i := 110) (by decide +kernel), List.mem_of_getElem? (i := 549) (by decide +kernel), List.mem_of_getElem? (i := 550) (by decide +kernel)⟩
theorem lw_p15 : lw_okq (⟨"EvenClock$Circuit", "keepIfBetter", "(JI)V"⟩, 10) := ⟨⟨by decide +kernel, by decide +kernel⟩, List.mem_of_getElem? (i := 110) (by decide +kernel), List.mem_of_getElem? (i := 590) (by decide +kernel), List.mem_of_getElem? (i := 591) (by decide +kernel)⟩
def lw_privs_1 : List (MethodName × Nat) := [(⟨"java/lang/Throwable", "fillInStackTrace", "(I)Ljava/lang/Throwable;"⟩, 6), (⟨"EvenClock$Tree", "joinNearestPair", "()V"⟩, 14), (⟨"EvenClock$Tree", "distanceOf", "(II)I"⟩, 14), (⟨"EvenClock$Tree", "joinTwo", "(II)I"⟩, 14), (⟨"EvenClock$Tree", "setWires", "(III)V"⟩, 14), (⟨"EvenClock$Tree", "orderRow", "(LEvenClock$SinkRows;IIZ)V"⟩, 14), (⟨"EvenClock$Tree", "standNear", "(III)V"⟩, 14), (⟨"EvenClock", "requireTree", "()V"⟩, 7), (⟨"EvenClock", "requireSink", "(I)V"⟩, 7), (⟨"EvenClock$Circuit", "weighSinks", "(LEvenClock$Tree;LEvenClock$SinkRows;)V"⟩, 10), (⟨"EvenClock$Circuit", "weighJoin", "(LEvenClock$Tree;IZ)V"⟩, 10), (⟨"EvenClock$Circuit", "wireCapacity", "(LEvenClock$Tree;I)J"⟩, 10), (⟨"EvenClock$Circuit", "slackAbove", "(LEvenClock$Tree;I)J"⟩, 10), (⟨"EvenClock$Circuit", "wireDelay", "(LEvenClock$Tree;I)J"⟩, 10), (⟨"EvenClock$Circuit", "bufferDelay", "(I)J"⟩, 10), (⟨"EvenClock$Circuit", "keepIfBetter", "(JI)V"⟩, 10)]
theorem lw_r1 : ∀ q ∈ lw_privs_1, lw_okq q := List.forall_mem_cons.mpr ⟨lw_p0, List.forall_mem_cons.mpr ⟨lw_p1, List.forall_mem_cons.mpr ⟨lw_p2, List.forall_mem_cons.mpr ⟨lw_p3, List.forall_mem_cons.mpr ⟨lw_p4, List.forall_mem_cons.mpr ⟨lw_p5, List.forall_mem_cons.mpr ⟨lw_p6, List.forall_mem_cons.mpr ⟨lw_p7, List.forall_mem_cons.mpr ⟨lw_p8, List.forall_mem_cons.mpr ⟨lw_p9, List.forall_mem_cons.mpr ⟨lw_p10, List.forall_mem_cons.mpr ⟨lw_p11, List.forall_mem_cons.mpr ⟨lw_p12, List.forall_mem_cons.mpr ⟨lw_p13, List.forall_mem_cons.mpr ⟨lw_p14, List.forall_mem_cons.mpr ⟨lw_p15, fun _ h => absurd h List.not_mem_nil⟩⟩⟩⟩⟩⟩⟩⟩⟩⟩⟩⟩⟩⟩⟩⟩
theorem lw_p16 : lw_okq (⟨"EvenClockModel", "begin", "()V"⟩, 37) := ⟨⟨by decide +kernel, by decide +kernel⟩, List.mem_of_getElem? (i := 601) (by decide +kernel), List.mem_of_getElem? (i := 760) (by decide +kernel), List.mem_of_getElem? (i := 761) (by decide +kernel)⟩
theorem lw_p17 : lw_okq (⟨"EvenClockModel", "place", "(IIIII)V"⟩, 37) := ⟨⟨by decide +kernel, by decide +kernel⟩, List.mem_of_getElem? (i := 601) (by decide +kernel), List.mem_of_getElem? (i := 764) (by decide +kernel), List.mem_of_getElem? (i := 765) (by decide +kernel)⟩
theorem lw_p18 : lw_okq (⟨"EvenClockModel", "cutAll", "()V"⟩, 37) := ⟨⟨by decide +kernel, by decide +kernel⟩, List.mem_of_getElem? (i := 601) (by decide +kernel), List.mem_of_getElem? (i := 768) (by decide +kernel), List.mem_of_getElem? (i := 769) (by decide +kernel)⟩
theorem lw_p19 : lw_okq (⟨"EvenClockModel", "push", "(III)V"⟩, 37) := ⟨⟨by decide +kernel, by decide +kernel⟩, List.mem_of_getElem? (i := 601) (by decide +kernel), List.mem_of_getElem? (i := 772) (by decide +kernel), List.mem_of_getElem? (i := 773) (by decide +kernel)⟩
theorem lw_p20 : lw_okq (⟨"EvenClockModel", "sort", "(IIZ)V"⟩, 37) := ⟨⟨by decide +kernel, by decide +kernel⟩, List.mem_of_getElem? (i := 601) (by decide +kernel), List.mem_of_getElem? (i := 776) (by decide +kernel), List.mem_of_getElem? (i := 777) (by decide +kernel)⟩
theorem lw_p21 : lw_okq (⟨"EvenClockModel", "isBefore", "(IIZ)Z"⟩, 37) := ⟨⟨by decide +kernel, by decide +kernel⟩, List.mem_of_getElem? (i := 601) (by decide +kernel), List.mem_of_getElem? (i := 780) (by decide +kernel), List.mem_of_getElem? (i := 781) (by decide +kernel)⟩
theorem lw_p22 : lw_okq (⟨"EvenClockModel", "join", "(II)I"⟩, 37) := ⟨⟨by decide +kernel, by decide +kernel⟩, List.mem_of_getElem? (i := 601) (by decide +kernel), List.mem_of_getElem? (i := 784) (by decide +kernel), List.mem_of_getElem? (i := 785) (by decide +kernel)⟩
theorem lw_p23 : lw_okq (⟨"EvenClockModel", "distance", "(II)I"⟩, 37) := ⟨⟨by decide +kernel, by decide +kernel⟩, List.mem_of_getElem? (i := 601) (by decide +kernel), List.mem_of_getElem? (i := 788) (by decide +kernel), List.mem_of_getElem? (i := 789) (by decide +kernel)⟩
theorem lw_p24 : lw_okq (⟨"EvenClockModel", "joinNearest", "()V"⟩, 37) := ⟨⟨by decide +kernel, by decide +kernel⟩, List.mem_of_getElem? (i := 601) (by decide +kernel), List.mem_of_getElem? (i := 801) (by decide +kernel), List.mem_of_getElem? (i := 802) (by decide +kernel)⟩
theorem lw_p25 : lw_okq (⟨"EvenClockModel", "choose", "()V"⟩, 37) := ⟨⟨by decide +kernel, by decide +kernel⟩, List.mem_of_getElem? (i := 601) (by decide +kernel), List.mem_of_getElem? (i := 805) (by decide +kernel), List.mem_of_getElem? (i := 806) (by decide +kernel)⟩
theorem lw_p26 : lw_okq (⟨"EvenClockModel", "isNode", "(I)Z"⟩, 37) := ⟨⟨by decide +kernel, by decide +kernel⟩, List.mem_of_getElem? (i := 601) (by decide +kernel), List.mem_of_getElem? (i := 816) (by decide +kernel), List.mem_of_getElem? (i := 817) (by decide +kernel)⟩
theorem lw_p27 : lw_okq (⟨"EvenClockModel", "number", "()I"⟩, 37) := ⟨⟨by decide +kernel, by decide +kernel⟩, List.mem_of_getElem? (i := 601) (by decide +kernel), List.mem_of_getElem? (i := 836) (by decide +kernel), List.mem_of_getElem? (i := 837) (by decide +kernel)⟩
theorem lw_p28 : lw_okq (⟨"EvenClockModel", "weigh", "(I)V"⟩, 37) := ⟨⟨by decide +kernel, by decide +kernel⟩, List.mem_of_getElem? (i := 601) (by decide +kernel), List.mem_of_getElem? (i := 844) (by decide +kernel), List.mem_of_getElem? (i := 845) (by decide +kernel)⟩
theorem lw_p29 : lw_okq (⟨"EvenClockModel", "delayOf", "(II)J"⟩, 37) := ⟨⟨by decide +kernel, by decide +kernel⟩, List.mem_of_getElem? (i := 601) (by decide +kernel), List.mem_of_getElem? (i := 853) (by decide +kernel), List.mem_of_getElem? (i := 854) (by decide +kernel)⟩
theorem lw_p30 : lw_okq (⟨"EvenClockModel", "slackOf", "(I)J"⟩, 37) := ⟨⟨by decide +kernel, by decide +kernel⟩, List.mem_of_getElem? (i := 601) (by decide +kernel), List.mem_of_getElem? (i := 862) (by decide +kernel), List.mem_of_getElem? (i := 863) (by decide +kernel)⟩
theorem lw_p31 : lw_okq (⟨"EvenClockModel", "bestSetting", "()I"⟩, 37) := ⟨⟨by decide +kernel, by decide +kernel⟩, List.mem_of_getElem? (i := 601) (by decide +kernel), List.mem_of_getElem? (i := 871) (by decide +kernel), List.mem_of_getElem? (i := 872) (by decide +kernel)⟩
def lw_privs_2 : List (MethodName × Nat) := [(⟨"EvenClockModel", "begin", "()V"⟩, 37), (⟨"EvenClockModel", "place", "(IIIII)V"⟩, 37), (⟨"EvenClockModel", "cutAll", "()V"⟩, 37), (⟨"EvenClockModel", "push", "(III)V"⟩, 37), (⟨"EvenClockModel", "sort", "(IIZ)V"⟩, 37), (⟨"EvenClockModel", "isBefore", "(IIZ)Z"⟩, 37), (⟨"EvenClockModel", "join", "(II)I"⟩, 37), (⟨"EvenClockModel", "distance", "(II)I"⟩, 37), (⟨"EvenClockModel", "joinNearest", "()V"⟩, 37), (⟨"EvenClockModel", "choose", "()V"⟩, 37), (⟨"EvenClockModel", "isNode", "(I)Z"⟩, 37), (⟨"EvenClockModel", "number", "()I"⟩, 37), (⟨"EvenClockModel", "weigh", "(I)V"⟩, 37), (⟨"EvenClockModel", "delayOf", "(II)J"⟩, 37), (⟨"EvenClockModel", "slackOf", "(I)J"⟩, 37), (⟨"EvenClockModel", "bestSetting", "()I"⟩, 37)]
theorem lw_r2 : ∀ q ∈ lw_privs_2, lw_okq q := List.forall_mem_cons.mpr ⟨lw_p16, List.forall_mem_cons.mpr ⟨lw_p17, List.forall_mem_cons.mpr ⟨lw_p18, List.forall_mem_cons.mpr ⟨lw_p19, List.forall_mem_cons.mpr ⟨lw_p20, List.forall_mem_cons.mpr ⟨lw_p21, List.forall_mem_cons.mpr ⟨lw_p22, List.forall_mem_cons.mpr ⟨lw_p23, List.forall_mem_cons.mpr ⟨lw_p24, List.forall_mem_cons.mpr ⟨lw_p25, List.forall_mem_cons.mpr ⟨lw_p26, List.forall_mem_cons.mpr ⟨lw_p27, List.forall_mem_cons.mpr ⟨lw_p28, List.forall_mem_cons.mpr ⟨lw_p29, List.forall_mem_cons.mpr ⟨lw_p30, List.forall_mem_cons.mpr ⟨lw_p31, fun _ h => absurd h List.not_mem_nil⟩⟩⟩⟩⟩⟩⟩⟩⟩⟩⟩⟩⟩⟩⟩⟩
def lw_privs : List (MethodName × Nat) := lw_privs_1 ++ (lw_privs_2)
def lw_tbl : List Cond := k2_sels lw_privs ++ tables_1
theorem lw_privs_ok : ∀ q ∈ lw_privs, lw_okq q := by
  show ∀ q ∈ lw_privs_1 ++ (lw_privs_2), lw_okq q
  exact List.forall_mem_append.mpr ⟨lw_r1, lw_r2⟩
end
section
/-! The search for a handler, through rows that are passed: my own rows (the rounds are compiled without Shelf42, which NAMES.whole's vx_catch and vx_outP name). -/
def xc_Finds (e : Env) (s : State) (f : JFrame) (a : Addr) (h : Handler) (vm' : Vm) : Prop :=
  ∀ (Q : Handler → Pre) (E : CtlPost) (d : Bool) (acts : List Action), wp (findHandler f a) Q E e d acts s ↔ Q h d acts (s.setVm vm')
/-- a row that covers and links to a class: it takes the object, or the search goes on; the link is noted either way -/
theorem xc_row {Q : Handler → Pre} {E : CtlPost} {e : Env} {d : Bool} {acts : List Action} {s : State} {f : JFrame} {a : Addr} {x : ExceptionTableEntry} {t : List ExceptionTableEntry} {k : ClassId} {cell : Cell} (hx : covers x f.pc = true) (h0 : x.catchType ≠ 0)
    (hl : s.vm.ClassLinks e.platform f.method.cls x.catchType k) (hcell : s.heap[a]? = some cell) (hobj : ∀ z, cell.vm ≠ .statics z) (h1 : ∃ z, s.vm.classes[cell.cls]? = some z) (h2 : ∃ z, s.vm.classes[k]? = some z) :
    wp (findHandler.go f a (x :: t)) Q E e d acts s ↔ if s.vm.assignable cell.cls k = true then Q (.found x.handlerPc) d acts (s.setVm (s.vm.noted f.method.cls x.catchType (.cls k))) else wp (findHandler.go f a t) Q E e d acts (s.setVm (s.vm.noted f.method.cls x.catchType (.cls k))) := by
  simp only [covers] at hx
  obtain ⟨ha, ht⟩ := (resolveClass_links e.toSetting hl).op (op := VmOp.resolveClass f.method.cls x.catchType) rfl
  have hal : s.vm.Alike (s.vm.noted f.method.cls x.catchType (.cls k)) := (Vm.Alike.refl s.vm).noted _ _ _
  obtain ⟨z1, h1⟩ := h1
  obtain ⟨z2, h2⟩ := h2
  obtain ⟨z3, h3, -⟩ := hal.2.2 _ _ h1
  obtain ⟨z4, h4, -⟩ := hal.2.2 _ _ h2
  cases hfit : s.vm.assignable cell.cls k with
  | true =>
    have hfit' : (s.vm.noted f.method.cls x.catchType (.cls k)).assignable cell.cls k = true := by rw [hal.assignable]; exact hfit
    simp [findHandler.go, hx, h0, ha, ht, hcell, hobj, h3, h4, hfit', VmOp.dirties, VmOp.acts]
  | false =>
    have hfit' : (s.vm.noted f.method.cls x.catchType (.cls k)).assignable cell.cls k = false := by rw [hal.assignable]; exact hfit
    simp [findHandler.go, hx, h0, ha, ht, hcell, hobj, h3, h4, hfit', VmOp.dirties, VmOp.acts]
/-- a row is passed: it doesn't cover, or its class doesn't take the object -/
def xc_No (pl : Platform) (s : State) (k : ClassId) (pc : Nat) (o : ClassId) (y : ExceptionTableEntry) : Prop :=
  covers y pc = false ∨ (y.catchType ≠ 0 ∧ ∃ z, s.vm.ClassLinks pl k y.catchType z ∧ s.vm.assignable o z = false)
theorem xc_go {e : Env} {s : State} {f : JFrame} {a : Addr} {cell : Cell} (hobj : ∀ z, cell.vm ≠ .statics z) (hk : ∃ z, s.vm.classes[cell.cls]? = some z) (x : ExceptionTableEntry) (suf : List ExceptionTableEntry) (hx : covers x f.pc = true) (h0 : x.catchType ≠ 0) {k : ClassId}
    (hl : s.vm.ClassLinks e.platform f.method.cls x.catchType k) (hfit : s.vm.assignable cell.cls k = true) :
    ∀ (pre : List ExceptionTableEntry) (S : State), s.WarmedH S.vm → S.heap[a]? = some cell → (∀ y ∈ pre, xc_No e.platform s f.method.cls f.pc cell.cls y) →
      ∃ vm', s.WarmedH vm' ∧ ∀ (Q : Handler → Pre) (E : CtlPost) (d : Bool) (acts : List Action), wp (findHandler.go f a (pre ++ x :: suf)) Q E e d acts S ↔ Q (.found x.handlerPc) d acts (S.setVm vm') := by
  obtain ⟨z0, hk⟩ := hk
  intro pre
  induction pre with
  | nil =>
    intro S hW hcell _
    obtain ⟨z1, hz1, -⟩ := hW.alike.2.2 _ _ hk
    obtain ⟨dk, _, _, kt, hd, _, _, _, _, hkt, _, hopen⟩ := hl.here
    obtain ⟨z2, hz2, -⟩ := hW.alike.2.2 _ _ hkt
    exact ⟨_, hW.noted hd hopen (State.rightAt_cls hl), fun Q E d acts => by
      rw [List.nil_append, xc_row hx h0 (hW.classLinks hl) hcell hobj ⟨z1, hz1⟩ ⟨z2, hz2⟩, if_pos (by rw [hW.alike.assignable]; exact hfit)]⟩
  | cons y ys ih =>
    intro S hW hcell hno
    obtain ⟨z1, hz1, -⟩ := hW.alike.2.2 _ _ hk
    have hrest : ∀ z ∈ ys, xc_No e.platform s f.method.cls f.pc cell.cls z := fun z hz => hno z (List.mem_cons_of_mem _ hz)
    by_cases hcov : covers y f.pc = true
    · rcases hno y (List.mem_cons_self ..) with h | ⟨hy0, k2, hl2, hfit2⟩
      · rw [h] at hcov; cases hcov
      · obtain ⟨dk, _, _, kt, hd, _, _, _, _, hkt, _, hopen⟩ := hl2.here
        obtain ⟨z2, hz2, -⟩ := hW.alike.2.2 _ _ hkt
        obtain ⟨vm', hW', hq⟩ := ih (S.setVm (S.vm.noted f.method.cls y.catchType (.cls k2))) (hW.noted hd hopen (State.rightAt_cls hl2)) hcell hrest
        exact ⟨vm', hW', fun Q E d acts => by
          rw [List.cons_append, xc_row hcov hy0 (hW.classLinks hl2) hcell hobj ⟨z1, hz1⟩ ⟨z2, hz2⟩, if_neg (by rw [hW.alike.assignable, hfit2]; exact Bool.false_ne_true)]
          exact hq Q E d acts⟩
    · obtain ⟨vm', hW', hq⟩ := ih S hW hcell hrest
      exact ⟨vm', hW', fun Q E d acts => by
        rw [List.cons_append, Jvm.W.findHandler_go_skip (by simpa using hcov)]
        exact hq Q E d acts⟩
theorem xc_step {e : Env} {s : State} {a : Addr} {f : JFrame} {r : List Frame} {pc : Nat} {vm' : Vm} (hfind : xc_Finds e s f a (.found pc) vm') :
    (stepThrowing e s a (.java f :: r)).Is ((s.setVm vm').setFrames (.java { f with pc := pc, stack := [.ref a] } :: r)) [] := by
  simp only [stepThrowing, searchFrame, vmDo]
  generalize hr : Sem.go _ e false [] s = res
  obtain ⟨as, rfl, ha⟩ := Sem.eq_ok_of hr (a := Handler.found pc) (s' := s.setVm vm') (acts' := []) (by simp [hfind _ _ _ _])
  exact ⟨rfl, ha⟩
theorem xc_frames (u : State) (vm' : Vm) (F G : List Frame) : ((u.setFrames F).setVm vm').setFrames G = (u.setVm vm').setFrames G := by
  rw [show (u.setFrames F).setVm vm' = (u.setVm vm').setFrames F from rfl, State.setFrames_setFrames]
theorem xc_caught {p : Program} {l : Launch} {e : Env} {R : Room} {s : State} {m : MethodId} {args : Array Value} {below : List Frame} {meth : Method} {c : Code} {T : State} {locs : List Loc} {cells slots : Nat} (X : Stand p l e R s m args below meth c T locs cells slots) (a : Addr) {g : JFrame} (hg : g.method = m) {cell : Cell} (hcell : T.heap[a]? = some cell) (hobj : cell.vm.isStatics = false) (hk : ∃ z, s.vm.classes[cell.cls]? = some z)
    (pre : List ExceptionTableEntry) (x : ExceptionTableEntry) (suf : List ExceptionTableEntry) (hsplit : c.exceptionTable.toList = pre ++ x :: suf) (hno : ∀ y ∈ pre, xc_No e.platform s m.cls g.pc cell.cls y) (hx : covers x g.pc = true) (h0 : x.catchType ≠ 0) {k : ClassId}
    (hl : s.vm.ClassLinks e.platform m.cls x.catchType k) (hfit : s.vm.assignable cell.cls k = true) :
    ∃ vm', Stand p l e R s m args below meth c (T.setVm vm') locs cells slots ∧ Steps p.tables e below ((T.setTop g).pushFrame (.throwing a)) ((T.setVm vm').setTop { g with pc := x.handlerPc, stack := [.ref a] }) := by
  subst hg
  obtain ⟨vm', hW', hq⟩ := xc_go (e := e) (f := g) (a := a) (cell := cell) (fun z hz => by rw [hz] at hobj; cases hobj) hk x suf hx h0 hl hfit pre ((T.setTop g).pushFrame (.throwing a)) X.warmed hcell hno
  have hf : xc_Finds e ((T.setTop g).pushFrame (.throwing a)) g a (.found x.handlerPc) vm' := fun Q E d acts => by
    rw [Jvm.W.findHandler_eq (s := (T.setTop g).pushFrame (.throwing a)) (meth := meth) (code := c) X.method' X.code, hsplit]
    exact hq Q E d acts
  refine ⟨vm', X.noted hW', ?_⟩
  obtain ⟨hgo, hw⟩ := X.here.throwing a
  refine Steps.head hgo hw ?_
  rw [stepThread_throwing (frames_entered X.here.top _), (xc_step (s := (T.setTop g).pushFrame (.throwing a)) hf).1]
  obtain ⟨g₀, hg0⟩ := Option.isSome_iff_exists.mp X.here.top
  obtain ⟨r, hr⟩ := State.topJava?_eq_some.mp hg0
  have hr' : (T.setVm vm').frames = .java g₀ :: r := hr
  rw [State.setTop_of_frames _ hr', hr, List.tail_cons, State.pushFrame, xc_frames, State.setTop_of_frames _ hr, xc_frames]
  exact Steps.refl _
end
section
/-! ===== BEGIN words of one list among another's, by their places ===== -/
theorem goodIn_r {big : List Cond} (ws : List Cond) (ps : List Nat) (hp : ws = ps.filterMap (fun i => big[i]?)) (h : ws.all goodWord = true) : GoodIn big ws := by
  intro w hw
  have h1 := List.all_eq_true.mp h w hw
  rw [hp] at hw
  obtain ⟨i, -, hi⟩ := List.mem_filterMap.mp hw
  have hm : w ∈ big := by first | exact List.mem_of_getElem? hi | exact List.getElem?_mem hi
  exact ⟨hm, good_of_word h1⟩
theorem goodIn_app {big a b : List Cond} (ha : GoodIn big a) (hb : GoodIn big b) : GoodIn big (a ++ b) := fun w h => (List.mem_append.mp h).elim (ha w) (hb w)
theorem goodIn_ca {big a b : List Cond} {c : Cond} (ha : GoodIn big (c :: a)) (hb : GoodIn big b) : GoodIn big (c :: (a ++ b)) := fun w h => (List.mem_cons.mp h).elim (fun e => ha w (List.mem_cons.mpr (Or.inl e))) (fun h => (List.mem_append.mp h).elim (fun h => ha w (List.mem_cons.mpr (Or.inr h))) (hb w))
theorem goodIn_sub {big ws : List Cond} (hm : ∀ w ∈ ws, w ∈ big) (h : ws.all goodWord = true) : GoodIn big ws := fun w hw => ⟨hm w hw, good_of_word (List.all_eq_true.mp h w hw)⟩
/-! ===== END ===== -/

/-! ===== BEGIN exceptions that leave a method, and their catching by the caller (launches without stack traces) ===== -/
section VXA
/-! The laws vx_back, vx_callV, vx_callS, vx_callSW, vx_throw0, vx_throwS follow proofs of the library, with one case more: JvmDerived/Free/Laws.lean (Back.of_free), Shelf42/LK1.lean (callV, callS), Shelf/KitTraced.lean (throwNew0V, throwNewS). -/
/-- where a method has thrown q: the class by its name, the cell, what was written, the world -/
def vx_T (XC : String → State → State → Prop) (st : State) (q : Addr) (t : State) (mc ms : Nat) (free : Addr → Prop) : Prop :=
  ∃ (E : String) (ce : Cell) (L : List Loc), XC E st t ∧ t.heap[q]? = some ce ∧ ce.vm = .none ∧ st.vm.findClass E = some ce.cls ∧ st.WarmedH t.vm ∧ st.sameButNew ({ t with vm := st.vm } : State) L mc ms ∧ ∀ z ∈ L, free z.base
def vx_Q (Qc : Array Value → State → Outcome → State → Prop) (XC : String → State → State → Prop) (mc ms : Nat) (free : Addr → Prop) : Array Value → State → Outcome → State → Prop := fun a st o t =>
  (Qc a st o t ∧ ∃ L, FrameEnd st o t L mc ms ∧ ∀ q ∈ L, free q.base) ∨ ∃ q, o = .threw q ∧ vx_T XC st q t mc ms free
/-- a callee that returns or throws -/
def vx_Met (l : Launch) (y : MethodName) (ws : List Cond) (rm : Room) (Pc : Array Value → State → Prop) (Qc : Array Value → State → Outcome → State → Prop) (XC : String → State → State → Prop) (mc ms : Nat) (free : Addr → Prop) : Prop :=
  MetFree l y (headSpec ws rm) Pc (fun _ _ _ _ _ => True) (vx_Q Qc XC mc ms free)
def vx_Post (XC : String → State → State → Prop) (mc ms : Nat) (free : Addr → Prop) : Pt → Array Value → Addr → Pt → Prop := fun A a q B =>
  ∃ (g : JFrame) (mk : MethodId) (t : State) (L : List Loc) (E : String) (ce : Cell), B.U.heap = t.heap ∧ B.U.vm = t.vm ∧ XC E (A.U.calling g mk a) t ∧ t.heap[q]? = some ce ∧ ce.vm = .none ∧ A.U.vm.findClass E = some ce.cls ∧ B.locs = A.locs ++ L ∧ (∀ z ∈ L, free z.base) ∧ B.cells = A.cells + mc ∧ B.slots = A.slots + ms
def vx_Back (l : Launch) (R : Room) (p : Program) (e : Env) (below : List Frame) (s : State) (sargs : Array Value) (y : MethodName) (len W9 : Nat)
    (Pre : Pt → Array Value → Prop) (Post : Pt → Array Value → Option Value → Pt → Prop) (PostX : Pt → Array Value → Addr → Pt → Prop) : Prop :=
  ∀ (m : MethodId) (meth : Method) (c : Code) (A : Pt) (g : JFrame) (ig : Instr) (mk : MethodId) (a : Array Value),
    Stand p l e R s m sargs below meth c A.U A.locs A.cells A.slots → g.method = m → g.locals.size = c.maxLocals → decode c.code g.pc = .ok (ig, len) →
    2 * g.monitorRoom + (g.stack.map fun v => v.category).sum ≤ W9 → A.U.methodNamed? y = some mk → Pre A a →
    (∃ (v : Option Value) (B : Pt), Stand p l e R s m sargs below meth c B.U B.locs B.cells B.slots ∧ Post A a v B ∧
      Steps p.tables e below (doInvoke e (A.U.setTop g) [] mk a).1 (B.U.setTop { g with pc := g.pc + len, stack := v.toList ++ g.stack })) ∨
    (∃ (q : Addr) (B : Pt), Stand p l e R s m sargs below meth c B.U B.locs B.cells B.slots ∧ PostX A a q B ∧
      Steps p.tables e below (doInvoke e (A.U.setTop g) [] mk a).1 ((B.U.setTop g).pushFrame (.throwing q)))
section Payer
variable {l : Launch} {R : Room} {p : Program} {e : Env} {below : List Frame} {s : State} {sargs : Array Value} {y : MethodName} {len W9 : Nat}
theorem vx_back {ws : List Cond} {rm : Room} {Pc : Array Value → State → Prop} {Qc : Array Value → State → Outcome → State → Prop} {XC : String → State → State → Prop} {mc ms : Nat} {free : Addr → Prop} {bytes : ByteArray} {maxL : Nat} {ret : Option FieldType}
    (hM : vx_Met l y ws rm Pc Qc XC mc ms free) (hblind : FrameBlind Pc) (hrc : rm.cells = mc) (hrs : rm.slots = ms)
    (hframes : rm.frames + 1 ≤ R.frames) (hlocals : W9 + (maxL + 11) + rm.locals ≤ R.locals)
    (hws : ∀ w ∈ ws, ∀ a' U, s.WarmedH U.vm → w.before a' U = true) (hcode : Cond.code y bytes maxL ret ∈ ws) (hinit : ∀ a' U, s.WarmedH U.vm → (Cond.initialized y.cls).before a' U = true) :
    vx_Back l R p e below s sargs y len W9 (PreOf R mc ms Pc) (PostOf Qc mc ms free) (vx_Post XC mc ms free) := by
  intro m meth c A g ig mk a X hg hsize hdg hW hn hp
  have h1 : (headSpec ws rm).pre.before a A.U = true := atoms_intro fun w hw => hws w hw _ _ X.warmed
  have h2 : (Cond.code y bytes maxL ret).before a A.U = true := hws _ hcode _ _ X.warmed
  have h3 : (Cond.initialized y.cls).before a A.U = true := hinit _ _ X.warmed
  have h4 : A.cells + (headSpec ws rm).room.cells ≤ R.cells := by rw [show (headSpec ws rm).room.cells = mc from hrc]; exact hp.1
  have h5 : A.slots + (headSpec ws rm).room.slots ≤ R.slots := by rw [show (headSpec ws rm).room.slots = ms from hrs]; exact hp.2.1
  have hPc : Pc a (A.U.calling g mk a) := hblind _ _ _ _ hp.2.2
  obtain ⟨U, Ls, c0, s0⟩ := A
  dsimp only [Pt.U, Pt.locs, Pt.cells, Pt.slots] at h1 h2 h3 h4 h5 X hn hPc ⊢
  obtain ⟨methY, cY, hmY, hcY, -, hlY, -, -, -, -⟩ := Cond.code_spec hn h2
  obtain ⟨kY, hkY, -⟩ := className_of_methodNamed hn
  have hinitY : kY.init = .initialized := Cond.initialized_spec (findClass_of_methodNamed hn) hkY h3
  have h : At U g.method c below := by rw [hg]; exact X.here
  have hlocals9 : W9 + (maxL + 11) + (headSpec ws rm).room.locals ≤ R.locals := hlocals
  have happ : (headSpec ws rm).appliesLoose y e.platform (U.calling g mk a) = true :=
    Spec.appliesLoose_calling (g := g) h hdg hn hkY hinitY
      (X.room_calling (g := g) (R' := (headSpec ws rm).room) hsize hmY hcY hframes (by rw [hlY]; omega) h4 h5) h1
  obtain ⟨mid, hmid⟩ := h.above
  have hfr : (U.setTop g).frames = (.java g :: mid) ++ below := by rw [State.frames_setTop' g h.top, hmid]; rfl
  obtain ⟨o, s₂, hsteps, -, hend, hq⟩ := Steps.callFree hM p X.admits X.cas X.clock (acts := []) hfr happ hPc trivial
  have hq' : vx_Q Qc XC mc ms free a (U.calling g mk a) o s₂ := hq
  rw [State.frames_setTop' g h.top] at hend
  obtain ⟨g₀, hg0⟩ := Option.isSome_iff_exists.mp h.top
  obtain ⟨r, hr⟩ := State.topJava?_eq_some.mp hg0
  have hr' : (({ U with heap := s₂.heap, slotsUsed := s₂.slotsUsed } : State).setVm s₂.vm).frames = .java g₀ :: r := hr
  rcases hq' with ⟨hqc, L, hfe, hL⟩ | ⟨q, rfl, E, ce, L, hx, hce, hcv, hcl, hW₂, hsm, hL⟩
  · obtain ⟨⟨v, rfl⟩, hW₂, e2, q2, q3, q4, q5, q6⟩ := id hfe
    have e3 : s₂ = ({ (U.calling g mk a).setFrames s₂.frames with heap := s₂.heap, slotsUsed := s₂.slotsUsed } : State).setVm s₂.vm := by
      have : s₂ = ({ s₂ with vm := (U.calling g mk a).vm } : State).setVm s₂.vm := rfl
      rw [e2] at this
      exact this
    obtain ⟨c₂, i₂, len₂, hc₂, hd₂, hf₂⟩ := hend
    have hW' : U.WarmedH s₂.vm := hW₂
    have hcc : c₂ = c := by
      have h1 : s₂.code? g.method = U.code? g.method := by
        rw [State.code?_eq, State.code?_eq, hW'.alike.method?]
      exact Option.some.inj (hc₂.symm.trans (h1.trans h.code))
    subst hcc
    have hlen : len₂ = len := by rw [hdg] at hd₂; cases hd₂; rfl
    subst hlen
    have hs₂ : s₂ = (({ U with heap := s₂.heap, slotsUsed := s₂.slotsUsed } : State).setVm s₂.vm).setTop { g with pc := g.pc + len₂, stack := v.toList ++ g.stack } := by
      refine e3.trans ?_
      rw [hf₂, State.calling_eq h.top, State.setFrames_setFrames, State.setTop_of_frames _ hr', hr]
      rfl
    have hsame : U.sameButNew ({ U with heap := s₂.heap, slotsUsed := s₂.slotsUsed } : State) L mc ms := by
      refine ⟨?_, q2, q3, q4, q5, q6⟩
      obtain ⟨t, ht, -⟩ := State.frames_cons hr
      show ({ U with heap := s₂.heap, slotsUsed := s₂.slotsUsed } : State) = { U.setFrames U.frames with heap := s₂.heap, slotsUsed := s₂.slotsUsed }
      rw [State.setFrames_self ht]
    subst hg
    refine Or.inl ⟨v, ⟨(({ U with heap := s₂.heap, slotsUsed := s₂.slotsUsed } : State).setVm s₂.vm), Ls ++ L, c0 + mc, s0 + ms⟩,
      ⟨X.admits, X.cas, X.clock, X.frames, X.room, X.hears, X.method, X.code, (X.here.setHeapUsed s₂.heap s₂.slotsUsed).setVm hW'.alike, X.tail, State.WarmedH.trans X.warmed hW', X.limits, X.bytes, X.same.trans (hsame.setVm s.vm)⟩,
      ⟨g, mk, s₂, L, rfl, rfl, hqc, rfl, hL, rfl, rfl⟩, ?_⟩
    show Steps p.tables e below _ ((({ U with heap := s₂.heap, slotsUsed := s₂.slotsUsed } : State).setVm s₂.vm).setTop { g with pc := g.pc + len₂, stack := v.toList ++ g.stack })
    rw [← hs₂]
    exact hsteps
  · obtain ⟨e2, q2, q3, q4, q5, q6⟩ := id hsm
    have e3 : s₂ = ({ (U.calling g mk a).setFrames s₂.frames with heap := s₂.heap, slotsUsed := s₂.slotsUsed } : State).setVm s₂.vm := by
      have : s₂ = ({ s₂ with vm := (U.calling g mk a).vm } : State).setVm s₂.vm := rfl
      rw [e2] at this
      exact this
    have hf₂ : s₂.frames = .throwing q :: .java g :: U.frames.tail := hend
    have hW' : U.WarmedH s₂.vm := hW₂
    have hs₂ : s₂ = ((({ U with heap := s₂.heap, slotsUsed := s₂.slotsUsed } : State).setVm s₂.vm).setTop g).pushFrame (.throwing q) := by
      refine e3.trans ?_
      rw [hf₂, State.calling_eq h.top, State.setFrames_setFrames, State.pushFrame, State.frames_setTop _ hr', State.setTop_of_frames _ hr', State.setFrames_setFrames, hr]
      rfl
    have hsame : U.sameButNew ({ U with heap := s₂.heap, slotsUsed := s₂.slotsUsed } : State) L mc ms := by
      refine ⟨?_, q2, q3, q4, q5, q6⟩
      obtain ⟨t, ht, -⟩ := State.frames_cons hr
      show ({ U with heap := s₂.heap, slotsUsed := s₂.slotsUsed } : State) = { U.setFrames U.frames with heap := s₂.heap, slotsUsed := s₂.slotsUsed }
      rw [State.setFrames_self ht]
    subst hg
    refine Or.inr ⟨q, ⟨(({ U with heap := s₂.heap, slotsUsed := s₂.slotsUsed } : State).setVm s₂.vm), Ls ++ L, c0 + mc, s0 + ms⟩,
      ⟨X.admits, X.cas, X.clock, X.frames, X.room, X.hears, X.method, X.code, (X.here.setHeapUsed s₂.heap s₂.slotsUsed).setVm hW'.alike, X.tail, State.WarmedH.trans X.warmed hW', X.limits, X.bytes, X.same.trans (hsame.setVm s.vm)⟩,
      ⟨g, mk, s₂, L, E, ce, rfl, rfl, hx, hce, hcv, hcl, rfl, hL, rfl, rfl⟩, ?_⟩
    show Steps p.tables e below _ (((({ U with heap := s₂.heap, slotsUsed := s₂.slotsUsed } : State).setVm s₂.vm).setTop g).pushFrame (.throwing q))
    rw [← hs₂]
    exact hsteps
end Payer
section Calls
variable {p : Program} {l : Launch} {e : Env} {R : Room} {s : State} {m : MethodId} {args : Array Value} {below : List Frame} {meth : Method} {c : Code} {T : State} {locs : List Loc} {cells slots : Nat}
theorem vx_callV (X : Stand p l e R s m args below meth c T locs cells slots) (hexec : p.tables.exec = Jvm.exec) {own C : String} {index : Nat} {y : MethodName} {bytes : ByteArray} {maxL : Nat} {ret : Option FieldType}
    (hown : s.vm.findClass own = some m.cls) (hlink : (Cond.methodLink own index y).before args s = true) (hinst : (Cond.instanceMethod y).before args s = true) (hsel : (Cond.selects C y y).before args s = true)
    (hcode : (Cond.code y bytes maxL ret).before args s = true) (hy : y.cls ≠ "java/lang/invoke/MethodHandle" ∧ y.cls ≠ "java/lang/invoke/VarHandle")
    {W9 : Nat} {Pre : Pt → Array Value → Prop} {Post : Pt → Array Value → Option Value → Pt → Prop} {PostX : Pt → Array Value → Addr → Pt → Prop} (hK : vx_Back l R p e below s args y 3 W9 Pre Post PostX)
    {b : Addr} {cellB : Cell} (hcell : T.heap[b]? = some cellB) (hobj : cellB.vm.isStatics = false) (hcls : s.vm.findClass C = some cellB.cls)
    {g : JFrame} (hg : g.method = m) (hsize : g.locals.size = c.maxLocals) {argsL rest : List Value} (hlen : ∀ sig, parseMethodDescriptor y.desc = some sig → argsL.length = sig.parameters.length)
    (hstack : g.stack = argsL.reverse ++ .ref b :: rest) (hW : 2 * g.monitorRoom + (rest.map fun v => v.category).sum ≤ W9) (hdg : decode c.code g.pc = .ok (.invokevirtual index, 3))
    (hpre : ∀ vm₁, s.WarmedH vm₁ → Pre ⟨T.setVm vm₁, locs, cells, slots⟩ (Value.ref b :: argsL).toArray) :
    (∃ (v : Option Value) (vm₁ : Vm) (B : Pt), s.WarmedH vm₁ ∧ Stand p l e R s m args below meth c B.U B.locs B.cells B.slots ∧ Post ⟨T.setVm vm₁, locs, cells, slots⟩ (Value.ref b :: argsL).toArray v B ∧
      ∀ target, Steps p.tables e below (B.U.setTop { g with pc := g.pc + 3, stack := v.toList ++ rest }) target → Steps p.tables e below (T.setTop g) target) ∨
    (∃ (q : Addr) (vm₁ : Vm) (B : Pt), s.WarmedH vm₁ ∧ Stand p l e R s m args below meth c B.U B.locs B.cells B.slots ∧ PostX ⟨T.setVm vm₁, locs, cells, slots⟩ (Value.ref b :: argsL).toArray q B ∧
      Steps p.tables e below (T.setTop g) ((B.U.setTop { g with stack := rest }).pushFrame (.throwing q))) := by
  obtain ⟨mk, methM, hnamed, hmethM, hstM, habM⟩ := Cond.instanceMethod_spec hinst
  obtain ⟨methM', cM, hmethM', -, -, -, -, -, -, hsigM⟩ := Cond.code_spec hnamed hcode
  cases hmethM.symm.trans hmethM'
  obtain ⟨c2, r2, m2, q1, q2, q3, q4, kP, hkP, hkPi⟩ := Cond.selects_spec hsel
  cases hcls.symm.trans q1
  cases (State.methodFound?_of_named hnamed hy).symm.trans q2
  cases hnamed.symm.trans q3
  have hselP : selectMethod e.platform s.vm cellB.cls mk = .method mk := by rw [Launch.admits_selectMethod X.admits]; exact q4
  obtain ⟨vm₁, X₁, hstep₁⟩ := X.invokevirtual hexec hown hlink hnamed hmethM hstM hkP hkPi hy (a := b) (cell := cellB) hcell
    (fun z h => by rw [h] at hobj; cases hobj) hselP hmethM habM hkP hkPi (g := g) hg (argsL := argsL) (rest := rest) (hlen _ hsigM) hstack hdg
  rcases hK m meth c ⟨T.setVm vm₁, locs, cells, slots⟩ { g with stack := rest } (.invokevirtual index) mk (Value.ref b :: argsL).toArray X₁ hg hsize hdg hW (X₁.named hnamed) (hpre vm₁ X₁.warmed) with ⟨v, B, X', hpost, hsteps⟩ | ⟨q, B, X', hpost, hsteps⟩
  · exact Or.inl ⟨v, vm₁, B, X₁.warmed, X', hpost, fun target h => hstep₁ _ fun acts => by rw [doInvoke_state]; exact hsteps.trans h⟩
  · exact Or.inr ⟨q, vm₁, B, X₁.warmed, X', hpost, hstep₁ _ fun acts => by rw [doInvoke_state]; exact hsteps⟩
theorem vx_callS (X : Stand p l e R s m args below meth c T locs cells slots) (hexec : p.tables.exec = Jvm.exec) {own : String} {index : Nat} {y : MethodName} {bytes : ByteArray} {maxL : Nat} {ret : Option FieldType}
    (hown : s.vm.findClass own = some m.cls) (hlink : (Cond.methodLink own index y).before args s = true) (hstat : (Cond.static y).before args s = true) (hinit : (Cond.initialized y.cls).before args s = true)
    (hcode : (Cond.code y bytes maxL ret).before args s = true) (hy : y.cls ≠ "java/lang/invoke/MethodHandle" ∧ y.cls ≠ "java/lang/invoke/VarHandle")
    {W9 : Nat} {Pre : Pt → Array Value → Prop} {Post : Pt → Array Value → Option Value → Pt → Prop} {PostX : Pt → Array Value → Addr → Pt → Prop} (hK : vx_Back l R p e below s args y 3 W9 Pre Post PostX)
    {g : JFrame} (hg : g.method = m) (hsize : g.locals.size = c.maxLocals) {argsL rest : List Value} (hlen : ∀ sig, parseMethodDescriptor y.desc = some sig → argsL.length = sig.parameters.length)
    (hstack : g.stack = argsL.reverse ++ rest) (hW : 2 * g.monitorRoom + (rest.map fun v => v.category).sum ≤ W9) (hdg : decode c.code g.pc = .ok (.invokestatic index, 3))
    (hpre : ∀ vm₁, s.WarmedH vm₁ → Pre ⟨T.setVm vm₁, locs, cells, slots⟩ argsL.toArray) :
    (∃ (v : Option Value) (vm₁ : Vm) (B : Pt), s.WarmedH vm₁ ∧ Stand p l e R s m args below meth c B.U B.locs B.cells B.slots ∧ Post ⟨T.setVm vm₁, locs, cells, slots⟩ argsL.toArray v B ∧
      ∀ target, Steps p.tables e below (B.U.setTop { g with pc := g.pc + 3, stack := v.toList ++ rest }) target → Steps p.tables e below (T.setTop g) target) ∨
    (∃ (q : Addr) (vm₁ : Vm) (B : Pt), s.WarmedH vm₁ ∧ Stand p l e R s m args below meth c B.U B.locs B.cells B.slots ∧ PostX ⟨T.setVm vm₁, locs, cells, slots⟩ argsL.toArray q B ∧
      Steps p.tables e below (T.setTop g) ((B.U.setTop { g with stack := rest }).pushFrame (.throwing q))) := by
  obtain ⟨mk, hnamed⟩ := Cond.code_named hcode
  obtain ⟨methM, cM, hmethM, -, -, -, -, -, -, hsigM⟩ := Cond.code_spec hnamed hcode
  have hstatic : methM.isStatic = true := Cond.static_spec hnamed hmethM hstat
  obtain ⟨kP, hkP, -⟩ := className_of_methodNamed hnamed
  have hinitP : kP.init = .initialized := Cond.initialized_spec (findClass_of_methodNamed hnamed) hkP hinit
  obtain ⟨vm₁, X₁, hstep₁⟩ := X.invokestatic hexec hown hlink hnamed hmethM hstatic hkP hinitP hy (g := g) hg (argsL := argsL) (rest := rest) (hlen _ hsigM) hstack hdg
  rcases hK m meth c ⟨T.setVm vm₁, locs, cells, slots⟩ { g with stack := rest } (.invokestatic index) mk argsL.toArray X₁ hg hsize hdg hW (X₁.named hnamed) (hpre vm₁ X₁.warmed) with ⟨v, B, X', hpost, hsteps⟩ | ⟨q, B, X', hpost, hsteps⟩
  · exact Or.inl ⟨v, vm₁, B, X₁.warmed, X', hpost, fun target h => hstep₁ _ fun acts => by rw [doInvoke_state]; exact hsteps.trans h⟩
  · exact Or.inr ⟨q, vm₁, B, X₁.warmed, X', hpost, hstep₁ _ fun acts => by rw [doInvoke_state]; exact hsteps⟩
end Calls
theorem vx_cls {s : State} {T : State} {vm₁ : Vm} {E : String} {k : ClassId} (hW : s.WarmedH vm₁) (h : (T.setVm vm₁).vm.findClass E = some k) : s.vm.findClass E = some k := by
  have h1 : vm₁.findClass E = some k := h
  rw [hW.alike.findClass] at h1
  exact h1
/-- the method's frame g, with q thrown over it -/
def vx_W (p : Program) (l : Launch) (e : Env) (R : Room) (s : State) (m : MethodId) (args : Array Value) (below : List Frame) (meth : Method) (c : Code) (H : Heap) (locs : List Loc) (cells slots : Nat) (Q : State → Prop) (g : JFrame) (q : Addr) : Prop :=
  ∀ T : State, T.heap = H → Stand p l e R s m args below meth c T locs cells slots → ∃ t, Steps p.tables e below ((T.setTop g).pushFrame (.throwing q)) t ∧ Q t
def vx_Run (p : Program) (l : Launch) (e : Env) (R : Room) (s : State) (m : MethodId) (args : Array Value) (below : List Frame) (meth : Method) (c : Code) (H : Heap) (locs : List Loc) (cells slots mc ms : Nat) (g : JFrame) (rest : List Value) (Qa : State → Outcome → State → Prop) (XC : String → State → State → Prop) (free : Addr → Prop) : Prop :=
  ∀ T : State, T.heap = H → Stand p l e R s m args below meth c T locs cells slots →
    (∃ (v : Option Value) (st₀ t T' : State) (L : List Loc), st₀.heap = H ∧ Stand p l e R s m args below meth c T' (locs ++ L) (cells + mc) (slots + ms) ∧ (∀ q ∈ L, free q.base) ∧ T'.heap = t.heap ∧ T'.vm = t.vm ∧ Qa st₀ (.returned v) t ∧
      Goes p e below T g T' { g with pc := g.pc + 3, stack := v.toList ++ rest }) ∨
    (∃ (q : Addr) (st₀ t T' : State) (L : List Loc) (E : String) (ce : Cell), st₀.heap = H ∧ Stand p l e R s m args below meth c T' (locs ++ L) (cells + mc) (slots + ms) ∧ (∀ z ∈ L, free z.base) ∧ T'.heap = t.heap ∧ T'.vm = t.vm ∧ XC E st₀ t ∧ t.heap[q]? = some ce ∧ ce.vm = .none ∧ s.vm.findClass E = some ce.cls ∧
      Steps p.tables e below (T.setTop g) ((T'.setTop { g with stack := rest }).pushFrame (.throwing q)))
def vx_X {S : Type} (px : S → Prop) (B : String → S → State → Prop) (A : Nat → Prop) : String → State → State → Prop := fun E st t => ∃ u : S, px u ∧ B E u t ∧ va_F A st t
section Runs
variable {p : Program} {l : Launch} {e : Env} {R : Room} {s : State} {m : MethodId} {args : Array Value} {below : List Frame} {meth : Method} {c : Code} {H : Heap} {locs : List Loc} {cells slots : Nat}
variable {y : MethodName} {bytes cc : ByteArray} {maxL nL mc ms n index : Nat} {ret : Option FieldType} {ws : List Cond} {rm : Room} {Pc : Array Value → State → Prop} {Qc : Array Value → State → Outcome → State → Prop} {XC : String → State → State → Prop} {free : Addr → Prop} {Ts : List Cond} {own C : String} {b : Addr} {As rest : List Value} {g : JFrame}
theorem vx_callBack (cb : CallB R s args own index y bytes maxL ret ws rm mc ms n) (hM : vx_Met l y ws rm Pc Qc XC mc ms free) (hbl : FrameBlind Pc) : vx_Back l R p e below s args y 3 8 (PreOf R mc ms Pc) (PostOf Qc mc ms free) (vx_Post XC mc ms free) := by
  obtain ⟨hrc, hrs, hfr, hlo, hws, hcw, -, hini, -⟩ := cb
  exact vx_back (bytes := bytes) (maxL := maxL) (ret := ret) hM hbl hrc hrs hfr hlo hws hcw (fun a' U hW => word_at hW (Or.inl (by first | rfl | simp [Cond.onTables, Cond.keeps, Cond.steady])) hini)
theorem vx_runV (S : CallFix p m c cc nL s args Ts own) (hM : vx_Met l y ws rm Pc Qc XC mc ms free) (cw : CallW R s args own C index y bytes maxL ret ws rm mc ms n) (hp : PreV s H C b Pc As)
    (hg : g.method = m) (hn : As.length = n) (hsize : g.locals.size = nL) (hstack : g.stack = As.reverse ++ .ref b :: rest) (hW : 2 * g.monitorRoom + (rest.map fun v => v.category).sum ≤ 8) (hdg : decode cc g.pc = .ok (.invokevirtual index, 3)) (hf : cells + mc ≤ R.cells ∧ slots + ms ≤ R.slots) :
    vx_Run p l e R s m args below meth c H locs cells slots mc ms g rest (Qc (Value.ref b :: As).toArray) XC free := by
  have hK : vx_Back l R p e below s args y 3 8 (PreOf R mc ms Pc) (PostOf Qc mc ms free) (vx_Post XC mc ms free) := vx_callBack cw.1 hM hp.1
  obtain ⟨⟨-, -, -, -, -, -, hcode, -, hy, hlen, hl⟩, hin, hse⟩ := cw
  obtain ⟨hx, hb, hml, ho, -⟩ := S
  obtain ⟨-, ⟨cellB, hcB, hoB, hclB⟩, hPc⟩ := hp
  intro T hT X
  rcases vx_callV X hx (C := C) (bytes := bytes) (maxL := maxL) (ret := ret) ho hl hin hse hcode hy hK (by rw [hT]; exact hcB) hoB hclB hg (hsize.trans hml.symm) (argsL := As) (rest := rest) (fun sig h => hn.trans (hlen sig h)) hstack hW (by rw [hb]; exact hdg)
    (fun vm₁ hW₁ => ⟨hf.1, hf.2, hPc (T.setVm vm₁) hT hW₁⟩) with ⟨v, vm₁, ⟨U', l2, c2, s2⟩, hW₁, X', ⟨g', mk, t, L, e1, e2, hq, h1, hL, h2, h3⟩, st⟩ | ⟨q, vm₁, ⟨U', l2, c2, s2⟩, hW₁, X', ⟨g', mk, t, L, E, ce, e1, e2, hq, hce, hcv, hcl, h1, hL, h2, h3⟩, st⟩
  · dsimp only [Pt.U, Pt.locs, Pt.cells, Pt.slots] at X' e1 e2 h1 h2 h3 st
    subst h1; subst h2; subst h3
    exact Or.inl ⟨v, (T.setVm vm₁).calling g' mk (Value.ref b :: As).toArray, t, U', L, hT, X', hL, e1, e2, hq, st⟩
  · dsimp only [Pt.U, Pt.locs, Pt.cells, Pt.slots] at X' e1 e2 h1 h2 h3 st hcl
    subst h1; subst h2; subst h3
    exact Or.inr ⟨q, (T.setVm vm₁).calling g' mk (Value.ref b :: As).toArray, t, U', L, E, ce, hT, X', hL, e1, e2, hq, hce, hcv, vx_cls hW₁ hcl, st⟩
theorem vx_runS (S : CallFix p m c cc nL s args Ts own) (hM : vx_Met l y ws rm Pc Qc XC mc ms free) (cw : CallB R s args own index y bytes maxL ret ws rm mc ms n ∧ (Cond.static y).before args s = true) (hp : PreS s H Pc As)
    (hg : g.method = m) (hn : As.length = n) (hsize : g.locals.size = nL) (hstack : g.stack = As.reverse ++ rest) (hW : 2 * g.monitorRoom + (rest.map fun v => v.category).sum ≤ 8) (hdg : decode cc g.pc = .ok (.invokestatic index, 3)) (hf : cells + mc ≤ R.cells ∧ slots + ms ≤ R.slots) :
    vx_Run p l e R s m args below meth c H locs cells slots mc ms g rest (Qc As.toArray) XC free := by
  have hK : vx_Back l R p e below s args y 3 8 (PreOf R mc ms Pc) (PostOf Qc mc ms free) (vx_Post XC mc ms free) := vx_callBack cw.1 hM hp.1
  obtain ⟨⟨-, -, -, -, -, -, hcode, hini, hy, hlen, hl⟩, hstt⟩ := cw
  obtain ⟨hx, hb, hml, ho, -⟩ := S
  intro T hT X
  rcases vx_callS X hx (bytes := bytes) (maxL := maxL) (ret := ret) ho hl hstt hini hcode hy hK hg (hsize.trans hml.symm) (argsL := As) (rest := rest) (fun sig h => hn.trans (hlen sig h)) hstack hW (by rw [hb]; exact hdg)
    (fun vm₁ hW₁ => ⟨hf.1, hf.2, hp.2 (T.setVm vm₁) hT hW₁⟩) with ⟨v, vm₁, ⟨U', l2, c2, s2⟩, hW₁, X', ⟨g', mk, t, L, e1, e2, hq, h1, hL, h2, h3⟩, st⟩ | ⟨q, vm₁, ⟨U', l2, c2, s2⟩, hW₁, X', ⟨g', mk, t, L, E, ce, e1, e2, hq, hce, hcv, hcl, h1, hL, h2, h3⟩, st⟩
  · dsimp only [Pt.U, Pt.locs, Pt.cells, Pt.slots] at X' e1 e2 h1 h2 h3 st
    subst h1; subst h2; subst h3
    exact Or.inl ⟨v, (T.setVm vm₁).calling g' mk As.toArray, t, U', L, hT, X', hL, e1, e2, hq, st⟩
  · dsimp only [Pt.U, Pt.locs, Pt.cells, Pt.slots] at X' e1 e2 h1 h2 h3 st hcl
    subst h1; subst h2; subst h3
    exact Or.inr ⟨q, (T.setVm vm₁).calling g' mk As.toArray, t, U', L, E, ce, hT, X', hL, e1, e2, hq, hce, hcv, vx_cls hW₁ hcl, st⟩
end Runs
section Rows
variable {p : Program} {l : Launch} {e : Env} {R : Room} {s : State} {m : MethodId} {args : Array Value} {below : List Frame} {meth : Method} {c : Code} {H : Heap} {locs : List Loc} {cells slots : Nat} {Q : State → Prop}
variable {mc ms : Nat} {free : Addr → Prop} {A0 A1 : Nat → Prop} {H0 : Heap} {a : Array Value} {pc : Nat} {ls : Array Slot} {st0 rest : List Value}
theorem vx_keep {st₀ t T' : State} {L : List Loc} (h0 : st₀.heap = H) (e1 : T'.heap = t.heap) (hS : va_S A0 H0 H locs) (hA : ∀ q, q < H.size → A1 q → A0 q) (hf : ∀ q, free q → A0 q) (hL : ∀ q ∈ L, free q.base) (hF : va_F A1 st₀ t) :
    H.size ≤ T'.heap.size ∧ (∀ q : Nat, q < H.size → ¬ A1 q → T'.heap[q]? = H[q]?) ∧ va_S A0 H0 T'.heap (locs ++ L) := by
  obtain ⟨hz, hk⟩ := hF
  rw [h0] at hz hk
  exact ⟨by rw [e1]; exact hz, fun q h1 h2 => by rw [e1]; exact hk q h1 h2,
    ⟨Nat.le_trans hS.1 (by rw [e1]; exact hz), fun q h1 h2 => by rw [e1, hk q (Nat.lt_of_lt_of_le h1 hS.1) (fun z => h2 (hA q (Nat.lt_of_lt_of_le h1 hS.1) z))]; exact hS.2.1 q h1 h2, fun q hq => by
      rcases List.mem_append.mp hq with h | h
      · exact hS.2.2 q h
      · exact hf _ (hL q h)⟩⟩
theorem vx_calli {S SX : Type} {post : Int32 → S → Prop} {px : SX → Prop} {B : S → State → Prop} {BX : String → SX → State → Prop} {AX : Nat → Prop} (hr : vx_Run p l e R s m args below meth c H locs cells slots mc ms (F0 m pc ls st0) rest (va_Qi post B A1 a) (vx_X px BX AX) free) (hS : va_S A0 H0 H locs) (hA : ∀ q, q < H.size → A1 q → A0 q) (hf : ∀ q, free q → A0 q) (hAX : ∀ q, q < H.size → AX q → A0 q)
    (kx : ∀ (E : String) (ce : Cell) (q9 : Addr) (u : SX) (t : State) (H1 : Heap) (locs1 : List Loc), t.heap = H1 → s.vm.Alike t.vm → px u → BX E u t → H.size ≤ H1.size → (∀ q : Nat, q < H.size → ¬ AX q → H1[q]? = H[q]?) → va_S A0 H0 H1 locs1 → H1[q9]? = some ce → ce.vm = .none → s.vm.findClass E = some ce.cls → vx_W p l e R s m args below meth c H1 locs1 (cells + mc) (slots + ms) Q (F0 m pc ls rest) q9)
    (kk : ∀ (r : Int32) (u : S) (t : State) (H1 : Heap) (locs1 : List Loc), t.heap = H1 → s.vm.Alike t.vm → post r u → B u t → H.size ≤ H1.size → (∀ q : Nat, q < H.size → ¬ A1 q → H1[q]? = H[q]?) → va_S A0 H0 H1 locs1 → W p l e R s m args below meth c H1 locs1 (cells + mc) (slots + ms) Q (F0 m (pc + 3) ls (.int r :: rest))) : W p l e R s m args below meth c H locs cells slots Q (F0 m pc ls st0) := by
  intro T hT X
  rcases hr T hT X with ⟨v, st₀, t, T', L, h0, X', hL, e1, e2, ⟨⟨r, u, hv, hp, hb⟩, hF⟩, st⟩ | ⟨q, st₀, t, T', L, E, ce, h0, X', hL, e1, e2, ⟨u, hp, hb, hF⟩, hce, hcv, hcl, st⟩
  · cases hv
    obtain ⟨k1, k2, k3⟩ := vx_keep h0 e1 hS hA hf hL hF
    obtain ⟨t2, a1, b1⟩ := kk r u t T'.heap (locs ++ L) e1.symm (by rw [← e2]; exact X'.warmed.alike) hp hb k1 k2 k3 T' rfl X'
    exact ⟨t2, st t2 a1, b1⟩
  · obtain ⟨k1, k2, k3⟩ := vx_keep h0 e1 hS hAX hf hL hF
    obtain ⟨t2, a1, b1⟩ := kx E ce q u t T'.heap (locs ++ L) e1.symm (by rw [← e2]; exact X'.warmed.alike) hp hb k1 k2 k3 (by rw [e1]; exact hce) hcv hcl T' rfl X'
    exact ⟨t2, st.trans a1, b1⟩
theorem vx_calll {S SX : Type} {post : Int64 → S → Prop} {px : SX → Prop} {B : S → State → Prop} {BX : String → SX → State → Prop} {AX : Nat → Prop} (hr : vx_Run p l e R s m args below meth c H locs cells slots mc ms (F0 m pc ls st0) rest (va_Ql post B A1 a) (vx_X px BX AX) free) (hS : va_S A0 H0 H locs) (hA : ∀ q, q < H.size → A1 q → A0 q) (hf : ∀ q, free q → A0 q) (hAX : ∀ q, q < H.size → AX q → A0 q)
    (kx : ∀ (E : String) (ce : Cell) (q9 : Addr) (u : SX) (t : State) (H1 : Heap) (locs1 : List Loc), t.heap = H1 → s.vm.Alike t.vm → px u → BX E u t → H.size ≤ H1.size → (∀ q : Nat, q < H.size → ¬ AX q → H1[q]? = H[q]?) → va_S A0 H0 H1 locs1 → H1[q9]? = some ce → ce.vm = .none → s.vm.findClass E = some ce.cls → vx_W p l e R s m args below meth c H1 locs1 (cells + mc) (slots + ms) Q (F0 m pc ls rest) q9)
    (kk : ∀ (r : Int64) (u : S) (t : State) (H1 : Heap) (locs1 : List Loc), t.heap = H1 → s.vm.Alike t.vm → post r u → B u t → H.size ≤ H1.size → (∀ q : Nat, q < H.size → ¬ A1 q → H1[q]? = H[q]?) → va_S A0 H0 H1 locs1 → W p l e R s m args below meth c H1 locs1 (cells + mc) (slots + ms) Q (F0 m (pc + 3) ls (.long r :: rest))) : W p l e R s m args below meth c H locs cells slots Q (F0 m pc ls st0) := by
  intro T hT X
  rcases hr T hT X with ⟨v, st₀, t, T', L, h0, X', hL, e1, e2, ⟨⟨r, u, hv, hp, hb⟩, hF⟩, st⟩ | ⟨q, st₀, t, T', L, E, ce, h0, X', hL, e1, e2, ⟨u, hp, hb, hF⟩, hce, hcv, hcl, st⟩
  · cases hv
    obtain ⟨k1, k2, k3⟩ := vx_keep h0 e1 hS hA hf hL hF
    obtain ⟨t2, a1, b1⟩ := kk r u t T'.heap (locs ++ L) e1.symm (by rw [← e2]; exact X'.warmed.alike) hp hb k1 k2 k3 T' rfl X'
    exact ⟨t2, st t2 a1, b1⟩
  · obtain ⟨k1, k2, k3⟩ := vx_keep h0 e1 hS hAX hf hL hF
    obtain ⟨t2, a1, b1⟩ := kx E ce q u t T'.heap (locs ++ L) e1.symm (by rw [← e2]; exact X'.warmed.alike) hp hb k1 k2 k3 (by rw [e1]; exact hce) hcv hcl T' rfl X'
    exact ⟨t2, st.trans a1, b1⟩
theorem vx_callf {S SX : Type} {post : UInt32 → S → Prop} {px : SX → Prop} {B : S → State → Prop} {BX : String → SX → State → Prop} {AX : Nat → Prop} (hr : vx_Run p l e R s m args below meth c H locs cells slots mc ms (F0 m pc ls st0) rest (va_Qf post B A1 a) (vx_X px BX AX) free) (hS : va_S A0 H0 H locs) (hA : ∀ q, q < H.size → A1 q → A0 q) (hf : ∀ q, free q → A0 q) (hAX : ∀ q, q < H.size → AX q → A0 q)
    (kx : ∀ (E : String) (ce : Cell) (q9 : Addr) (u : SX) (t : State) (H1 : Heap) (locs1 : List Loc), t.heap = H1 → s.vm.Alike t.vm → px u → BX E u t → H.size ≤ H1.size → (∀ q : Nat, q < H.size → ¬ AX q → H1[q]? = H[q]?) → va_S A0 H0 H1 locs1 → H1[q9]? = some ce → ce.vm = .none → s.vm.findClass E = some ce.cls → vx_W p l e R s m args below meth c H1 locs1 (cells + mc) (slots + ms) Q (F0 m pc ls rest) q9)
    (kk : ∀ (r : UInt32) (u : S) (t : State) (H1 : Heap) (locs1 : List Loc), t.heap = H1 → s.vm.Alike t.vm → post r u → B u t → H.size ≤ H1.size → (∀ q : Nat, q < H.size → ¬ A1 q → H1[q]? = H[q]?) → va_S A0 H0 H1 locs1 → W p l e R s m args below meth c H1 locs1 (cells + mc) (slots + ms) Q (F0 m (pc + 3) ls (.float r :: rest))) : W p l e R s m args below meth c H locs cells slots Q (F0 m pc ls st0) := by
  intro T hT X
  rcases hr T hT X with ⟨v, st₀, t, T', L, h0, X', hL, e1, e2, ⟨⟨r, u, hv, hp, hb⟩, hF⟩, st⟩ | ⟨q, st₀, t, T', L, E, ce, h0, X', hL, e1, e2, ⟨u, hp, hb, hF⟩, hce, hcv, hcl, st⟩
  · cases hv
    obtain ⟨k1, k2, k3⟩ := vx_keep h0 e1 hS hA hf hL hF
    obtain ⟨t2, a1, b1⟩ := kk r u t T'.heap (locs ++ L) e1.symm (by rw [← e2]; exact X'.warmed.alike) hp hb k1 k2 k3 T' rfl X'
    exact ⟨t2, st t2 a1, b1⟩
  · obtain ⟨k1, k2, k3⟩ := vx_keep h0 e1 hS hAX hf hL hF
    obtain ⟨t2, a1, b1⟩ := kx E ce q u t T'.heap (locs ++ L) e1.symm (by rw [← e2]; exact X'.warmed.alike) hp hb k1 k2 k3 (by rw [e1]; exact hce) hcv hcl T' rfl X'
    exact ⟨t2, st.trans a1, b1⟩
theorem vx_calld {S SX : Type} {post : UInt64 → S → Prop} {px : SX → Prop} {B : S → State → Prop} {BX : String → SX → State → Prop} {AX : Nat → Prop} (hr : vx_Run p l e R s m args below meth c H locs cells slots mc ms (F0 m pc ls st0) rest (va_Qd post B A1 a) (vx_X px BX AX) free) (hS : va_S A0 H0 H locs) (hA : ∀ q, q < H.size → A1 q → A0 q) (hf : ∀ q, free q → A0 q) (hAX : ∀ q, q < H.size → AX q → A0 q)
    (kx : ∀ (E : String) (ce : Cell) (q9 : Addr) (u : SX) (t : State) (H1 : Heap) (locs1 : List Loc), t.heap = H1 → s.vm.Alike t.vm → px u → BX E u t → H.size ≤ H1.size → (∀ q : Nat, q < H.size → ¬ AX q → H1[q]? = H[q]?) → va_S A0 H0 H1 locs1 → H1[q9]? = some ce → ce.vm = .none → s.vm.findClass E = some ce.cls → vx_W p l e R s m args below meth c H1 locs1 (cells + mc) (slots + ms) Q (F0 m pc ls rest) q9)
    (kk : ∀ (r : UInt64) (u : S) (t : State) (H1 : Heap) (locs1 : List Loc), t.heap = H1 → s.vm.Alike t.vm → post r u → B u t → H.size ≤ H1.size → (∀ q : Nat, q < H.size → ¬ A1 q → H1[q]? = H[q]?) → va_S A0 H0 H1 locs1 → W p l e R s m args below meth c H1 locs1 (cells + mc) (slots + ms) Q (F0 m (pc + 3) ls (.double r :: rest))) : W p l e R s m args below meth c H locs cells slots Q (F0 m pc ls st0) := by
  intro T hT X
  rcases hr T hT X with ⟨v, st₀, t, T', L, h0, X', hL, e1, e2, ⟨⟨r, u, hv, hp, hb⟩, hF⟩, st⟩ | ⟨q, st₀, t, T', L, E, ce, h0, X', hL, e1, e2, ⟨u, hp, hb, hF⟩, hce, hcv, hcl, st⟩
  · cases hv
    obtain ⟨k1, k2, k3⟩ := vx_keep h0 e1 hS hA hf hL hF
    obtain ⟨t2, a1, b1⟩ := kk r u t T'.heap (locs ++ L) e1.symm (by rw [← e2]; exact X'.warmed.alike) hp hb k1 k2 k3 T' rfl X'
    exact ⟨t2, st t2 a1, b1⟩
  · obtain ⟨k1, k2, k3⟩ := vx_keep h0 e1 hS hAX hf hL hF
    obtain ⟨t2, a1, b1⟩ := kx E ce q u t T'.heap (locs ++ L) e1.symm (by rw [← e2]; exact X'.warmed.alike) hp hb k1 k2 k3 (by rw [e1]; exact hce) hcv hcl T' rfl X'
    exact ⟨t2, st.trans a1, b1⟩
theorem vx_callv {S SX : Type} {post : S → Prop} {px : SX → Prop} {B : S → State → Prop} {BX : String → SX → State → Prop} {AX : Nat → Prop} (hr : vx_Run p l e R s m args below meth c H locs cells slots mc ms (F0 m pc ls st0) rest (va_Qv post B A1 a) (vx_X px BX AX) free) (hS : va_S A0 H0 H locs) (hA : ∀ q, q < H.size → A1 q → A0 q) (hf : ∀ q, free q → A0 q) (hAX : ∀ q, q < H.size → AX q → A0 q)
    (kx : ∀ (E : String) (ce : Cell) (q9 : Addr) (u : SX) (t : State) (H1 : Heap) (locs1 : List Loc), t.heap = H1 → s.vm.Alike t.vm → px u → BX E u t → H.size ≤ H1.size → (∀ q : Nat, q < H.size → ¬ AX q → H1[q]? = H[q]?) → va_S A0 H0 H1 locs1 → H1[q9]? = some ce → ce.vm = .none → s.vm.findClass E = some ce.cls → vx_W p l e R s m args below meth c H1 locs1 (cells + mc) (slots + ms) Q (F0 m pc ls rest) q9)
    (kk : ∀ (u : S) (t : State) (H1 : Heap) (locs1 : List Loc), t.heap = H1 → s.vm.Alike t.vm → post u → B u t → H.size ≤ H1.size → (∀ q : Nat, q < H.size → ¬ A1 q → H1[q]? = H[q]?) → va_S A0 H0 H1 locs1 → W p l e R s m args below meth c H1 locs1 (cells + mc) (slots + ms) Q (F0 m (pc + 3) ls (rest))) : W p l e R s m args below meth c H locs cells slots Q (F0 m pc ls st0) := by
  intro T hT X
  rcases hr T hT X with ⟨v, st₀, t, T', L, h0, X', hL, e1, e2, ⟨⟨u, hv, hp, hb⟩, hF⟩, st⟩ | ⟨q, st₀, t, T', L, E, ce, h0, X', hL, e1, e2, ⟨u, hp, hb, hF⟩, hce, hcv, hcl, st⟩
  · cases hv
    obtain ⟨k1, k2, k3⟩ := vx_keep h0 e1 hS hA hf hL hF
    obtain ⟨t2, a1, b1⟩ := kk u t T'.heap (locs ++ L) e1.symm (by rw [← e2]; exact X'.warmed.alike) hp hb k1 k2 k3 T' rfl X'
    exact ⟨t2, st t2 a1, b1⟩
  · obtain ⟨k1, k2, k3⟩ := vx_keep h0 e1 hS hAX hf hL hF
    obtain ⟨t2, a1, b1⟩ := kx E ce q u t T'.heap (locs ++ L) e1.symm (by rw [← e2]; exact X'.warmed.alike) hp hb k1 k2 k3 (by rw [e1]; exact hce) hcv hcl T' rfl X'
    exact ⟨t2, st.trans a1, b1⟩
/-- caught by the row x of this method's table; the rows ahead don't take it -/
theorem vx_catch {own name : String} {E : String} {ce : Cell} {q : Addr} (hown : s.vm.findClass own = some m.cls) (pre : List ExceptionTableEntry) (x : ExceptionTableEntry) (suf : List ExceptionTableEntry) (hsplit : c.exceptionTable.toList = pre ++ x :: suf)
    (hpass : ∀ z ∈ pre, covers z pc = false ∨ (z.catchType ≠ 0 ∧ ∃ nm : String, (Cond.classLink own z.catchType nm).before args s = true ∧ va_Nc E nm s)) (hx : covers x pc = true) (h0 : x.catchType ≠ 0)
    (hlink : (Cond.classLink own x.catchType name).before args s = true) (hcast : (Cond.castable E name).before args s = true) (hcell : H[q]? = some ce) (hv : ce.vm = .none) (hcl : s.vm.findClass E = some ce.cls)
    (kk : W p l e R s m args below meth c H locs cells slots Q (F0 m x.handlerPc ls [.ref q])) : vx_W p l e R s m args below meth c H locs cells slots Q (F0 m pc ls rest) q := by
  intro T hT X
  have hpl : e.platform.magicAccessors = ({} : Platform).magicAccessors := by rw [X.admits.platform]
  obtain ⟨c3, c4, hc3, hc4, hasg⟩ := Cond.castable_spec hcast
  cases Option.some.inj (hc3.symm.trans hcl)
  obtain ⟨c5, hc5, hcl5⟩ := Cond.classLink_spec hown hlink e.platform hpl
  cases Option.some.inj (hc4.symm.trans hc5)
  obtain ⟨vm', X', st⟩ := xc_caught X q (g := F0 m pc ls rest) rfl (by rw [hT]; exact hcell) (by rw [hv]; rfl) (by obtain ⟨k9, h9, -⟩ := Vm.findClass_spec hcl; exact ⟨k9, h9⟩) pre x suf hsplit
    (fun z hz => by
      rcases hpass z hz with h | ⟨hz0, nm, hl1, hn1⟩
      · exact Or.inl h
      · obtain ⟨c6, hc6, hcl6⟩ := Cond.classLink_spec hown hl1 e.platform hpl
        obtain ⟨a8, b8, h1, h2, h3⟩ := hn1
        cases Option.some.inj (h1.symm.trans hcl)
        cases Option.some.inj (h2.symm.trans hc6)
        exact Or.inr ⟨hz0, _, hcl6, h3⟩) hx h0 hcl5 hasg
  obtain ⟨t, a1, b1⟩ := kk (T.setVm vm') hT X'
  exact ⟨t, st.trans a1, b1⟩
end Rows
section Ends
variable {p : Program} {l : Launch} {e : Env} {R : Room} {s : State} {m : MethodId} {args : Array Value} {below : List Frame} {meth : Method} {c : Code} {H : Heap} {locs : List Loc} {cells slots : Nat} {Q : State → Prop}
variable {mc ms : Nat} {free : Addr → Prop} {A0 A1 : Nat → Prop} {H0 : Heap} {a : Array Value} {ls : Array Slot} {st0 rest : List Value}
variable {Qc : Array Value → State → Outcome → State → Prop} {XC : String → State → State → Prop}
/-- what a body that may throw owes at its end -/
def vx_MQ (below : List Frame) (Qc : Array Value → State → Outcome → State → Prop) (XC : String → State → State → Prop) (a : Array Value) (s : State) (mc ms : Nat) (free : Addr → Prop) : State → Prop := fun t =>
  ∃ o, t.status = .running ∧ Ended t below o ∧ vx_Q Qc XC mc ms free a s o t
theorem vx_ret {g : JFrame} {mc ms : Nat} (k : W p l e R s m args below meth c H locs cells slots (MQ below Qc args s mc ms free) g) : W p l e R s m args below meth c H locs cells slots (vx_MQ below Qc XC args s mc ms free) g := by
  intro T hT X
  obtain ⟨t, a1, o, b1, b2, b3, b4⟩ := k T hT X
  exact ⟨t, a1, o, b1, b2, Or.inl ⟨b3, b4⟩⟩
/-- not caught here: it goes on to the caller -/
theorem vx_widen {g : JFrame} {q : Addr} {k n : Nat} (h1 : cells ≤ k) (h2 : slots ≤ n) (kk : vx_W p l e R s m args below meth c H locs k n Q g q) : vx_W p l e R s m args below meth c H locs cells slots Q g q := fun T hT X => kk T hT (stand_widen X h1 h2)
theorem vx_out {pc : Nat} {E : String} {ce : Cell} {q : Addr} {mc ms : Nat} (hout : ∀ x ∈ c.exceptionTable.toList, covers x pc = false) (hlocks : meth.locks = false) (hcell : H[q]? = some ce) (hv : ce.vm = .none) (hcl : s.vm.findClass E = some ce.cls)
    (hx : ∀ t : State, t.heap = H → s.vm.Alike t.vm → XC E s t) (hf : ∀ z ∈ locs, free z.base) (hc : cells ≤ mc) (hs : slots ≤ ms) :
    vx_W p l e R s m args below meth c H locs cells slots (vx_MQ below Qc XC args s mc ms free) (F0 m pc ls rest) q := by
  intro T hT X
  obtain ⟨st1, hrun, hend, hW, hsm⟩ := X.leaveThrown q (g := F0 m pc ls rest) rfl rfl rfl hout hlocks
  have hcell9 : (T.setFrames (.throwing q :: below)).heap[q]? = some ce := by
    show T.heap[q]? = some ce
    rw [hT]; exact hcell
  exact ⟨_, st1, .threw q, hrun, hend, Or.inr ⟨q, rfl, E, ce, locs, hx _ hT hW.alike, hcell9, hv, hcl, hW, hsm.mono hc hs, hf⟩⟩
theorem vx_frame {U : State} {k n : Nat} (h : s.sameButNew ({ U with vm := s.vm } : State) locs k n) : s.heap.size ≤ U.heap.size ∧ ∀ q : Nat, q < s.heap.size → (∀ z ∈ locs, z.base ≠ q) → U.heap[q]? = s.heap[q]? := by
  obtain ⟨-, h2, -, -, -, h6⟩ := h
  refine ⟨h2, fun q hq hz => ?_⟩
  obtain ⟨c9, e1, e2, e3, e4⟩ := h6 q _ (Array.getElem?_eq_getElem hq)
  have hs : c9.slots = (s.heap[q]).slots := Array.ext_getElem? fun i => e4 i fun hm => hz _ hm rfl
  have h9 : c9 = s.heap[q] := by
    rw [hs] at e2
    exact e2
  have e5 : U.heap[q]? = some c9 := e1
  rw [e5, h9, Array.getElem?_eq_getElem hq]
/-- the words of a throw but the four that speak of the heap -/
def vx_no (w : Cond) : Bool := decide (w ≠ .isRef (.static Bundle.tN "UNASSIGNED_STACK" Bundle.steD)) && decide (w ≠ .isRef (.static Bundle.tN "SUPPRESSED_SENTINEL" Bundle.listD)) && decide (w ≠ .laysStatic Bundle.tN "UNASSIGNED_STACK" Bundle.steD) && decide (w ≠ .laysStatic Bundle.tN "SUPPRESSED_SENTINEL" Bundle.listD)
def vx_at0 (own : String) (ic : Nat) (X : String) (names : List String) : List Cond := (Bundle.ownAtoms0 own ic X names).filter vx_no
def vx_atS (own : String) (ic : Nat) (X : String) (names : List String) : List Cond := (Bundle.ownAtoms own ic X names).filter vx_no
/-- a word that the tables alone decide, or a good one -/
def vx_ot (w : Cond) : Bool := w.onTables || goodWord w
theorem vx_ot_at {args a' : Array Value} {s U : State} {w : Cond} (hW : s.WarmedH U.vm) (hvm : s.vm = U.vm) (hg : vx_ot w = true) (h : w.before args s = true) : w.before a' U = true := by
  simp only [vx_ot, Bool.or_eq_true] at hg
  rcases hg with hg | hg
  · exact va_tabs hg hvm h
  · exact word_at hW (good_of_word hg) h
/-- a list's words: the good ones out of the method's own list, the others by premises of their own -/
theorem vx_hat {args : Array Value} {s : State} {L B : List Cond} (h1 : ∀ w ∈ L.filter goodWord, w.before args s = true) (h2 : ∀ w ∈ L.filter (fun w => !goodWord w), w ∈ B) (h3 : ∀ w ∈ B, w.before args s = true) : ∀ w ∈ L, w.before args s = true := by
  intro w hw
  by_cases g : goodWord w = true
  · exact h1 w (List.mem_filter.mpr ⟨hw, g⟩)
  · refine h3 w (h2 w (List.mem_filter.mpr ⟨hw, ?_⟩))
    show (!goodWord w) = true
    cases hgw : goodWord w
    · rfl
    · exact absurd hgw g
theorem vx_c {args : Array Value} {s : State} {w : Cond} {B : List Cond} (h : w.before args s = true) (t : ∀ w ∈ B, w.before args s = true) : ∀ w' ∈ w :: B, w'.before args s = true := fun w' h' => (List.mem_cons.mp h').elim (fun e => by rw [e]; exact h) (t w')
theorem vx_n {args : Array Value} {s : State} : ∀ w ∈ ([] : List Cond), w.before args s = true := fun _ h => nomatch h
theorem vx_own {args : Array Value} {s : State} {L : List Cond} (h1 : ∀ w ∈ L.filter vx_no, w.before args s = true)
    (hU : (Cond.isRef (.static Bundle.tN "UNASSIGNED_STACK" Bundle.steD)).before args s = true) (hN : (Cond.isRef (.static Bundle.tN "SUPPRESSED_SENTINEL" Bundle.listD)).before args s = true)
    (lU : (Cond.laysStatic Bundle.tN "UNASSIGNED_STACK" Bundle.steD).before args s = true) (lN : (Cond.laysStatic Bundle.tN "SUPPRESSED_SENTINEL" Bundle.listD).before args s = true) : ∀ w ∈ L, w.before args s = true := by
  intro w hw
  by_cases e1 : w = .isRef (.static Bundle.tN "UNASSIGNED_STACK" Bundle.steD)
  · rw [e1]; exact hU
  · by_cases e2 : w = .isRef (.static Bundle.tN "SUPPRESSED_SENTINEL" Bundle.listD)
    · rw [e2]; exact hN
    · by_cases e3 : w = .laysStatic Bundle.tN "UNASSIGNED_STACK" Bundle.steD
      · rw [e3]; exact lU
      · by_cases e4 : w = .laysStatic Bundle.tN "SUPPRESSED_SENTINEL" Bundle.listD
        · rw [e4]; exact lN
        · exact h1 w (List.mem_filter.mpr ⟨hw, by unfold vx_no; rw [decide_eq_true e1, decide_eq_true e2, decide_eq_true e3, decide_eq_true e4]; rfl⟩)
/-- where a static field lies, its class's statics cell in H -/
def vx_L (C n d : String) (A : Nat → Prop) (U : State) (H : Heap) : Prop := ∃ (c : ClassId) (k : Class) (i : Nat) (f : Field) (a : Nat) (cell : Cell), U.vm.findClass C = some c ∧ U.fieldFound? C n d = some (c, k, i, f) ∧ f.isStatic = true ∧ k.statics = some a ∧ H[a]? = some cell ∧ cell.vm.isStatics = true ∧ cell.cls = c ∧ f.slot < cell.slots.size ∧ k.staticTypes[f.slot]? = some f.type ∧ ¬ A a
theorem vx_L.moved {C n d : String} {A : Nat → Prop} {u U : State} {H : Heap} (hvm : u.vm.Alike U.vm) (h : vx_L C n d A u H) : vx_L C n d A U H := by
  obtain ⟨c, k, i, f, a, cell, h1, h2, h3, h4, h5, h6, h7, h8, h9, h10⟩ := h
  obtain ⟨k', hi', he⟩ := State.fieldFound?_setVm hvm h2
  exact ⟨c, k', i, f, a, cell, by rw [hvm.findClass]; exact h1, hi', h3, by rw [he]; exact h4, h5, h6, h7, h8, by rw [he]; exact h9, h10⟩
theorem vx_L.kept {C n d : String} {A : Nat → Prop} {U : State} {H H1 : Heap} (h : vx_L C n d A U H) (hq : ∀ a : Nat, a < H.size → ¬ A a → H1[a]? = H[a]?) : vx_L C n d A U H1 := by
  obtain ⟨c, k, i, f, a, cell, h1, h2, h3, h4, h5, h6, h7, h8, h9, h10⟩ := h
  exact ⟨c, k, i, f, a, cell, h1, h2, h3, h4, by rw [hq a (Array.getElem?_eq_some_iff.mp h5).1 h10]; exact h5, h6, h7, h8, h9, h10⟩
theorem vx_L.narrow {C n d : String} {A B : Nat → Prop} {U : State} {H : Heap} (h : vx_L C n d A U H) (hAB : ∀ q, B q → A q) : vx_L C n d B U H := by
  obtain ⟨c, k, i, f, a, cell, h1, h2, h3, h4, h5, h6, h7, h8, h9, h10⟩ := h
  exact ⟨c, k, i, f, a, cell, h1, h2, h3, h4, h5, h6, h7, h8, h9, fun z => h10 (hAB _ z)⟩
theorem vx_L.word {C n d : String} {A : Nat → Prop} {s : State} {args : Array Value} (h : vx_L C n d A s s.heap) : (Cond.laysStatic C n d).before args s = true := by
  obtain ⟨c, k, i, f, a, cell, h1, h2, h3, h4, h5, h6, h7, h8, h9, -⟩ := h
  show (Cond.laysStatic C n d).holds args s none s [] = true
  exact Cond.laysStatic_of h1 h2 h3 h4 h5 h6 h7 h8 h9
/-- .. and what it holds: null or some reference -/
def vx_Zq (C n d : String) (A : Nat → Prop) (U : State) (H : Heap) : Prop := va_Zq C n d A U H ∧ vx_L C n d A U H
theorem vx_Zq.moved {C n d : String} {A : Nat → Prop} {u U : State} {H : Heap} (hvm : u.vm.Alike U.vm) (h : vx_Zq C n d A u H) : vx_Zq C n d A U H := ⟨va_Zq.moved hvm h.1, vx_L.moved hvm h.2⟩
theorem vx_Zq.kept {C n d : String} {A : Nat → Prop} {U : State} {H H1 : Heap} (h : vx_Zq C n d A U H) (hq : ∀ a : Nat, a < H.size → ¬ A a → H1[a]? = H[a]?) : vx_Zq C n d A U H1 := ⟨va_Zq.kept h.1 hq, vx_L.kept h.2 hq⟩
theorem vx_Zq.narrow {C n d : String} {A B : Nat → Prop} {U : State} {H : Heap} (h : vx_Zq C n d A U H) (hAB : ∀ q, B q → A q) : vx_Zq C n d B U H := ⟨va_Zq.narrow h.1 hAB, vx_L.narrow h.2 hAB⟩
theorem vx_Zqof {args : Array Value} {s : State} {C n d : String} {A : Nat → Prop} (hl : (Cond.laysStatic C n d).before args s = true) (hini : (Cond.initialized C).before args s = true) (h : (Cond.isRef (.static C n d)).before args s = true) (hA : ∀ a : Nat, a < s.heap.size → ¬ A a) : vx_Zq C n d A s s.heap := by
  refine ⟨va_Zqof hl hini h hA, ?_⟩
  obtain ⟨c, k, i, f, a, cell, h1, h2, h3, h4, h5, h6, h7, h8, h9⟩ := Cond.laysStatic_spec hl
  exact ⟨c, k, i, f, a, cell, h1, h2, h3, h4, h5, h6, h7, h8, h9, hA a (Array.getElem?_eq_some_iff.mp h5).1⟩
theorem vx_isRef {C n d : String} {v : Value} {A : Nat → Prop} {s : State} {args : Array Value} (h : va_Z C n d v A s s.heap) (hv : v.isRef = true) : (Cond.isRef (.static C n d)).before args s = true := by
  obtain ⟨cf, kf, fi, f, a, cell, h1, h2, h3, h4, h5, h6, h7, -⟩ := h
  have he : (Term.static C n d).eval args s none [] s = some v := by
    simp [Term.eval, State.fieldNamed?, h1, h2, h4, h5, h6, h7]
  simp only [Cond.before, Cond.holds, Cond.value, he]
  cases v <;> simp_all [Value.isRef]
theorem vx_isRefq {C n d : String} {A : Nat → Prop} {s : State} {args : Array Value} (h : va_Zq C n d A s s.heap) : (Cond.isRef (.static C n d)).before args s = true := by
  rcases h with h | ⟨t, h⟩
  · exact vx_isRef h rfl
  · exact vx_isRef h rfl
/-- the same frame, seen from here: as if the method were called anew in this heap -/
theorem vx_rebase {T : State} (X : Stand p l e R s m args below meth c T locs cells slots) {R' : Room} (hf : R'.frames ≤ R.frames) (hl : R'.locals ≤ R.locals) (hc : cells + R'.cells ≤ R.cells) (hs : slots + R'.slots ≤ R.slots) :
    Stand p l e R' ((T.setVm s.vm).setFrames (.invoking m args :: below)) m args below meth c T [] 0 0 := by
  have htop : (T.setVm s.vm).topJava?.isSome := X.here.top
  have hF : ((T.setVm s.vm).setFrames (.invoking m args :: below)).frames = .invoking m args :: below := State.frames_setFrames _ (State.cur_lt_of_top htop)
  obtain ⟨g₀, hg0⟩ := Option.isSome_iff_exists.mp htop
  obtain ⟨r, hr⟩ := State.topJava?_eq_some.mp hg0
  have hl9 : e.platform.stackLimits (T.setVm s.vm).me = e.platform.stackLimits s.me := X.limits
  have hb9 : (T.setVm s.vm).me.stackBytes = s.me.stackBytes := X.bytes
  refine ⟨X.admits, X.cas, X.clock, hF, ?_, X.hears, X.method, X.code, X.here, X.tail, X.warmed, ?_, ?_, ?_⟩
  · have h := X.room
    have hU : ((T.setVm s.vm).setFrames (.invoking m args :: below)).localsInUse = s.localsInUse := by
      rw [State.localsInUse_invoking hF (meth := meth) (c := c) X.method X.code, State.localsInUse_invoking X.frames X.method X.code]
    simp only [State.hasRoom, Bool.and_eq_true, decide_eq_true_eq] at h ⊢
    obtain ⟨⟨⟨⟨h1, h2, h3, h4, h5, h6⟩, h7⟩, h8⟩, h9⟩ := h
    rw [X.frames, List.length_cons] at h2 h3
    have q1 := X.heapSize
    have q2 := X.used
    simp only [hF, hU, List.length_cons, State.stackLimits_setFrames, State.stackBytes_setFrames, hl9, hb9]
    refine ⟨⟨⟨⟨by omega, by omega, by omega, by omega, by omega, h6⟩, ?_⟩, ?_⟩, X.book⟩
    · show T.heap.size + R'.cells ≤ e.platform.maxCells
      omega
    · show T.slotsUsed + R'.slots ≤ e.platform.maxSlots
      omega
  · rw [State.stackLimits_setFrames]; rfl
  · rw [State.stackBytes_setFrames]; rfl
  · refine ⟨?_, Nat.le_refl _, Nat.le_refl _, ?_, ?_, fun a c9 h9 => ⟨c9, h9, rfl, rfl, fun _ _ => rfl⟩⟩
    · obtain ⟨t, ht, -⟩ := State.frames_cons hr
      show T.setVm s.vm = { ((T.setVm s.vm).setFrames (.invoking m args :: below)).setFrames (T.setVm s.vm).frames with heap := T.heap, slotsUsed := T.slotsUsed }
      rw [State.setFrames_setFrames, State.setFrames_self ht]
      rfl
    · show T.slotsUsed = T.slotsUsed + ((T.heap.toList.drop T.heap.size).map (·.slots.size)).sum
      rw [List.drop_eq_nil_of_le (Nat.le_of_eq Array.length_toList)]
      rfl
    · show ((T.heap.toList.drop T.heap.size).map (·.slots.size)).sum ≤ 0
      rw [List.drop_eq_nil_of_le (Nat.le_of_eq Array.length_toList)]
      exact Nat.le_refl _
/-- 'throw new E()': new; dup; invokespecial; athrow -/
theorem vx_throw0 {cc : ByteArray} {pc : Nat} (hexec : p.tables.exec = Jvm.exec) (hb : c.code = cc) (hl : l.stackTraces = false) {own cls : String} {names : List String} {ik ic mc ms : Nat} {A : Nat → Prop}
    (hown : s.vm.findClass own = some m.cls) (hcls : Bundle.fit cls = true) (hnames : ∀ n ∈ names, Bundle.fit n = true)
    (hk : (Cond.classLink own ik cls).before args s = true) (hini : (Cond.initialized cls).before args s = true) (hat : ∀ w ∈ vx_at0 own ic cls names, w.before args s = true)
    (hgood : ∀ w ∈ Cond.classLink own ik cls :: Cond.initialized cls :: vx_at0 own ic cls names, vx_ot w = true)
    (hU : vx_Zq Bundle.tN "UNASSIGNED_STACK" Bundle.steD A s s.heap) (hN : vx_Zq Bundle.tN "SUPPRESSED_SENTINEL" Bundle.listD A s s.heap) (hS : va_S A s.heap H locs) (hsize : ls.size = c.maxLocals)
    (d0 : decode cc pc = .ok (.new ik, 3)) (d3 : decode cc (pc + 3) = .ok (.dup, 1)) (d4 : decode cc (pc + 4) = .ok (.invokespecial ic, 3)) (d7 : decode cc (pc + 7) = .ok (.athrow, 1))
    (hout : ∀ x ∈ c.exceptionTable.toList, covers x (pc + 7) = false)
    (hRframes : names.length + 3 < R.frames) (hRlocals : (rest.map fun v => v.category).sum + (13 * (names.length + 1) + 42) ≤ R.locals) (hRcells : cells + 1 ≤ R.cells) (hRslots : slots + 6 ≤ R.slots) (hlocks : meth.locks = false)
    (hx : ∀ t : State, s.vm.Alike t.vm → H.size ≤ t.heap.size → (∀ q : Nat, q < H.size → t.heap[q]? = H[q]?) → XC cls s t)
    (hf : ∀ z ∈ locs, free z.base) (hc : cells + 1 ≤ mc) (hs : slots + 6 ≤ ms) :
    W p l e R s m args below meth c H locs cells slots (vx_MQ below Qc XC args s mc ms free) (F0 m pc ls rest) := by
  intro T hT X
  have htr : e.platform.stackTraces = false := (show e.platform.stackTraces = l.stackTraces by rw [X.admits.platform]).trans hl
  have Y := vx_rebase X (R' := { frames := R.frames, locals := R.locals, cells := 1, slots := 6 }) (Nat.le_refl _) (Nat.le_refl _) hRcells hRslots
  obtain ⟨s', hA⟩ : ∃ z, z = (T.setVm s.vm).setFrames (.invoking m args :: below) := ⟨_, rfl⟩
  rw [← hA] at Y
  have hvm : s'.vm = s.vm := by rw [hA]; rfl
  have hhp : s'.heap = H := by rw [hA]; exact hT
  have hW0 : s.WarmedH s'.vm := by rw [hvm]; exact State.WarmedH.refl s
  have hat' : ∀ w ∈ vx_at0 own ic cls names, w.before args s' = true := fun w hw => vx_ot_at hW0 hvm.symm (hgood w (List.mem_cons_of_mem _ (List.mem_cons_of_mem _ hw))) (hat w hw)
  have hk' : (Cond.classLink own ik cls).before args s' = true := vx_ot_at hW0 hvm.symm (hgood _ List.mem_cons_self) hk
  have hini' : (Cond.initialized cls).before args s' = true := vx_ot_at hW0 hvm.symm (hgood _ (List.mem_cons_of_mem _ List.mem_cons_self)) hini
  have hU' : vx_Zq Bundle.tN "UNASSIGNED_STACK" Bundle.steD A s' s'.heap := by rw [hhp]; exact vx_Zq.moved hW0.alike (hU.kept hS.2.1)
  have hN' : vx_Zq Bundle.tN "SUPPRESSED_SENTINEL" Bundle.listD A s' s'.heap := by rw [hhp]; exact vx_Zq.moved hW0.alike (hN.kept hS.2.1)
  have h : ∀ w ∈ Bundle.ownAtoms0 own ic cls names, w.before args s' = true := vx_own hat' (vx_isRefq hU'.1) (vx_isRefq hN'.1) hU'.2.word hN'.2.word
  have hown' : s'.vm.findClass own = some m.cls := by rw [hvm]; exact hown
  have hins : (Cond.instantiable cls 6).before args s' = true := h _ (by simp [Bundle.ownAtoms0])
  obtain ⟨vm₁, cX, kX, hfX, hkX, -, -, X₁, st1⟩ := Y.newCold hexec (own := own) (C := cls) (index := ik) (n := 6) hown' hk' hins hini'
    (g := F0 m pc ls rest) rfl (by rw [hb]; exact d0) (Nat.le_refl _) (Nat.le_refl _)
  generalize hT1 : (T.setVm vm₁).pushCell { cls := cX, slots := kX.instanceTypes.map defaultValue, vm := .none } = T1 at X₁ st1
  have hcat : (Value.ref T.heap.size).category = 1 := rfl
  have hcellA : T1.heap[T.heap.size]? = some (freshCell cX kX) := by rw [← hT1]; exact State.heap_pushCell_size _ _
  have d3' : decode c.code (pc + 3) = .ok (.dup, 1) := by rw [hb]; exact d3
  obtain ⟨U, hsteps, hrun, hend, hW, hsame, ce, hce, hO⟩ := X₁.ctorThrow0 hexec htr (own := own) (cls := cls) (names := names) (ic := ic) hown' hcls hnames h (fun x hx => nomatch hx) hfX hkX hcellA (by rw [hhp, hT]; exact Nat.le_refl _)
    (g := { method := m, pc := pc + 4, locals := ls, stack := .ref T.heap.size :: .ref T.heap.size :: rest, locked := none }) rfl hsize rfl rfl (rest := rest) rfl
    (by rw [hb]; exact d4) (by rw [hb]; exact d7) hout hRframes (by simp only [List.map_cons, List.sum_cons, hcat]; omega) hlocks
  obtain ⟨f1, f2⟩ := vx_frame hsame
  rw [hhp] at f1 f2
  have hWs : s.WarmedH U.vm := State.WarmedH.trans hW0 hW
  have hcl : s.vm.findClass cls = some ce.cls := by
    have h9 := hO.cls
    rw [hvm] at h9
    exact h9
  have hall : s.sameButNew ({ U with vm := s.vm } : State) locs mc ms := by
    subst hA
    obtain ⟨e1, e2⟩ := hsame
    rw [State.setFrames_setFrames] at e1
    have h2 : (T.setVm s.vm).sameButNew ({ U with vm := s.vm } : State) [] (0 + 1) (0 + 6) := ⟨e1, e2⟩
    have h3 := X.same.trans h2
    rw [List.append_nil] at h3
    exact h3.mono hc hs
  refine ⟨U, ?_, .threw T.heap.size, hrun, hend, Or.inr ⟨T.heap.size, rfl, cls, ce, locs, hx U hWs.alike f1 (fun q hq => f2 q hq (fun z hz => nomatch hz)), hce, hO.vm, hcl, hWs, hall, hf⟩⟩
  refine st1 _ ?_
  show Steps p.tables e below (T1.setTop { method := m, pc := pc + 3, locals := ls, stack := .ref T.heap.size :: rest, locked := none }) _
  jvm_step X₁.here [X₁.here.top, hexec, d3', Value.category]
  exact hsteps
/-- 'throw new E("text")': new; dup; ldc; invokespecial; athrow -/
theorem vx_throwS {cc : ByteArray} {pc : Nat} (hexec : p.tables.exec = Jvm.exec) (hb : c.code = cc) (hl : l.stackTraces = false) {own cls text : String} {names : List String} {ik is ic mc ms sa : Nat} {A : Nat → Prop}
    (hown : s.vm.findClass own = some m.cls) (hcls : Bundle.fit cls = true) (hnames : ∀ n ∈ names, Bundle.fit n = true)
    (hk : (Cond.classLink own ik cls).before args s = true) (hini : (Cond.initialized cls).before args s = true) (hstr : vk_R own is text sa s) (hat : ∀ w ∈ vx_atS own ic cls names, w.before args s = true)
    (hgood : ∀ w ∈ Cond.classLink own ik cls :: Cond.initialized cls :: vx_atS own ic cls names, vx_ot w = true)
    (hU : vx_Zq Bundle.tN "UNASSIGNED_STACK" Bundle.steD A s s.heap) (hN : vx_Zq Bundle.tN "SUPPRESSED_SENTINEL" Bundle.listD A s s.heap) (hS : va_S A s.heap H locs) (hsize : ls.size = c.maxLocals)
    (d0 : decode cc pc = .ok (.new ik, 3)) (d3 : decode cc (pc + 3) = .ok (.dup, 1)) (d4 : decode cc (pc + 4) = .ok (.ldc is, 2)) (d6 : decode cc (pc + 6) = .ok (.invokespecial ic, 3)) (d9 : decode cc (pc + 9) = .ok (.athrow, 1))
    (hout : ∀ x ∈ c.exceptionTable.toList, covers x (pc + 9) = false)
    (hRframes : names.length + 3 < R.frames) (hRlocals : (rest.map fun v => v.category).sum + (13 * (names.length + 1) + 43) ≤ R.locals) (hRcells : cells + 1 ≤ R.cells) (hRslots : slots + 6 ≤ R.slots) (hlocks : meth.locks = false)
    (hx : ∀ t : State, s.vm.Alike t.vm → H.size ≤ t.heap.size → (∀ q : Nat, q < H.size → t.heap[q]? = H[q]?) → XC cls s t)
    (hf : ∀ z ∈ locs, free z.base) (hc : cells + 1 ≤ mc) (hs : slots + 6 ≤ ms) :
    W p l e R s m args below meth c H locs cells slots (vx_MQ below Qc XC args s mc ms free) (F0 m pc ls rest) := by
  intro T hT X
  have htr : e.platform.stackTraces = false := (show e.platform.stackTraces = l.stackTraces by rw [X.admits.platform]).trans hl
  have Y := vx_rebase X (R' := { frames := R.frames, locals := R.locals, cells := 1, slots := 6 }) (Nat.le_refl _) (Nat.le_refl _) hRcells hRslots
  obtain ⟨s', hA⟩ : ∃ z, z = (T.setVm s.vm).setFrames (.invoking m args :: below) := ⟨_, rfl⟩
  rw [← hA] at Y
  have hvm : s'.vm = s.vm := by rw [hA]; rfl
  have hhp : s'.heap = H := by rw [hA]; exact hT
  have hW0 : s.WarmedH s'.vm := by rw [hvm]; exact State.WarmedH.refl s
  have hat' : ∀ w ∈ vx_atS own ic cls names, w.before args s' = true := fun w hw => vx_ot_at hW0 hvm.symm (hgood w (List.mem_cons_of_mem _ (List.mem_cons_of_mem _ hw))) (hat w hw)
  have hk' : (Cond.classLink own ik cls).before args s' = true := vx_ot_at hW0 hvm.symm (hgood _ List.mem_cons_self) hk
  have hini' : (Cond.initialized cls).before args s' = true := vx_ot_at hW0 hvm.symm (hgood _ (List.mem_cons_of_mem _ List.mem_cons_self)) hini
  have hU' : vx_Zq Bundle.tN "UNASSIGNED_STACK" Bundle.steD A s' s'.heap := by rw [hhp]; exact vx_Zq.moved hW0.alike (hU.kept hS.2.1)
  have hN' : vx_Zq Bundle.tN "SUPPRESSED_SENTINEL" Bundle.listD A s' s'.heap := by rw [hhp]; exact vx_Zq.moved hW0.alike (hN.kept hS.2.1)
  have h : ∀ w ∈ Bundle.ownAtoms own ic cls names, w.before args s' = true := vx_own hat' (vx_isRefq hU'.1) (vx_isRefq hN'.1) hU'.2.word hN'.2.word
  have hown' : s'.vm.findClass own = some m.cls := by rw [hvm]; exact hown
  have hins : (Cond.instantiable cls 6).before args s' = true := h _ (by simp [Bundle.ownAtoms])
  obtain ⟨vm₁, cX, kX, hfX, hkX, -, -, X₁, st1⟩ := Y.newCold hexec (own := own) (C := cls) (index := ik) (n := 6) hown' hk' hins hini'
    (g := F0 m pc ls rest) rfl (by rw [hb]; exact d0) (Nat.le_refl _) (Nat.le_refl _)
  generalize hT1 : (T.setVm vm₁).pushCell { cls := cX, slots := kX.instanceTypes.map defaultValue, vm := .none } = T1 at X₁ st1
  have hcat : (Value.ref T.heap.size).category = 1 := rfl
  have hcellA : T1.heap[T.heap.size]? = some (freshCell cX kX) := by rw [← hT1]; exact State.heap_pushCell_size _ _
  have d3' : decode c.code (pc + 3) = .ok (.dup, 1) := by rw [hb]; exact d3
  have d4' : decode c.code (pc + 4) = .ok (.ldc is, 2) := by rw [hb]; exact d4
  have hstr' : vk_R own is text sa s' := vk_R.warm hW0 hstr
  obtain ⟨U, hsteps, hrun, hend, hW, hsame, ce, hce, hO⟩ := X₁.ctorThrowS hexec htr (own := own) (cls := cls) (names := names) (ic := ic) hown' hcls hnames h (fun x hx => nomatch hx) hfX hkX hcellA (by rw [hhp, hT]; exact Nat.le_refl _) (msg := .ref sa) rfl
    (g := { method := m, pc := pc + 6, locals := ls, stack := .ref sa :: .ref T.heap.size :: .ref T.heap.size :: rest, locked := none }) rfl hsize rfl rfl (rest := rest) rfl
    (by rw [hb]; exact d6) (by rw [hb]; exact d9) hout hRframes (by simp only [List.map_cons, List.sum_cons, hcat]; omega) hlocks
  obtain ⟨f1, f2⟩ := vx_frame hsame
  rw [hhp] at f1 f2
  have hWs : s.WarmedH U.vm := State.WarmedH.trans hW0 hW
  have hcl : s.vm.findClass cls = some ce.cls := by
    have h9 := hO.cls
    rw [hvm] at h9
    exact h9
  have hall : s.sameButNew ({ U with vm := s.vm } : State) locs mc ms := by
    subst hA
    obtain ⟨e1, e2⟩ := hsame
    rw [State.setFrames_setFrames] at e1
    have h2 : (T.setVm s.vm).sameButNew ({ U with vm := s.vm } : State) [] (0 + 1) (0 + 6) := ⟨e1, e2⟩
    have h3 := X.same.trans h2
    rw [List.append_nil] at h3
    exact h3.mono hc hs
  refine ⟨U, ?_, .threw T.heap.size, hrun, hend, Or.inr ⟨T.heap.size, rfl, cls, ce, locs, hx U hWs.alike f1 (fun q hq => f2 q hq (fun z hz => nomatch hz)), hce, hO.vm, hcl, hWs, hall, hf⟩⟩
  refine st1 _ ?_
  show Steps p.tables e below (T1.setTop { method := m, pc := pc + 3, locals := ls, stack := .ref T.heap.size :: rest, locked := none }) _
  jvm_step X₁.here [X₁.here.top, hexec, d3', Value.category]
  exact X₁.ldcString hexec (own := own) (text := text) (index := is) (a := sa) hown' hstr'.1 hstr'.2
    (g := { method := m, pc := pc + 4, locals := ls, stack := .ref T.heap.size :: .ref T.heap.size :: rest, locked := none }) rfl d4' _ hsteps
/-- 'throw new E("text")', the text by a wide index -/
theorem vx_throwSW {cc : ByteArray} {pc : Nat} (hexec : p.tables.exec = Jvm.exec) (hb : c.code = cc) (hl : l.stackTraces = false) {own cls text : String} {names : List String} {ik is ic mc ms sa : Nat} {A : Nat → Prop}
    (hown : s.vm.findClass own = some m.cls) (hcls : Bundle.fit cls = true) (hnames : ∀ n ∈ names, Bundle.fit n = true)
    (hk : (Cond.classLink own ik cls).before args s = true) (hini : (Cond.initialized cls).before args s = true) (hstr : vk_R own is text sa s) (hat : ∀ w ∈ vx_atS own ic cls names, w.before args s = true)
    (hgood : ∀ w ∈ Cond.classLink own ik cls :: Cond.initialized cls :: vx_atS own ic cls names, vx_ot w = true)
    (hU : vx_Zq Bundle.tN "UNASSIGNED_STACK" Bundle.steD A s s.heap) (hN : vx_Zq Bundle.tN "SUPPRESSED_SENTINEL" Bundle.listD A s s.heap) (hS : va_S A s.heap H locs) (hsize : ls.size = c.maxLocals)
    (d0 : decode cc pc = .ok (.new ik, 3)) (d3 : decode cc (pc + 3) = .ok (.dup, 1)) (d4 : decode cc (pc + 4) = .ok (.ldc_w is, 3)) (d7 : decode cc (pc + 7) = .ok (.invokespecial ic, 3)) (d10 : decode cc (pc + 10) = .ok (.athrow, 1))
    (hout : ∀ x ∈ c.exceptionTable.toList, covers x (pc + 10) = false)
    (hRframes : names.length + 3 < R.frames) (hRlocals : (rest.map fun v => v.category).sum + (13 * (names.length + 1) + 43) ≤ R.locals) (hRcells : cells + 1 ≤ R.cells) (hRslots : slots + 6 ≤ R.slots) (hlocks : meth.locks = false)
    (hx : ∀ t : State, s.vm.Alike t.vm → H.size ≤ t.heap.size → (∀ q : Nat, q < H.size → t.heap[q]? = H[q]?) → XC cls s t)
    (hf : ∀ z ∈ locs, free z.base) (hc : cells + 1 ≤ mc) (hs : slots + 6 ≤ ms) :
    W p l e R s m args below meth c H locs cells slots (vx_MQ below Qc XC args s mc ms free) (F0 m pc ls rest) := by
  intro T hT X
  have htr : e.platform.stackTraces = false := (show e.platform.stackTraces = l.stackTraces by rw [X.admits.platform]).trans hl
  have Y := vx_rebase X (R' := { frames := R.frames, locals := R.locals, cells := 1, slots := 6 }) (Nat.le_refl _) (Nat.le_refl _) hRcells hRslots
  obtain ⟨s', hA⟩ : ∃ z, z = (T.setVm s.vm).setFrames (.invoking m args :: below) := ⟨_, rfl⟩
  rw [← hA] at Y
  have hvm : s'.vm = s.vm := by rw [hA]; rfl
  have hhp : s'.heap = H := by rw [hA]; exact hT
  have hW0 : s.WarmedH s'.vm := by rw [hvm]; exact State.WarmedH.refl s
  have hat' : ∀ w ∈ vx_atS own ic cls names, w.before args s' = true := fun w hw => vx_ot_at hW0 hvm.symm (hgood w (List.mem_cons_of_mem _ (List.mem_cons_of_mem _ hw))) (hat w hw)
  have hk' : (Cond.classLink own ik cls).before args s' = true := vx_ot_at hW0 hvm.symm (hgood _ List.mem_cons_self) hk
  have hini' : (Cond.initialized cls).before args s' = true := vx_ot_at hW0 hvm.symm (hgood _ (List.mem_cons_of_mem _ List.mem_cons_self)) hini
  have hU' : vx_Zq Bundle.tN "UNASSIGNED_STACK" Bundle.steD A s' s'.heap := by rw [hhp]; exact vx_Zq.moved hW0.alike (hU.kept hS.2.1)
  have hN' : vx_Zq Bundle.tN "SUPPRESSED_SENTINEL" Bundle.listD A s' s'.heap := by rw [hhp]; exact vx_Zq.moved hW0.alike (hN.kept hS.2.1)
  have h : ∀ w ∈ Bundle.ownAtoms own ic cls names, w.before args s' = true := vx_own hat' (vx_isRefq hU'.1) (vx_isRefq hN'.1) hU'.2.word hN'.2.word
  have hown' : s'.vm.findClass own = some m.cls := by rw [hvm]; exact hown
  have hins : (Cond.instantiable cls 6).before args s' = true := h _ (by simp [Bundle.ownAtoms])
  obtain ⟨vm₁, cX, kX, hfX, hkX, -, -, X₁, st1⟩ := Y.newCold hexec (own := own) (C := cls) (index := ik) (n := 6) hown' hk' hins hini'
    (g := F0 m pc ls rest) rfl (by rw [hb]; exact d0) (Nat.le_refl _) (Nat.le_refl _)
  generalize hT1 : (T.setVm vm₁).pushCell { cls := cX, slots := kX.instanceTypes.map defaultValue, vm := .none } = T1 at X₁ st1
  have hcat : (Value.ref T.heap.size).category = 1 := rfl
  have hcellA : T1.heap[T.heap.size]? = some (freshCell cX kX) := by rw [← hT1]; exact State.heap_pushCell_size _ _
  have d3' : decode c.code (pc + 3) = .ok (.dup, 1) := by rw [hb]; exact d3
  have d4' : decode c.code (pc + 4) = .ok (.ldc_w is, 3) := by rw [hb]; exact d4
  have hstr' : vk_R own is text sa s' := vk_R.warm hW0 hstr
  obtain ⟨U, hsteps, hrun, hend, hW, hsame, ce, hce, hO⟩ := X₁.ctorThrowS hexec htr (own := own) (cls := cls) (names := names) (ic := ic) hown' hcls hnames h (fun x hx => nomatch hx) hfX hkX hcellA (by rw [hhp, hT]; exact Nat.le_refl _) (msg := .ref sa) rfl
    (g := { method := m, pc := pc + 7, locals := ls, stack := .ref sa :: .ref T.heap.size :: .ref T.heap.size :: rest, locked := none }) rfl hsize rfl rfl (rest := rest) rfl
    (by rw [hb]; exact d7) (by rw [hb]; exact d10) hout hRframes (by simp only [List.map_cons, List.sum_cons, hcat]; omega) hlocks
  obtain ⟨f1, f2⟩ := vx_frame hsame
  rw [hhp] at f1 f2
  have hWs : s.WarmedH U.vm := State.WarmedH.trans hW0 hW
  have hcl : s.vm.findClass cls = some ce.cls := by
    have h9 := hO.cls
    rw [hvm] at h9
    exact h9
  have hall : s.sameButNew ({ U with vm := s.vm } : State) locs mc ms := by
    subst hA
    obtain ⟨e1, e2⟩ := hsame
    rw [State.setFrames_setFrames] at e1
    have h2 : (T.setVm s.vm).sameButNew ({ U with vm := s.vm } : State) [] (0 + 1) (0 + 6) := ⟨e1, e2⟩
    have h3 := X.same.trans h2
    rw [List.append_nil] at h3
    exact h3.mono hc hs
  refine ⟨U, ?_, .threw T.heap.size, hrun, hend, Or.inr ⟨T.heap.size, rfl, cls, ce, locs, hx U hWs.alike f1 (fun q hq => f2 q hq (fun z hz => nomatch hz)), hce, hO.vm, hcl, hWs, hall, hf⟩⟩
  refine st1 _ ?_
  show Steps p.tables e below (T1.setTop { method := m, pc := pc + 3, locals := ls, stack := .ref T.heap.size :: rest, locked := none }) _
  jvm_step X₁.here [X₁.here.top, hexec, d3', Value.category]
  exact X₁.ldcStringW hexec (own := own) (text := text) (index := is) (a := sa) hown' hstr'.1 hstr'.2
    (g := { method := m, pc := pc + 4, locals := ls, stack := .ref T.heap.size :: .ref T.heap.size :: rest, locked := none }) rfl d4' _ hsteps
end Ends
section Bodies
variable {l : Launch}
theorem vx_ofW {y : MethodName} {ws ws' : List Cond} {rm : Room} {Pc : Array Value → State → Prop} {Qc : Array Value → State → Outcome → State → Prop} {XC : String → State → State → Prop} {mc ms : Nat} {free : Addr → Prop} {cc : ByteArray} {maxL : Nat} {ret : Option FieldType}
    (hy : plainName y.cls = true) (hw : ws = Cond.code y cc maxL ret :: ws')
    (body : ∀ p e s m args below meth c s₁, BodyLoose p l y (headSpec ws rm) cc maxL ret e s m args below meth c s₁ → c.maxLocals = maxL → (∀ x ∈ c.exceptionTable.toList, False) → Pc args s →
      W p l e (headSpec ws rm).room s m args below meth c s.heap [] 0 0 (vx_MQ below Qc XC args s mc ms free) (entryFrame m args maxL)) : vx_Met l y ws rm Pc Qc XC mc ms free := by
  refine MetFree.of_bodyS (code := cc) (maxLocals := maxL) (ret := ret) hy ?_ ?_
  · intro args s m h hn
    obtain ⟨meth, c, h1, h2, h3, h4, h5, h6, -, -⟩ := Cond.code_spec hn (atoms_spec (ws := ws) h _ (by rw [hw]; exact List.mem_cons_self))
    exact ⟨meth, c, h1, h2, h3, h4, h5, h6⟩
  · intro p e s m args below meth c s₁ B hml hP _
    have hh0 : s₁.heap = s.heap := by rw [B.state]; rfl
    have ht : ∀ x ∈ c.exceptionTable.toList, False := by
      obtain ⟨meth9, c9, h1, h2, -, -, -, -, h7, -⟩ := Cond.code_spec B.named (atoms_spec (ws := ws) B.pre _ (by rw [hw]; exact List.mem_cons_self))
      cases Option.some.inj (h1.symm.trans B.method)
      cases Option.some.inj (h2.symm.trans (Stand.of_body B).code)
      intro x hx
      rw [Array.isEmpty_iff.mp h7] at hx
      cases hx
    obtain ⟨t, a1, o, b1, b2, b3⟩ := body p e s m args below meth c s₁ B hml ht hP s₁ hh0 (Stand.of_body B)
    exact ⟨t, o, a1, b1, b2, b3⟩
/-- the table of a body with handlers -/
theorem vx_table {p : Program} {x y : MethodName} {S : Spec} {cc bytes : ByteArray} {maxL maxL' : Nat} {ret ret' : Option FieldType} {e : Env} {s s₁ : State} {m : MethodId} {args : Array Value} {below : List Frame} {meth : Method} {c : Code} {hh : List (Nat × Nat × Nat × Nat)}
    (B : BodyLoose p l y S cc maxL ret e s m args below meth c s₁) (h : (Cond.codeWith y bytes maxL' ret' hh).before args s = true) : c.exceptionTable.toList = tableOf hh := by
  obtain ⟨m9, meth9, c9, hn9, h1, h2, -, -, h6, -⟩ := Cond.codeWith_spec h
  cases Option.some.inj (hn9.symm.trans B.named)
  cases Option.some.inj (h1.symm.trans B.method)
  cases Option.some.inj (h2.symm.trans (Stand.of_body B).code)
  rw [← h6, table_eq]
end Bodies
end VXA
/-! ===== END ===== -/
/-! ===== BEGIN a static call of a method with an exception table ===== -/
section VXS
variable {p : Program} {l : Launch} {e : Env} {R : Room} {s : State} {m : MethodId} {args : Array Value} {below : List Frame} {meth : Method} {c : Code} {T : State} {H : Heap} {locs : List Loc} {cells slots : Nat}
abbrev vx_CSW (R : Room) (s : State) (args : Array Value) (own : String) (index : Nat) (y : MethodName) (bytes : ByteArray) (maxL : Nat) (ret : Option FieldType) (hh : List (Nat × Nat × Nat × Nat)) (ws : List Cond) (rm : Room) (mc ms n : Nat) : Prop :=
  (rm.cells = mc ∧ rm.slots = ms ∧ rm.frames + 1 ≤ R.frames ∧ 8 + (maxL + 11) + rm.locals ≤ R.locals ∧ (∀ w ∈ ws, ∀ (a' : Array Value) (U : State), s.WarmedH U.vm → w.before a' U = true) ∧ Cond.codeWith y bytes maxL ret hh ∈ ws) ∧
  (Cond.codeWith y bytes maxL ret hh).before args s = true ∧ (Cond.initialized y.cls).before args s = true ∧ (y.cls ≠ "java/lang/invoke/MethodHandle" ∧ y.cls ≠ "java/lang/invoke/VarHandle") ∧
  (∀ sig, parseMethodDescriptor y.desc = some sig → n = sig.parameters.length) ∧ (Cond.methodLink own index y).before args s = true ∧ (Cond.static y).before args s = true
theorem vx_cwSW {own : String} {index maxL mc ms : Nat} {y : MethodName} {bytes : ByteArray} {ret : Option FieldType} {hh : List (Nat × Nat × Nat × Nat)} {Ts ws ws' : List Cond} {rm : Room} (n : Nat) (ht : ∀ w ∈ Ts, w.before args s = true) (hT : GoodIn Ts (va_wsS own index y ws)) (hw : ws = Cond.codeWith y bytes maxL ret hh :: ws') (hrc : rm.cells = mc) (hrs : rm.slots = ms)
    (hd : y.cls ≠ "java/lang/invoke/MethodHandle" ∧ y.cls ≠ "java/lang/invoke/VarHandle" ∧ (parseMethodDescriptor y.desc).map (fun d => d.parameters.length) = some n) (hR : rm.frames + 1 ≤ R.frames ∧ 8 + (maxL + 11) + rm.locals ≤ R.locals) :
    vx_CSW R s args own index y bytes maxL ret hh ws rm mc ms n := by
  have ok : ∀ w ∈ va_wsS own index y ws, w.before args s = true := fun w h => ht w (hT w h).1
  have hG : GoodIn Ts ws := fun w h => hT w (by unfold va_wsS; exact List.mem_append_right _ h)
  have hc : Cond.codeWith y bytes maxL ret hh ∈ ws := by rw [hw]; exact List.mem_cons_self
  refine ⟨⟨hrc, hrs, hR.1, hR.2, pay_in ht hG, hc⟩, ht _ (hG _ hc).1, ok _ (by simp [va_wsS]), ⟨hd.1, hd.2.1⟩, fun sig h => ?_, ok _ (by simp [va_wsS]), ok _ (by simp [va_wsS])⟩
  have h2 := hd.2.2
  rw [h] at h2
  exact (Option.some.inj h2).symm
theorem vx_callSW (X : Stand p l e R s m args below meth c T locs cells slots) (hexec : p.tables.exec = Jvm.exec) {own : String} {index : Nat} {y : MethodName} {bytes : ByteArray} {maxL : Nat} {ret : Option FieldType} {hh : List (Nat × Nat × Nat × Nat)}
    (hown : s.vm.findClass own = some m.cls) (hlink : (Cond.methodLink own index y).before args s = true) (hstat : (Cond.static y).before args s = true) (hinit : (Cond.initialized y.cls).before args s = true)
    (hcode : (Cond.codeWith y bytes maxL ret hh).before args s = true) (hy : y.cls ≠ "java/lang/invoke/MethodHandle" ∧ y.cls ≠ "java/lang/invoke/VarHandle")
    {W9 : Nat} {Pre : Pt → Array Value → Prop} {Post : Pt → Array Value → Option Value → Pt → Prop} (hK : Back l R p e below s args y 3 W9 Pre Post)
    {g : JFrame} (hg : g.method = m) (hsize : g.locals.size = c.maxLocals) {argsL rest : List Value} (hlen : ∀ sig, parseMethodDescriptor y.desc = some sig → argsL.length = sig.parameters.length)
    (hstack : g.stack = argsL.reverse ++ rest) (hW : 2 * g.monitorRoom + (rest.map fun v => v.category).sum ≤ W9) (hdg : decode c.code g.pc = .ok (.invokestatic index, 3))
    (hpre : ∀ vm₁, s.WarmedH vm₁ → Pre ⟨T.setVm vm₁, locs, cells, slots⟩ argsL.toArray) :
    ∃ (v : Option Value) (vm₁ : Vm) (B : Pt), s.WarmedH vm₁ ∧ Stand p l e R s m args below meth c B.U B.locs B.cells B.slots ∧ Post ⟨T.setVm vm₁, locs, cells, slots⟩ argsL.toArray v B ∧
      ∀ target, Steps p.tables e below (B.U.setTop { g with pc := g.pc + 3, stack := v.toList ++ rest }) target → Steps p.tables e below (T.setTop g) target := by
  obtain ⟨mk, methM, cM, hnamed, hmethM, -, -, -, -, -, -, hsigM⟩ := Cond.codeWith_spec hcode
  have hstatic : methM.isStatic = true := Cond.static_spec hnamed hmethM hstat
  obtain ⟨kP, hkP, -⟩ := className_of_methodNamed hnamed
  have hinitP : kP.init = .initialized := Cond.initialized_spec (findClass_of_methodNamed hnamed) hkP hinit
  obtain ⟨vm₁, X₁, hstep₁⟩ := X.invokestatic hexec hown hlink hnamed hmethM hstatic hkP hinitP hy (g := g) hg (argsL := argsL) (rest := rest) (hlen _ hsigM) hstack hdg
  obtain ⟨v, B, X', hpost, hsteps⟩ := hK m meth c ⟨T.setVm vm₁, locs, cells, slots⟩ { g with stack := rest } (.invokestatic index) mk argsL.toArray X₁ hg hsize hdg hW (X₁.named hnamed) (hpre vm₁ X₁.warmed)
  exact ⟨v, vm₁, B, X₁.warmed, X', hpost, fun target h => hstep₁ _ fun acts => by rw [doInvoke_state]; exact hsteps.trans h⟩
theorem vx_runSW {y : MethodName} {bytes cc : ByteArray} {maxL nL mc ms n index : Nat} {ret : Option FieldType} {hh : List (Nat × Nat × Nat × Nat)} {ws : List Cond} {rm : Room} {Pc : Array Value → State → Prop} {Qc : Array Value → State → Outcome → State → Prop} {free : Addr → Prop} {Ts : List Cond} {own : String} {As rest : List Value} {g : JFrame}
    (S : CallFix p m c cc nL s args Ts own) (hM : Met l y ws rm Pc Qc mc ms free) (cw : vx_CSW R s args own index y bytes maxL ret hh ws rm mc ms n) (hp : PreS s H Pc As)
    (hg : g.method = m) (hn : As.length = n) (hsize : g.locals.size = nL) (hstack : g.stack = As.reverse ++ rest) (hW : 2 * g.monitorRoom + (rest.map fun v => v.category).sum ≤ 8) (hdg : decode cc g.pc = .ok (.invokestatic index, 3)) (hf : cells + mc ≤ R.cells ∧ slots + ms ≤ R.slots) :
    va_Run p l e R s m args below meth c H locs cells slots mc ms g rest (Qc As.toArray) (free) := by
  obtain ⟨⟨hrc, hrs, hfr, hlo, hws, hcw⟩, hcode, hini, hy, hlen, hl, hstt⟩ := cw
  have hK : Back l R p e below s args y 3 8 (PreOf R mc ms Pc) (PostOf Qc mc ms free) := va_backW (hh := hh) (bytes := bytes) (maxL := maxL) (ret := ret) hM hp.1 hrc hrs hfr hlo hws hcw (fun a' U hW => word_at hW (Or.inl (by first | rfl | simp [Cond.onTables, Cond.keeps, Cond.steady])) hini)
  obtain ⟨hx, hb, hml, ho, -⟩ := S
  intro T hT X
  obtain ⟨v, vm₁, ⟨U', l2, c2, s2⟩, hW₁, X', ⟨g', mk, t, L, e1, e2, hq, h1, hL, h2, h3⟩, st⟩ := vx_callSW X hx (hh := hh) (bytes := bytes) (maxL := maxL) (ret := ret) ho hl hstt hini hcode hy hK hg (hsize.trans hml.symm) (argsL := As) (rest := rest) (fun sig h => hn.trans (hlen sig h)) hstack hW (by rw [hb]; exact hdg)
    (fun vm₁ hW₁ => ⟨hf.1, hf.2, hp.2 (T.setVm vm₁) hT hW₁⟩)
  dsimp only [Pt.U, Pt.locs, Pt.cells, Pt.slots] at X' e1 e2 h1 h2 h3 st
  subst h1; subst h2; subst h3
  exact ⟨v, (T.setVm vm₁).calling g' mk As.toArray, t, U', L, hT, X', hL, e1, e2, hq, st⟩
/-- a thing of a world lies in the heap -/
theorem vx_lt {D : va_G} {cl : List vw_C} {ws : va_W} {H1 : Heap} (h : va_P D cl ws H1) {k : Nat} {q : Nat × va_E} (hk : ws[k]? = some q) : q.1 < H1.size := (h k q hk).lt
end VXS
/-! ===== END ===== -/
/-! ===== BEGIN methods with a table of their own: called by a name, returning or throwing ===== -/
section VXH
/-! vx_backW, vx_callVX, vx_callSX, vx_callVW, vx_runVW, vx_runVX, vx_runSX, vx_ofWH follow the same proofs as their sisters above (Free/Laws.lean, Shelf42/LK1.lean); vx_outP calls Shelf42/NT130.lean (outThrough). -/
section
variable {l : Launch} {R : Room} {p : Program} {e : Env} {below : List Frame} {s : State} {sargs : Array Value} {y : MethodName} {len W9 : Nat}
theorem vx_backW {ws : List Cond} {rm : Room} {Pc : Array Value → State → Prop} {Qc : Array Value → State → Outcome → State → Prop} {XC : String → State → State → Prop} {mc ms : Nat} {free : Addr → Prop} {bytes : ByteArray} {maxL : Nat} {ret : Option FieldType} {hh : List (Nat × Nat × Nat × Nat)}
    (hM : vx_Met l y ws rm Pc Qc XC mc ms free) (hblind : FrameBlind Pc) (hrc : rm.cells = mc) (hrs : rm.slots = ms)
    (hframes : rm.frames + 1 ≤ R.frames) (hlocals : W9 + (maxL + 11) + rm.locals ≤ R.locals)
    (hws : ∀ w ∈ ws, ∀ a' U, s.WarmedH U.vm → w.before a' U = true) (hcode : Cond.codeWith y bytes maxL ret hh ∈ ws) (hinit : ∀ a' U, s.WarmedH U.vm → (Cond.initialized y.cls).before a' U = true) :
    vx_Back l R p e below s sargs y len W9 (PreOf R mc ms Pc) (PostOf Qc mc ms free) (vx_Post XC mc ms free) := by
  intro m meth c A g ig mk a X hg hsize hdg hW hn hp
  have h1 : (headSpec ws rm).pre.before a A.U = true := atoms_intro fun w hw => hws w hw _ _ X.warmed
  have h2 : (Cond.codeWith y bytes maxL ret hh).before a A.U = true := hws _ hcode _ _ X.warmed
  have h3 : (Cond.initialized y.cls).before a A.U = true := hinit _ _ X.warmed
  have h4 : A.cells + (headSpec ws rm).room.cells ≤ R.cells := by rw [show (headSpec ws rm).room.cells = mc from hrc]; exact hp.1
  have h5 : A.slots + (headSpec ws rm).room.slots ≤ R.slots := by rw [show (headSpec ws rm).room.slots = ms from hrs]; exact hp.2.1
  have hPc : Pc a (A.U.calling g mk a) := hblind _ _ _ _ hp.2.2
  obtain ⟨U, Ls, c0, s0⟩ := A
  dsimp only [Pt.U, Pt.locs, Pt.cells, Pt.slots] at h1 h2 h3 h4 h5 X hn hPc ⊢
  obtain ⟨m9, methY, cY, hn9, hmY, hcY, -, hlY, -⟩ := Cond.codeWith_spec h2
  cases Option.some.inj (hn9.symm.trans hn)
  obtain ⟨kY, hkY, -⟩ := className_of_methodNamed hn
  have hinitY : kY.init = .initialized := Cond.initialized_spec (findClass_of_methodNamed hn) hkY h3
  have h : At U g.method c below := by rw [hg]; exact X.here
  have hlocals9 : W9 + (maxL + 11) + (headSpec ws rm).room.locals ≤ R.locals := hlocals
  have happ : (headSpec ws rm).appliesLoose y e.platform (U.calling g mk a) = true :=
    Spec.appliesLoose_calling (g := g) h hdg hn hkY hinitY
      (X.room_calling (g := g) (R' := (headSpec ws rm).room) hsize hmY hcY hframes (by rw [hlY]; omega) h4 h5) h1
  obtain ⟨mid, hmid⟩ := h.above
  have hfr : (U.setTop g).frames = (.java g :: mid) ++ below := by rw [State.frames_setTop' g h.top, hmid]; rfl
  obtain ⟨o, s₂, hsteps, -, hend, hq⟩ := Steps.callFree hM p X.admits X.cas X.clock (acts := []) hfr happ hPc trivial
  have hq' : vx_Q Qc XC mc ms free a (U.calling g mk a) o s₂ := hq
  rw [State.frames_setTop' g h.top] at hend
  obtain ⟨g₀, hg0⟩ := Option.isSome_iff_exists.mp h.top
  obtain ⟨r, hr⟩ := State.topJava?_eq_some.mp hg0
  have hr' : (({ U with heap := s₂.heap, slotsUsed := s₂.slotsUsed } : State).setVm s₂.vm).frames = .java g₀ :: r := hr
  rcases hq' with ⟨hqc, L, hfe, hL⟩ | ⟨q, rfl, E, ce, L, hx, hce, hcv, hcl, hW₂, hsm, hL⟩
  · obtain ⟨⟨v, rfl⟩, hW₂, e2, q2, q3, q4, q5, q6⟩ := id hfe
    have e3 : s₂ = ({ (U.calling g mk a).setFrames s₂.frames with heap := s₂.heap, slotsUsed := s₂.slotsUsed } : State).setVm s₂.vm := by
      have : s₂ = ({ s₂ with vm := (U.calling g mk a).vm } : State).setVm s₂.vm := rfl
      rw [e2] at this
      exact this
    obtain ⟨c₂, i₂, len₂, hc₂, hd₂, hf₂⟩ := hend
    have hW' : U.WarmedH s₂.vm := hW₂
    have hcc : c₂ = c := by
      have h1 : s₂.code? g.method = U.code? g.method := by
        rw [State.code?_eq, State.code?_eq, hW'.alike.method?]
      exact Option.some.inj (hc₂.symm.trans (h1.trans h.code))
    subst hcc
    have hlen : len₂ = len := by rw [hdg] at hd₂; cases hd₂; rfl
    subst hlen
    have hs₂ : s₂ = (({ U with heap := s₂.heap, slotsUsed := s₂.slotsUsed } : State).setVm s₂.vm).setTop { g with pc := g.pc + len₂, stack := v.toList ++ g.stack } := by
      refine e3.trans ?_
      rw [hf₂, State.calling_eq h.top, State.setFrames_setFrames, State.setTop_of_frames _ hr', hr]
      rfl
    have hsame : U.sameButNew ({ U with heap := s₂.heap, slotsUsed := s₂.slotsUsed } : State) L mc ms := by
      refine ⟨?_, q2, q3, q4, q5, q6⟩
      obtain ⟨t, ht, -⟩ := State.frames_cons hr
      show ({ U with heap := s₂.heap, slotsUsed := s₂.slotsUsed } : State) = { U.setFrames U.frames with heap := s₂.heap, slotsUsed := s₂.slotsUsed }
      rw [State.setFrames_self ht]
    subst hg
    refine Or.inl ⟨v, ⟨(({ U with heap := s₂.heap, slotsUsed := s₂.slotsUsed } : State).setVm s₂.vm), Ls ++ L, c0 + mc, s0 + ms⟩,
      ⟨X.admits, X.cas, X.clock, X.frames, X.room, X.hears, X.method, X.code, (X.here.setHeapUsed s₂.heap s₂.slotsUsed).setVm hW'.alike, X.tail, State.WarmedH.trans X.warmed hW', X.limits, X.bytes, X.same.trans (hsame.setVm s.vm)⟩,
      ⟨g, mk, s₂, L, rfl, rfl, hqc, rfl, hL, rfl, rfl⟩, ?_⟩
    show Steps p.tables e below _ ((({ U with heap := s₂.heap, slotsUsed := s₂.slotsUsed } : State).setVm s₂.vm).setTop { g with pc := g.pc + len₂, stack := v.toList ++ g.stack })
    rw [← hs₂]
    exact hsteps
  · obtain ⟨e2, q2, q3, q4, q5, q6⟩ := id hsm
    have e3 : s₂ = ({ (U.calling g mk a).setFrames s₂.frames with heap := s₂.heap, slotsUsed := s₂.slotsUsed } : State).setVm s₂.vm := by
      have : s₂ = ({ s₂ with vm := (U.calling g mk a).vm } : State).setVm s₂.vm := rfl
      rw [e2] at this
      exact this
    have hf₂ : s₂.frames = .throwing q :: .java g :: U.frames.tail := hend
    have hW' : U.WarmedH s₂.vm := hW₂
    have hs₂ : s₂ = ((({ U with heap := s₂.heap, slotsUsed := s₂.slotsUsed } : State).setVm s₂.vm).setTop g).pushFrame (.throwing q) := by
      refine e3.trans ?_
      rw [hf₂, State.calling_eq h.top, State.setFrames_setFrames, State.pushFrame, State.frames_setTop _ hr', State.setTop_of_frames _ hr', State.setFrames_setFrames, hr]
      rfl
    have hsame : U.sameButNew ({ U with heap := s₂.heap, slotsUsed := s₂.slotsUsed } : State) L mc ms := by
      refine ⟨?_, q2, q3, q4, q5, q6⟩
      obtain ⟨t, ht, -⟩ := State.frames_cons hr
      show ({ U with heap := s₂.heap, slotsUsed := s₂.slotsUsed } : State) = { U.setFrames U.frames with heap := s₂.heap, slotsUsed := s₂.slotsUsed }
      rw [State.setFrames_self ht]
    subst hg
    refine Or.inr ⟨q, ⟨(({ U with heap := s₂.heap, slotsUsed := s₂.slotsUsed } : State).setVm s₂.vm), Ls ++ L, c0 + mc, s0 + ms⟩,
      ⟨X.admits, X.cas, X.clock, X.frames, X.room, X.hears, X.method, X.code, (X.here.setHeapUsed s₂.heap s₂.slotsUsed).setVm hW'.alike, X.tail, State.WarmedH.trans X.warmed hW', X.limits, X.bytes, X.same.trans (hsame.setVm s.vm)⟩,
      ⟨g, mk, s₂, L, E, ce, rfl, rfl, hx, hce, hcv, hcl, rfl, hL, rfl, rfl⟩, ?_⟩
    show Steps p.tables e below _ (((({ U with heap := s₂.heap, slotsUsed := s₂.slotsUsed } : State).setVm s₂.vm).setTop g).pushFrame (.throwing q))
    rw [← hs₂]
    exact hsteps
end
variable {p : Program} {l : Launch} {e : Env} {R : Room} {s : State} {m : MethodId} {args : Array Value} {below : List Frame} {meth : Method} {c : Code} {T : State} {H : Heap} {locs : List Loc} {cells slots : Nat}
theorem vx_callVX (X : Stand p l e R s m args below meth c T locs cells slots) (hexec : p.tables.exec = Jvm.exec) {own C : String} {index : Nat} {y : MethodName} {bytes : ByteArray} {maxL : Nat} {ret : Option FieldType} {hh : List (Nat × Nat × Nat × Nat)}
    (hown : s.vm.findClass own = some m.cls) (hlink : (Cond.methodLink own index y).before args s = true) (hinst : (Cond.instanceMethod y).before args s = true) (hsel : (Cond.selects C y y).before args s = true)
    (hcode : (Cond.codeWith y bytes maxL ret hh).before args s = true) (hy : y.cls ≠ "java/lang/invoke/MethodHandle" ∧ y.cls ≠ "java/lang/invoke/VarHandle")
    {W9 : Nat} {Pre : Pt → Array Value → Prop} {Post : Pt → Array Value → Option Value → Pt → Prop} {PostX : Pt → Array Value → Addr → Pt → Prop} (hK : vx_Back l R p e below s args y 3 W9 Pre Post PostX)
    {b : Addr} {cellB : Cell} (hcell : T.heap[b]? = some cellB) (hobj : cellB.vm.isStatics = false) (hcls : s.vm.findClass C = some cellB.cls)
    {g : JFrame} (hg : g.method = m) (hsize : g.locals.size = c.maxLocals) {argsL rest : List Value} (hlen : ∀ sig, parseMethodDescriptor y.desc = some sig → argsL.length = sig.parameters.length)
    (hstack : g.stack = argsL.reverse ++ .ref b :: rest) (hW : 2 * g.monitorRoom + (rest.map fun v => v.category).sum ≤ W9) (hdg : decode c.code g.pc = .ok (.invokevirtual index, 3))
    (hpre : ∀ vm₁, s.WarmedH vm₁ → Pre ⟨T.setVm vm₁, locs, cells, slots⟩ (Value.ref b :: argsL).toArray) :
    (∃ (v : Option Value) (vm₁ : Vm) (B : Pt), s.WarmedH vm₁ ∧ Stand p l e R s m args below meth c B.U B.locs B.cells B.slots ∧ Post ⟨T.setVm vm₁, locs, cells, slots⟩ (Value.ref b :: argsL).toArray v B ∧
      ∀ target, Steps p.tables e below (B.U.setTop { g with pc := g.pc + 3, stack := v.toList ++ rest }) target → Steps p.tables e below (T.setTop g) target) ∨
    (∃ (q : Addr) (vm₁ : Vm) (B : Pt), s.WarmedH vm₁ ∧ Stand p l e R s m args below meth c B.U B.locs B.cells B.slots ∧ PostX ⟨T.setVm vm₁, locs, cells, slots⟩ (Value.ref b :: argsL).toArray q B ∧
      Steps p.tables e below (T.setTop g) ((B.U.setTop { g with stack := rest }).pushFrame (.throwing q))) := by
  obtain ⟨mk, methM, hnamed, hmethM, hstM, habM⟩ := Cond.instanceMethod_spec hinst
  obtain ⟨m8, methM', cM, hn8, hmethM', -, -, -, -, -, -, hsigM⟩ := Cond.codeWith_spec hcode
  cases Option.some.inj (hn8.symm.trans hnamed)
  cases hmethM.symm.trans hmethM'
  obtain ⟨c2, r2, m2, q1, q2, q3, q4, kP, hkP, hkPi⟩ := Cond.selects_spec hsel
  cases hcls.symm.trans q1
  cases (State.methodFound?_of_named hnamed hy).symm.trans q2
  cases hnamed.symm.trans q3
  have hselP : selectMethod e.platform s.vm cellB.cls mk = .method mk := by rw [Launch.admits_selectMethod X.admits]; exact q4
  obtain ⟨vm₁, X₁, hstep₁⟩ := X.invokevirtual hexec hown hlink hnamed hmethM hstM hkP hkPi hy (a := b) (cell := cellB) hcell
    (fun z h => by rw [h] at hobj; cases hobj) hselP hmethM habM hkP hkPi (g := g) hg (argsL := argsL) (rest := rest) (hlen _ hsigM) hstack hdg
  rcases hK m meth c ⟨T.setVm vm₁, locs, cells, slots⟩ { g with stack := rest } (.invokevirtual index) mk (Value.ref b :: argsL).toArray X₁ hg hsize hdg hW (X₁.named hnamed) (hpre vm₁ X₁.warmed) with ⟨v, B, X', hpost, hsteps⟩ | ⟨q, B, X', hpost, hsteps⟩
  · exact Or.inl ⟨v, vm₁, B, X₁.warmed, X', hpost, fun target h => hstep₁ _ fun acts => by rw [doInvoke_state]; exact hsteps.trans h⟩
  · exact Or.inr ⟨q, vm₁, B, X₁.warmed, X', hpost, hstep₁ _ fun acts => by rw [doInvoke_state]; exact hsteps⟩
theorem vx_callSX (X : Stand p l e R s m args below meth c T locs cells slots) (hexec : p.tables.exec = Jvm.exec) {own : String} {index : Nat} {y : MethodName} {bytes : ByteArray} {maxL : Nat} {ret : Option FieldType} {hh : List (Nat × Nat × Nat × Nat)}
    (hown : s.vm.findClass own = some m.cls) (hlink : (Cond.methodLink own index y).before args s = true) (hstat : (Cond.static y).before args s = true) (hinit : (Cond.initialized y.cls).before args s = true)
    (hcode : (Cond.codeWith y bytes maxL ret hh).before args s = true) (hy : y.cls ≠ "java/lang/invoke/MethodHandle" ∧ y.cls ≠ "java/lang/invoke/VarHandle")
    {W9 : Nat} {Pre : Pt → Array Value → Prop} {Post : Pt → Array Value → Option Value → Pt → Prop} {PostX : Pt → Array Value → Addr → Pt → Prop} (hK : vx_Back l R p e below s args y 3 W9 Pre Post PostX)
    {g : JFrame} (hg : g.method = m) (hsize : g.locals.size = c.maxLocals) {argsL rest : List Value} (hlen : ∀ sig, parseMethodDescriptor y.desc = some sig → argsL.length = sig.parameters.length)
    (hstack : g.stack = argsL.reverse ++ rest) (hW : 2 * g.monitorRoom + (rest.map fun v => v.category).sum ≤ W9) (hdg : decode c.code g.pc = .ok (.invokestatic index, 3))
    (hpre : ∀ vm₁, s.WarmedH vm₁ → Pre ⟨T.setVm vm₁, locs, cells, slots⟩ argsL.toArray) :
    (∃ (v : Option Value) (vm₁ : Vm) (B : Pt), s.WarmedH vm₁ ∧ Stand p l e R s m args below meth c B.U B.locs B.cells B.slots ∧ Post ⟨T.setVm vm₁, locs, cells, slots⟩ argsL.toArray v B ∧
      ∀ target, Steps p.tables e below (B.U.setTop { g with pc := g.pc + 3, stack := v.toList ++ rest }) target → Steps p.tables e below (T.setTop g) target) ∨
    (∃ (q : Addr) (vm₁ : Vm) (B : Pt), s.WarmedH vm₁ ∧ Stand p l e R s m args below meth c B.U B.locs B.cells B.slots ∧ PostX ⟨T.setVm vm₁, locs, cells, slots⟩ argsL.toArray q B ∧
      Steps p.tables e below (T.setTop g) ((B.U.setTop { g with stack := rest }).pushFrame (.throwing q))) := by
  obtain ⟨mk, methM, cM, hnamed, hmethM, -, -, -, -, -, -, hsigM⟩ := Cond.codeWith_spec hcode
  have hstatic : methM.isStatic = true := Cond.static_spec hnamed hmethM hstat
  obtain ⟨kP, hkP, -⟩ := className_of_methodNamed hnamed
  have hinitP : kP.init = .initialized := Cond.initialized_spec (findClass_of_methodNamed hnamed) hkP hinit
  obtain ⟨vm₁, X₁, hstep₁⟩ := X.invokestatic hexec hown hlink hnamed hmethM hstatic hkP hinitP hy (g := g) hg (argsL := argsL) (rest := rest) (hlen _ hsigM) hstack hdg
  rcases hK m meth c ⟨T.setVm vm₁, locs, cells, slots⟩ { g with stack := rest } (.invokestatic index) mk argsL.toArray X₁ hg hsize hdg hW (X₁.named hnamed) (hpre vm₁ X₁.warmed) with ⟨v, B, X', hpost, hsteps⟩ | ⟨q, B, X', hpost, hsteps⟩
  · exact Or.inl ⟨v, vm₁, B, X₁.warmed, X', hpost, fun target h => hstep₁ _ fun acts => by rw [doInvoke_state]; exact hsteps.trans h⟩
  · exact Or.inr ⟨q, vm₁, B, X₁.warmed, X', hpost, hstep₁ _ fun acts => by rw [doInvoke_state]; exact hsteps⟩
theorem vx_callVW (X : Stand p l e R s m args below meth c T locs cells slots) (hexec : p.tables.exec = Jvm.exec) {own C : String} {index : Nat} {y : MethodName} {bytes : ByteArray} {maxL : Nat} {ret : Option FieldType} {hh : List (Nat × Nat × Nat × Nat)}
    (hown : s.vm.findClass own = some m.cls) (hlink : (Cond.methodLink own index y).before args s = true) (hinst : (Cond.instanceMethod y).before args s = true) (hsel : (Cond.selects C y y).before args s = true)
    (hcode : (Cond.codeWith y bytes maxL ret hh).before args s = true) (hy : y.cls ≠ "java/lang/invoke/MethodHandle" ∧ y.cls ≠ "java/lang/invoke/VarHandle")
    {W9 : Nat} {Pre : Pt → Array Value → Prop} {Post : Pt → Array Value → Option Value → Pt → Prop} (hK : Back l R p e below s args y 3 W9 Pre Post)
    {b : Addr} {cellB : Cell} (hcell : T.heap[b]? = some cellB) (hobj : cellB.vm.isStatics = false) (hcls : s.vm.findClass C = some cellB.cls)
    {g : JFrame} (hg : g.method = m) (hsize : g.locals.size = c.maxLocals) {argsL rest : List Value} (hlen : ∀ sig, parseMethodDescriptor y.desc = some sig → argsL.length = sig.parameters.length)
    (hstack : g.stack = argsL.reverse ++ .ref b :: rest) (hW : 2 * g.monitorRoom + (rest.map fun v => v.category).sum ≤ W9) (hdg : decode c.code g.pc = .ok (.invokevirtual index, 3))
    (hpre : ∀ vm₁, s.WarmedH vm₁ → Pre ⟨T.setVm vm₁, locs, cells, slots⟩ (Value.ref b :: argsL).toArray) :
    ∃ (v : Option Value) (vm₁ : Vm) (B : Pt), s.WarmedH vm₁ ∧ Stand p l e R s m args below meth c B.U B.locs B.cells B.slots ∧ Post ⟨T.setVm vm₁, locs, cells, slots⟩ (Value.ref b :: argsL).toArray v B ∧
      ∀ target, Steps p.tables e below (B.U.setTop { g with pc := g.pc + 3, stack := v.toList ++ rest }) target → Steps p.tables e below (T.setTop g) target := by
  obtain ⟨mk, methM, hnamed, hmethM, hstM, habM⟩ := Cond.instanceMethod_spec hinst
  obtain ⟨m8, methM', cM, hn8, hmethM', -, -, -, -, -, -, hsigM⟩ := Cond.codeWith_spec hcode
  cases Option.some.inj (hn8.symm.trans hnamed)
  cases hmethM.symm.trans hmethM'
  obtain ⟨c2, r2, m2, q1, q2, q3, q4, kP, hkP, hkPi⟩ := Cond.selects_spec hsel
  cases hcls.symm.trans q1
  cases (State.methodFound?_of_named hnamed hy).symm.trans q2
  cases hnamed.symm.trans q3
  have hselP : selectMethod e.platform s.vm cellB.cls mk = .method mk := by rw [Launch.admits_selectMethod X.admits]; exact q4
  obtain ⟨vm₁, X₁, hstep₁⟩ := X.invokevirtual hexec hown hlink hnamed hmethM hstM hkP hkPi hy (a := b) (cell := cellB) hcell
    (fun z h => by rw [h] at hobj; cases hobj) hselP hmethM habM hkP hkPi (g := g) hg (argsL := argsL) (rest := rest) (hlen _ hsigM) hstack hdg
  obtain ⟨v, B, X', hpost, hsteps⟩ := hK m meth c ⟨T.setVm vm₁, locs, cells, slots⟩ { g with stack := rest } (.invokevirtual index) mk (Value.ref b :: argsL).toArray X₁ hg hsize hdg hW (X₁.named hnamed) (hpre vm₁ X₁.warmed)
  exact ⟨v, vm₁, B, X₁.warmed, X', hpost, fun target h => hstep₁ _ fun acts => by rw [doInvoke_state]; exact hsteps.trans h⟩
abbrev vx_CVW (R : Room) (s : State) (args : Array Value) (own C : String) (index : Nat) (y : MethodName) (bytes : ByteArray) (maxL : Nat) (ret : Option FieldType) (hh : List (Nat × Nat × Nat × Nat)) (ws : List Cond) (rm : Room) (mc ms n : Nat) : Prop :=
  (rm.cells = mc ∧ rm.slots = ms ∧ rm.frames + 1 ≤ R.frames ∧ 8 + (maxL + 11) + rm.locals ≤ R.locals ∧ (∀ w ∈ ws, ∀ (a' : Array Value) (U : State), s.WarmedH U.vm → w.before a' U = true) ∧ Cond.codeWith y bytes maxL ret hh ∈ ws) ∧
  (Cond.codeWith y bytes maxL ret hh).before args s = true ∧ (Cond.initialized y.cls).before args s = true ∧ (y.cls ≠ "java/lang/invoke/MethodHandle" ∧ y.cls ≠ "java/lang/invoke/VarHandle") ∧
  (∀ sig, parseMethodDescriptor y.desc = some sig → n = sig.parameters.length) ∧ (Cond.methodLink own index y).before args s = true ∧ (Cond.instanceMethod y).before args s = true ∧ (Cond.selects C y y).before args s = true
theorem vx_cwVW {own C : String} {index maxL mc ms : Nat} {y : MethodName} {bytes : ByteArray} {ret : Option FieldType} {hh : List (Nat × Nat × Nat × Nat)} {Ts ws ws' : List Cond} {rm : Room} (n : Nat) (ht : ∀ w ∈ Ts, w.before args s = true) (hT : GoodIn Ts (wsV own index C y ws)) (hw : ws = Cond.codeWith y bytes maxL ret hh :: ws') (hrc : rm.cells = mc) (hrs : rm.slots = ms)
    (hd : y.cls = C ∧ y.cls ≠ "java/lang/invoke/MethodHandle" ∧ y.cls ≠ "java/lang/invoke/VarHandle" ∧ (parseMethodDescriptor y.desc).map (fun d => d.parameters.length) = some n) (hR : rm.frames + 1 ≤ R.frames ∧ 8 + (maxL + 11) + rm.locals ≤ R.locals) :
    vx_CVW R s args own C index y bytes maxL ret hh ws rm mc ms n := by
  obtain ⟨hC, hd⟩ := hd
  subst hC
  have ok : ∀ w ∈ wsV own index y.cls y ws, w.before args s = true := fun w h => ht w (hT w h).1
  have hG : GoodIn Ts ws := fun w h => hT w (by unfold wsV; exact List.mem_append_right _ h)
  have hc : Cond.codeWith y bytes maxL ret hh ∈ ws := by rw [hw]; exact List.mem_cons_self
  refine ⟨⟨hrc, hrs, hR.1, hR.2, pay_in ht hG, hc⟩, ht _ (hG _ hc).1, ok _ (by simp [wsV]), ⟨hd.1, hd.2.1⟩, fun sig h => ?_, ok _ (by simp [wsV]), ok _ (by simp [wsV]), ok _ (by simp [wsV])⟩
  have h2 := hd.2.2
  rw [h] at h2
  exact (Option.some.inj h2).symm
theorem vx_runVW {y : MethodName} {bytes cc : ByteArray} {maxL nL mc ms n index : Nat} {ret : Option FieldType} {hh : List (Nat × Nat × Nat × Nat)} {ws : List Cond} {rm : Room} {Pc : Array Value → State → Prop} {Qc : Array Value → State → Outcome → State → Prop} {free : Addr → Prop} {Ts : List Cond} {own C : String} {b : Addr} {As rest : List Value} {g : JFrame}
    (S : CallFix p m c cc nL s args Ts own) (hM : Met l y ws rm Pc Qc mc ms free) (cw : vx_CVW R s args own C index y bytes maxL ret hh ws rm mc ms n) (hp : PreV s H C b Pc As)
    (hg : g.method = m) (hn : As.length = n) (hsize : g.locals.size = nL) (hstack : g.stack = As.reverse ++ .ref b :: rest) (hW : 2 * g.monitorRoom + (rest.map fun v => v.category).sum ≤ 8) (hdg : decode cc g.pc = .ok (.invokevirtual index, 3)) (hf : cells + mc ≤ R.cells ∧ slots + ms ≤ R.slots) :
    va_Run p l e R s m args below meth c H locs cells slots mc ms g rest (Qc (Value.ref b :: As).toArray) free := by
  obtain ⟨⟨hrc, hrs, hfr, hlo, hws, hcw⟩, hcode, hini, hy, hlen, hl, hin, hse⟩ := cw
  have hK : Back l R p e below s args y 3 8 (PreOf R mc ms Pc) (PostOf Qc mc ms free) := va_backW (hh := hh) (bytes := bytes) (maxL := maxL) (ret := ret) hM hp.1 hrc hrs hfr hlo hws hcw (fun a' U hW => word_at hW (Or.inl (by first | rfl | simp [Cond.onTables, Cond.keeps, Cond.steady])) hini)
  obtain ⟨hx, hb, hml, ho, -⟩ := S
  obtain ⟨-, ⟨cellB, hcB, hoB, hclB⟩, hPc⟩ := hp
  intro T hT X
  obtain ⟨v, vm₁, ⟨U', l2, c2, s2⟩, hW₁, X', ⟨g', mk, t, L, e1, e2, hq, h1, hL, h2, h3⟩, st⟩ := vx_callVW X hx (C := C) (hh := hh) (bytes := bytes) (maxL := maxL) (ret := ret) ho hl hin hse hcode hy hK (by rw [hT]; exact hcB) hoB hclB hg (hsize.trans hml.symm) (argsL := As) (rest := rest) (fun sig h => hn.trans (hlen sig h)) hstack hW (by rw [hb]; exact hdg)
    (fun vm₁ hW₁ => ⟨hf.1, hf.2, hPc (T.setVm vm₁) hT hW₁⟩)
  dsimp only [Pt.U, Pt.locs, Pt.cells, Pt.slots] at X' e1 e2 h1 h2 h3 st
  subst h1; subst h2; subst h3
  exact ⟨v, (T.setVm vm₁).calling g' mk (Value.ref b :: As).toArray, t, U', L, hT, X', hL, e1, e2, hq, st⟩
section
variable {y : MethodName} {bytes cc : ByteArray} {maxL nL mc ms n index : Nat} {ret : Option FieldType} {ws : List Cond} {rm : Room} {Pc : Array Value → State → Prop} {Qc : Array Value → State → Outcome → State → Prop} {XC : String → State → State → Prop} {free : Addr → Prop} {Ts : List Cond} {own C : String} {b : Addr} {As rest : List Value} {g : JFrame}
theorem vx_runVX {hh : List (Nat × Nat × Nat × Nat)} (S : CallFix p m c cc nL s args Ts own) (hM : vx_Met l y ws rm Pc Qc XC mc ms free) (cw : vx_CVW R s args own C index y bytes maxL ret hh ws rm mc ms n) (hp : PreV s H C b Pc As)
    (hg : g.method = m) (hn : As.length = n) (hsize : g.locals.size = nL) (hstack : g.stack = As.reverse ++ .ref b :: rest) (hW : 2 * g.monitorRoom + (rest.map fun v => v.category).sum ≤ 8) (hdg : decode cc g.pc = .ok (.invokevirtual index, 3)) (hf : cells + mc ≤ R.cells ∧ slots + ms ≤ R.slots) :
    vx_Run p l e R s m args below meth c H locs cells slots mc ms g rest (Qc (Value.ref b :: As).toArray) XC free := by
  obtain ⟨⟨hrc, hrs, hfr, hlo, hws, hcw⟩, hcode, hini, hy, hlen, hl, hin, hse⟩ := cw
  have hK : vx_Back l R p e below s args y 3 8 (PreOf R mc ms Pc) (PostOf Qc mc ms free) (vx_Post XC mc ms free) := vx_backW (hh := hh) (bytes := bytes) (maxL := maxL) (ret := ret) hM hp.1 hrc hrs hfr hlo hws hcw (fun a' U hW => word_at hW (Or.inl (by first | rfl | simp [Cond.onTables, Cond.keeps, Cond.steady])) hini)
  obtain ⟨hx, hb, hml, ho, -⟩ := S
  obtain ⟨-, ⟨cellB, hcB, hoB, hclB⟩, hPc⟩ := hp
  intro T hT X
  rcases vx_callVX X hx (C := C) (hh := hh) (bytes := bytes) (maxL := maxL) (ret := ret) ho hl hin hse hcode hy hK (by rw [hT]; exact hcB) hoB hclB hg (hsize.trans hml.symm) (argsL := As) (rest := rest) (fun sig h => hn.trans (hlen sig h)) hstack hW (by rw [hb]; exact hdg)
    (fun vm₁ hW₁ => ⟨hf.1, hf.2, hPc (T.setVm vm₁) hT hW₁⟩) with ⟨v, vm₁, ⟨U', l2, c2, s2⟩, hW₁, X', ⟨g', mk, t, L, e1, e2, hq, h1, hL, h2, h3⟩, st⟩ | ⟨q, vm₁, ⟨U', l2, c2, s2⟩, hW₁, X', ⟨g', mk, t, L, E, ce, e1, e2, hq, hce, hcv, hcl, h1, hL, h2, h3⟩, st⟩
  · dsimp only [Pt.U, Pt.locs, Pt.cells, Pt.slots] at X' e1 e2 h1 h2 h3 st
    subst h1; subst h2; subst h3
    exact Or.inl ⟨v, (T.setVm vm₁).calling g' mk (Value.ref b :: As).toArray, t, U', L, hT, X', hL, e1, e2, hq, st⟩
  · dsimp only [Pt.U, Pt.locs, Pt.cells, Pt.slots] at X' e1 e2 h1 h2 h3 st hcl
    subst h1; subst h2; subst h3
    exact Or.inr ⟨q, (T.setVm vm₁).calling g' mk (Value.ref b :: As).toArray, t, U', L, E, ce, hT, X', hL, e1, e2, hq, hce, hcv, vx_cls hW₁ hcl, st⟩
theorem vx_runSX {hh : List (Nat × Nat × Nat × Nat)} (S : CallFix p m c cc nL s args Ts own) (hM : vx_Met l y ws rm Pc Qc XC mc ms free) (cw : vx_CSW R s args own index y bytes maxL ret hh ws rm mc ms n) (hp : PreS s H Pc As)
    (hg : g.method = m) (hn : As.length = n) (hsize : g.locals.size = nL) (hstack : g.stack = As.reverse ++ rest) (hW : 2 * g.monitorRoom + (rest.map fun v => v.category).sum ≤ 8) (hdg : decode cc g.pc = .ok (.invokestatic index, 3)) (hf : cells + mc ≤ R.cells ∧ slots + ms ≤ R.slots) :
    vx_Run p l e R s m args below meth c H locs cells slots mc ms g rest (Qc As.toArray) XC free := by
  obtain ⟨⟨hrc, hrs, hfr, hlo, hws, hcw⟩, hcode, hini, hy, hlen, hl, hstt⟩ := cw
  have hK : vx_Back l R p e below s args y 3 8 (PreOf R mc ms Pc) (PostOf Qc mc ms free) (vx_Post XC mc ms free) := vx_backW (hh := hh) (bytes := bytes) (maxL := maxL) (ret := ret) hM hp.1 hrc hrs hfr hlo hws hcw (fun a' U hW => word_at hW (Or.inl (by first | rfl | simp [Cond.onTables, Cond.keeps, Cond.steady])) hini)
  obtain ⟨hx, hb, hml, ho, -⟩ := S
  intro T hT X
  rcases vx_callSX X hx (hh := hh) (bytes := bytes) (maxL := maxL) (ret := ret) ho hl hstt hini hcode hy hK hg (hsize.trans hml.symm) (argsL := As) (rest := rest) (fun sig h => hn.trans (hlen sig h)) hstack hW (by rw [hb]; exact hdg)
    (fun vm₁ hW₁ => ⟨hf.1, hf.2, hp.2 (T.setVm vm₁) hT hW₁⟩) with ⟨v, vm₁, ⟨U', l2, c2, s2⟩, hW₁, X', ⟨g', mk, t, L, e1, e2, hq, h1, hL, h2, h3⟩, st⟩ | ⟨q, vm₁, ⟨U', l2, c2, s2⟩, hW₁, X', ⟨g', mk, t, L, E, ce, e1, e2, hq, hce, hcv, hcl, h1, hL, h2, h3⟩, st⟩
  · dsimp only [Pt.U, Pt.locs, Pt.cells, Pt.slots] at X' e1 e2 h1 h2 h3 st
    subst h1; subst h2; subst h3
    exact Or.inl ⟨v, (T.setVm vm₁).calling g' mk As.toArray, t, U', L, hT, X', hL, e1, e2, hq, st⟩
  · dsimp only [Pt.U, Pt.locs, Pt.cells, Pt.slots] at X' e1 e2 h1 h2 h3 st hcl
    subst h1; subst h2; subst h3
    exact Or.inr ⟨q, (T.setVm vm₁).calling g' mk As.toArray, t, U', L, E, ce, hT, X', hL, e1, e2, hq, hce, hcv, vx_cls hW₁ hcl, st⟩
end
end VXH
theorem vx_ofWH {l : Launch} {y : MethodName} {ws ws' : List Cond} {rm : Room} {Pc : Array Value → State → Prop} {Qc : Array Value → State → Outcome → State → Prop} {XC : String → State → State → Prop} {mc ms : Nat} {free : Addr → Prop} {cc : ByteArray} {maxL : Nat} {ret : Option FieldType} {hh : List (Nat × Nat × Nat × Nat)}
    (hy : plainName y.cls = true) (hw : ws = Cond.codeWith y cc maxL ret hh :: ws')
    (body : ∀ p e s m args below meth c s₁, BodyLoose p l y (headSpec ws rm) cc maxL ret e s m args below meth c s₁ → c.maxLocals = maxL → Pc args s →
      W p l e (headSpec ws rm).room s m args below meth c s.heap [] 0 0 (vx_MQ below Qc XC args s mc ms free) (entryFrame m args maxL)) : vx_Met l y ws rm Pc Qc XC mc ms free := by
  refine MetFree.of_bodyS (code := cc) (maxLocals := maxL) (ret := ret) hy ?_ ?_
  · intro args s m h hn
    obtain ⟨m9, meth, c, hn9, h1, h2, h3, h4, -, h5, h6, -⟩ := Cond.codeWith_spec (atoms_spec (ws := ws) h _ (by rw [hw]; exact List.mem_cons_self))
    cases hn.symm.trans hn9
    exact ⟨meth, c, h1, h2, h3, h4, h5, h6⟩
  · intro p e s m args below meth c s₁ B hml hP _
    have hh0 : s₁.heap = s.heap := by rw [B.state]; rfl
    obtain ⟨t, a1, o, b1, b2, b3⟩ := body p e s m args below meth c s₁ B hml hP s₁ hh0 (Stand.of_body B)
    exact ⟨t, o, a1, b1, b2, b3⟩
/-! ===== END ===== -/
end
section
/-! NoSuchElementException(String) calls its super constructor by entry 13, not 7, on the pinned build: the words of its throw, by hand (NAMES.whole takes 7, and its row wsL_law_x2 is false). -/
def xn_six : ByteArray := ⟨#[0x2a, 0x2b, 0xb7, 0x00, 0x0d, 0xb1]⟩
def xn_N : String := "java/util/NoSuchElementException"
def xn_own (own : String) (ic : Nat) : List Cond :=
  Bundle.throwableAtoms ++ Bundle.throwableSAtoms ++ (Bundle.passSAtoms xn_N "java/lang/RuntimeException" 13 xn_six ++ Bundle.chainSAtoms "java/lang/RuntimeException" ["java/lang/Exception"]) ++
  [.methodLink own ic (Bundle.initS xn_N), .instantiable xn_N 6, .castable xn_N xn_N, .selects xn_N Bundle.tFill0 Bundle.tFill0, .selects xn_N Bundle.tFill Bundle.tFill,
   .lays xn_N Bundle.tN "cause" "Ljava/lang/Throwable;", .lays xn_N Bundle.tN "stackTrace" Bundle.steD, .lays xn_N Bundle.tN "suppressedExceptions" Bundle.listD, .lays xn_N Bundle.tN "detailMessage" "Ljava/lang/String;",
   .isRef (.static Bundle.tN "UNASSIGNED_STACK" Bundle.steD), .isRef (.static Bundle.tN "SUPPRESSED_SENTINEL" Bundle.listD),
   .fieldLink Bundle.tN 198 Bundle.tN "backtrace" "Ljava/lang/Object;", .lays Bundle.tN Bundle.tN "backtrace" "Ljava/lang/Object;", .lays xn_N Bundle.tN "backtrace" "Ljava/lang/Object;"]
def xn_atS (own : String) (ic : Nat) : List Cond := (xn_own own ic).filter vx_no
end
section
/-! ===== BEGIN printed: names, fields, word lists, decode rows ===== -/
def RX0 : String := "EvenClock$Circuit"
def TX0 : u_T := fun k => match k with
  | 0 => ("EvenClock$Circuit", "bears", "[J", true)
  | 1 => ("EvenClock$Circuit", "shows", "[J", true)
  | 2 => ("EvenClock$Circuit", "slackBelow", "[J", true)
  | 3 => ("EvenClock$Circuit", "resistance", "I", false)
  | 4 => ("EvenClock$Circuit", "capacity", "I", false)
  | 5 => ("EvenClock$Circuit", "input", "I", false)
  | 6 => ("EvenClock$Circuit", "drive", "I", false)
  | 7 => ("EvenClock$Circuit", "ownDelay", "I", false)
  | 8 => ("EvenClock$Circuit", "bestSlack", "J", false)
  | _ => ("EvenClock$Circuit", "bestSetting", "I", false)
def tyX0 : Nat → FieldType := fun k => match k with
  | 0 => .array .long
  | 1 => .array .long
  | 2 => .array .long
  | 3 => .int
  | 4 => .int
  | 5 => .int
  | 6 => .int
  | 7 => .int
  | 8 => .long
  | _ => .int
abbrev wsX00 : List Cond := u_ws RX0 TX0 10
theorem nmX0 : ∀ a, a < 10 → ∀ b, b < 10 → a ≠ b → (TX0 a).2.1 ≠ (TX0 b).2.1 := by decide +kernel
theorem tyX0_ok : ∀ k, k < 10 → parseFieldDescriptor (TX0 k).2.2.1 = some (tyX0 k) := by decide +kernel
abbrev cX0_init : ByteArray := prog_2_method_1_code
def yX0_init : MethodName := ⟨RX0, "<init>", "()V"⟩
abbrev cX0_weigh : ByteArray := prog_2_method_2_code
def yX0_weigh : MethodName := ⟨RX0, "weigh", "(LEvenClock$Tree;LEvenClock$SinkRows;I)V"⟩
abbrev cX0_weighSinks : ByteArray := prog_2_method_3_code
def yX0_weighSinks : MethodName := ⟨RX0, "weighSinks", "(LEvenClock$Tree;LEvenClock$SinkRows;)V"⟩
abbrev cX0_weighJoin : ByteArray := prog_2_method_4_code
def yX0_weighJoin : MethodName := ⟨RX0, "weighJoin", "(LEvenClock$Tree;IZ)V"⟩
abbrev cX0_wireCapacity : ByteArray := prog_2_method_5_code
def yX0_wireCapacity : MethodName := ⟨RX0, "wireCapacity", "(LEvenClock$Tree;I)J"⟩
abbrev cX0_wireDelay : ByteArray := prog_2_method_6_code
def yX0_wireDelay : MethodName := ⟨RX0, "wireDelay", "(LEvenClock$Tree;I)J"⟩
abbrev cX0_bufferDelay : ByteArray := prog_2_method_7_code
def yX0_bufferDelay : MethodName := ⟨RX0, "bufferDelay", "(I)J"⟩
abbrev cX0_slackAbove : ByteArray := prog_2_method_8_code
def yX0_slackAbove : MethodName := ⟨RX0, "slackAbove", "(LEvenClock$Tree;I)J"⟩
abbrev cX0_slackAtSource : ByteArray := prog_2_method_9_code
def yX0_slackAtSource : MethodName := ⟨RX0, "slackAtSource", "(LEvenClock$Tree;)J"⟩
abbrev cX0_delayTo : ByteArray := prog_2_method_10_code
def yX0_delayTo : MethodName := ⟨RX0, "delayTo", "(LEvenClock$Tree;II)J"⟩
abbrev cX0_findBest : ByteArray := prog_2_method_11_code
def yX0_findBest : MethodName := ⟨RX0, "findBest", "(LEvenClock$Tree;LEvenClock$SinkRows;)V"⟩
abbrev cX0_tryFrom : ByteArray := prog_2_method_12_code
def yX0_tryFrom : MethodName := ⟨RX0, "tryFrom", "(LEvenClock$Circuit;LEvenClock$Tree;II)V"⟩
abbrev cX0_keepIfBetter : ByteArray := prog_2_method_13_code
def yX0_keepIfBetter : MethodName := ⟨RX0, "keepIfBetter", "(JI)V"⟩
def RX1 : String := "EvenClock$SinkRows"
def TX1 : u_T := fun k => match k with
  | 0 => ("EvenClock$SinkRows", "x", "[I", true)
  | 1 => ("EvenClock$SinkRows", "y", "[I", true)
  | 2 => ("EvenClock$SinkRows", "load", "[I", true)
  | 3 => ("EvenClock$SinkRows", "need", "[I", true)
  | _ => ("EvenClock$SinkRows", "count", "I", false)
def tyX1 : Nat → FieldType := fun k => match k with
  | 0 => .array .int
  | 1 => .array .int
  | 2 => .array .int
  | 3 => .array .int
  | _ => .int
abbrev wsX10 : List Cond := u_ws RX1 TX1 5
theorem nmX1 : ∀ a, a < 5 → ∀ b, b < 5 → a ≠ b → (TX1 a).2.1 ≠ (TX1 b).2.1 := by decide +kernel
theorem tyX1_ok : ∀ k, k < 5 → parseFieldDescriptor (TX1 k).2.2.1 = some (tyX1 k) := by decide +kernel
abbrev cX1_init : ByteArray := prog_3_method_1_code
def yX1_init : MethodName := ⟨RX1, "<init>", "()V"⟩
abbrev cX1_append : ByteArray := prog_3_method_2_code
def yX1_append : MethodName := ⟨RX1, "append", "(IIII)I"⟩
abbrev cX1_isBefore : ByteArray := prog_3_method_3_code
def yX1_isBefore : MethodName := ⟨RX1, "isBefore", "(IIZ)Z"⟩
def RX2 : String := "EvenClock$Tree"
def TX2 : u_T := fun k => match k with
  | 0 => ("EvenClock$Tree", "left", "[I", true)
  | 1 => ("EvenClock$Tree", "right", "[I", true)
  | 2 => ("EvenClock$Tree", "parent", "[I", true)
  | 3 => ("EvenClock$Tree", "lowU", "[I", true)
  | 4 => ("EvenClock$Tree", "highU", "[I", true)
  | 5 => ("EvenClock$Tree", "lowV", "[I", true)
  | 6 => ("EvenClock$Tree", "highV", "[I", true)
  | 7 => ("EvenClock$Tree", "time", "[I", true)
  | 8 => ("EvenClock$Tree", "wire", "[I", true)
  | 9 => ("EvenClock$Tree", "u", "[I", true)
  | 10 => ("EvenClock$Tree", "v", "[I", true)
  | 11 => ("EvenClock$Tree", "row", "[I", true)
  | 12 => ("EvenClock$Tree", "leaves", "I", false)
  | _ => ("EvenClock$Tree", "nodes", "I", false)
def tyX2 : Nat → FieldType := fun k => match k with
  | 0 => .array .int
  | 1 => .array .int
  | 2 => .array .int
  | 3 => .array .int
  | 4 => .array .int
  | 5 => .array .int
  | 6 => .array .int
  | 7 => .array .int
  | 8 => .array .int
  | 9 => .array .int
  | 10 => .array .int
  | 11 => .array .int
  | 12 => .int
  | _ => .int
abbrev wsX20 : List Cond := u_ws RX2 TX2 14
theorem nmX2 : ∀ a, a < 14 → ∀ b, b < 14 → a ≠ b → (TX2 a).2.1 ≠ (TX2 b).2.1 := by decide +kernel
theorem tyX2_ok : ∀ k, k < 14 → parseFieldDescriptor (TX2 k).2.2.1 = some (tyX2 k) := by decide +kernel
abbrev cX2_init : ByteArray := prog_4_method_1_code
def yX2_init : MethodName := ⟨RX2, "<init>", "()V"⟩
abbrev cX2_plantSinks : ByteArray := prog_4_method_2_code
def yX2_plantSinks : MethodName := ⟨RX2, "plantSinks", "(LEvenClock$SinkRows;)V"⟩
abbrev cX2_joinByDistance : ByteArray := prog_4_method_3_code
def yX2_joinByDistance : MethodName := ⟨RX2, "joinByDistance", "()V"⟩
abbrev cX2_joinNearestPair : ByteArray := prog_4_method_4_code
def yX2_joinNearestPair : MethodName := ⟨RX2, "joinNearestPair", "()V"⟩
abbrev cX2_joinByCutting : ByteArray := prog_4_method_5_code
def yX2_joinByCutting : MethodName := ⟨RX2, "joinByCutting", "(LEvenClock$SinkRows;)V"⟩
abbrev cX2_joinRow : ByteArray := prog_4_method_6_code
def yX2_joinRow : MethodName := ⟨RX2, "joinRow", "(LEvenClock$Tree;LEvenClock$SinkRows;III)I"⟩
abbrev cX2_orderRow : ByteArray := prog_4_method_7_code
def yX2_orderRow : MethodName := ⟨RX2, "orderRow", "(LEvenClock$SinkRows;IIZ)V"⟩
abbrev cX2_distanceOf : ByteArray := prog_4_method_8_code
def yX2_distanceOf : MethodName := ⟨RX2, "distanceOf", "(II)I"⟩
abbrev cX2_gapOf : ByteArray := prog_4_method_9_code
def yX2_gapOf : MethodName := ⟨RX2, "gapOf", "(IIII)I"⟩
abbrev cX2_joinTwo : ByteArray := prog_4_method_10_code
def yX2_joinTwo : MethodName := ⟨RX2, "joinTwo", "(II)I"⟩
abbrev cX2_setWires : ByteArray := prog_4_method_11_code
def yX2_setWires : MethodName := ⟨RX2, "setWires", "(III)V"⟩
abbrev cX2_choosePlaces : ByteArray := prog_4_method_12_code
def yX2_choosePlaces : MethodName := ⟨RX2, "choosePlaces", "(II)V"⟩
abbrev cX2_standNear : ByteArray := prog_4_method_13_code
def yX2_standNear : MethodName := ⟨RX2, "standNear", "(III)V"⟩
abbrev cX2_partOf : ByteArray := prog_4_method_14_code
def yX2_partOf : MethodName := ⟨RX2, "partOf", "(II)I"⟩
abbrev cX2_wireSum : ByteArray := prog_4_method_15_code
def yX2_wireSum : MethodName := ⟨RX2, "wireSum", "()I"⟩
abbrev cX2_joinsAbove : ByteArray := prog_4_method_16_code
def yX2_joinsAbove : MethodName := ⟨RX2, "joinsAbove", "(I)I"⟩
abbrev cX2_bitOf : ByteArray := prog_4_method_17_code
def yX2_bitOf : MethodName := ⟨RX2, "bitOf", "(I)I"⟩
def RX3 : String := "EvenClock"
def TX3 : u_T := fun k => match k with
  | 0 => ("EvenClock", "given", "LEvenClock$SinkRows;", true)
  | 1 => ("EvenClock", "tree", "LEvenClock$Tree;", true)
  | 2 => ("EvenClock", "circuit", "LEvenClock$Circuit;", true)
  | 3 => ("EvenClock", "sourceX", "I", false)
  | 4 => ("EvenClock", "sourceY", "I", false)
  | 5 => ("EvenClock", "built", "Z", false)
  | _ => ("EvenClock", "buffered", "I", false)
def tyX3 : Nat → FieldType := fun k => match k with
  | 0 => .object "EvenClock$SinkRows"
  | 1 => .object "EvenClock$Tree"
  | 2 => .object "EvenClock$Circuit"
  | 3 => .int
  | 4 => .int
  | 5 => .boolean
  | _ => .int
abbrev wsX30 : List Cond := u_ws RX3 TX3 7
theorem nmX3 : ∀ a, a < 7 → ∀ b, b < 7 → a ≠ b → (TX3 a).2.1 ≠ (TX3 b).2.1 := by decide +kernel
theorem tyX3_ok : ∀ k, k < 7 → parseFieldDescriptor (TX3 k).2.2.1 = some (tyX3 k) := by decide +kernel
abbrev cX3_init : ByteArray := prog_1_method_1_code
def yX3_init : MethodName := ⟨RX3, "<init>", "()V"⟩
abbrev cX3_sink : ByteArray := prog_1_method_2_code
def yX3_sink : MethodName := ⟨RX3, "sink", "(IIII)I"⟩
abbrev cX3_cut : ByteArray := prog_1_method_3_code
def yX3_cut : MethodName := ⟨RX3, "cut", "(I)V"⟩
abbrev cX3_source : ByteArray := prog_1_method_4_code
def yX3_source : MethodName := ⟨RX3, "source", "(II)V"⟩
abbrev cX3_wires : ByteArray := prog_1_method_5_code
def yX3_wires : MethodName := ⟨RX3, "wires", "(II)V"⟩
abbrev cX3_buffer : ByteArray := prog_1_method_6_code
def yX3_buffer : MethodName := ⟨RX3, "buffer", "(III)V"⟩
abbrev cX3_sinks : ByteArray := prog_1_method_7_code
def yX3_sinks : MethodName := ⟨RX3, "sinks", "()I"⟩
abbrev cX3_build : ByteArray := prog_1_method_8_code
def yX3_build : MethodName := ⟨RX3, "build", "(I)I"⟩
abbrev cX3_node : ByteArray := prog_1_method_9_code
def yX3_node : MethodName := ⟨RX3, "node", "(II)I"⟩
abbrev cX3_length : ByteArray := prog_1_method_10_code
def yX3_length : MethodName := ⟨RX3, "length", "()I"⟩
abbrev cX3_depth : ByteArray := prog_1_method_11_code
def yX3_depth : MethodName := ⟨RX3, "depth", "(I)I"⟩
abbrev cX3_set : ByteArray := prog_1_method_12_code
def yX3_set : MethodName := ⟨RX3, "set", "(IZ)Z"⟩
abbrev cX3_setting : ByteArray := prog_1_method_13_code
def yX3_setting : MethodName := ⟨RX3, "setting", "()I"⟩
abbrev cX3_load : ByteArray := prog_1_method_14_code
def yX3_load : MethodName := ⟨RX3, "load", "(IZ)J"⟩
abbrev cX3_delay : ByteArray := prog_1_method_15_code
def yX3_delay : MethodName := ⟨RX3, "delay", "(I)J"⟩
abbrev cX3_slack : ByteArray := prog_1_method_16_code
def yX3_slack : MethodName := ⟨RX3, "slack", "()J"⟩
abbrev cX3_best : ByteArray := prog_1_method_17_code
def yX3_best : MethodName := ⟨RX3, "best", "()J"⟩
abbrev cX3_improve : ByteArray := prog_1_method_18_code
def yX3_improve : MethodName := ⟨RX3, "improve", "()I"⟩
abbrev cX3_requireTree : ByteArray := prog_1_method_19_code
def yX3_requireTree : MethodName := ⟨RX3, "requireTree", "()V"⟩
abbrev cX3_requireSink : ByteArray := prog_1_method_20_code
def yX3_requireSink : MethodName := ⟨RX3, "requireSink", "(I)V"⟩
abbrev cX3_isPlace : ByteArray := prog_1_method_21_code
def yX3_isPlace : MethodName := ⟨RX3, "isPlace", "(II)Z"⟩
abbrev cX3_isWithin : ByteArray := prog_1_method_22_code
def yX3_isWithin : MethodName := ⟨RX3, "isWithin", "(III)Z"⟩
abbrev cX3_placeU : ByteArray := prog_1_method_23_code
def yX3_placeU : MethodName := ⟨RX3, "placeU", "(II)I"⟩
abbrev cX3_placeV : ByteArray := prog_1_method_24_code
def yX3_placeV : MethodName := ⟨RX3, "placeV", "(II)I"⟩
def RX4 : String := "EvenClockModel"
def TX4 : u_T := fun k => match k with
  | 0 => ("EvenClockModel", "thrown", "I", false)
  | 1 => ("EvenClockModel", "count", "I", false)
  | 2 => ("EvenClockModel", "xs", "[I", true)
  | 3 => ("EvenClockModel", "ys", "[I", true)
  | 4 => ("EvenClockModel", "loads", "[I", true)
  | 5 => ("EvenClockModel", "needs", "[I", true)
  | 6 => ("EvenClockModel", "sourceX", "I", false)
  | 7 => ("EvenClockModel", "sourceY", "I", false)
  | 8 => ("EvenClockModel", "\x72", "I", false)
  | 9 => ("EvenClockModel", "c", "I", false)
  | 10 => ("EvenClockModel", "input", "I", false)
  | 11 => ("EvenClockModel", "drive", "I", false)
  | 12 => ("EvenClockModel", "wait", "I", false)
  | 13 => ("EvenClockModel", "built", "Z", false)
  | 14 => ("EvenClockModel", "nodes", "I", false)
  | 15 => ("EvenClockModel", "left", "[I", true)
  | 16 => ("EvenClockModel", "right", "[I", true)
  | 17 => ("EvenClockModel", "parent", "[I", true)
  | 18 => ("EvenClockModel", "u1", "[I", true)
  | 19 => ("EvenClockModel", "u2", "[I", true)
  | 20 => ("EvenClockModel", "v1", "[I", true)
  | 21 => ("EvenClockModel", "v2", "[I", true)
  | 22 => ("EvenClockModel", "time", "[I", true)
  | 23 => ("EvenClockModel", "wire", "[I", true)
  | 24 => ("EvenClockModel", "u", "[I", true)
  | 25 => ("EvenClockModel", "v", "[I", true)
  | 26 => ("EvenClockModel", "set", "[Z", true)
  | 27 => ("EvenClockModel", "joined", "[Z", true)
  | 28 => ("EvenClockModel", "row", "[I", true)
  | 29 => ("EvenClockModel", "top", "I", false)
  | 30 => ("EvenClockModel", "from", "[I", true)
  | 31 => ("EvenClockModel", "to", "[I", true)
  | 32 => ("EvenClockModel", "level", "[I", true)
  | 33 => ("EvenClockModel", "stage", "[I", true)
  | 34 => ("EvenClockModel", "half", "[I", true)
  | 35 => ("EvenClockModel", "bears", "[J", true)
  | _ => ("EvenClockModel", "shows", "[J", true)
def tyX4 : Nat → FieldType := fun k => match k with
  | 0 => .int
  | 1 => .int
  | 2 => .array .int
  | 3 => .array .int
  | 4 => .array .int
  | 5 => .array .int
  | 6 => .int
  | 7 => .int
  | 8 => .int
  | 9 => .int
  | 10 => .int
  | 11 => .int
  | 12 => .int
  | 13 => .boolean
  | 14 => .int
  | 15 => .array .int
  | 16 => .array .int
  | 17 => .array .int
  | 18 => .array .int
  | 19 => .array .int
  | 20 => .array .int
  | 21 => .array .int
  | 22 => .array .int
  | 23 => .array .int
  | 24 => .array .int
  | 25 => .array .int
  | 26 => .array .boolean
  | 27 => .array .boolean
  | 28 => .array .int
  | 29 => .int
  | 30 => .array .int
  | 31 => .array .int
  | 32 => .array .int
  | 33 => .array .int
  | 34 => .array .int
  | 35 => .array .long
  | _ => .array .long
abbrev wsX40 : List Cond := u_ws RX4 TX4 37
theorem nmX4 : ∀ a, a < 37 → ∀ b, b < 37 → a ≠ b → (TX4 a).2.1 ≠ (TX4 b).2.1 := by decide +kernel
theorem tyX4_ok : ∀ k, k < 37 → parseFieldDescriptor (TX4 k).2.2.1 = some (tyX4 k) := by decide +kernel
abbrev cX4_init : ByteArray := prog_6_method_1_code
def yX4_init : MethodName := ⟨RX4, "<init>", "()V"⟩
abbrev cX4_thrown : ByteArray := prog_6_method_2_code
def yX4_thrown : MethodName := ⟨RX4, "thrown", "()I"⟩
abbrev cX4_isPlace : ByteArray := prog_6_method_3_code
def yX4_isPlace : MethodName := ⟨RX4, "isPlace", "(I)Z"⟩
abbrev cX4_within : ByteArray := prog_6_method_4_code
def yX4_within : MethodName := ⟨RX4, "within", "(III)Z"⟩
abbrev cX4_sink : ByteArray := prog_6_method_5_code
def yX4_sink : MethodName := ⟨RX4, "sink", "(IIII)I"⟩
abbrev cX4_cut : ByteArray := prog_6_method_6_code
def yX4_cut : MethodName := ⟨RX4, "cut", "(I)V"⟩
abbrev cX4_source : ByteArray := prog_6_method_7_code
def yX4_source : MethodName := ⟨RX4, "source", "(II)V"⟩
abbrev cX4_wires : ByteArray := prog_6_method_8_code
def yX4_wires : MethodName := ⟨RX4, "wires", "(II)V"⟩
abbrev cX4_buffer : ByteArray := prog_6_method_9_code
def yX4_buffer : MethodName := ⟨RX4, "buffer", "(III)V"⟩
abbrev cX4_sinks : ByteArray := prog_6_method_10_code
def yX4_sinks : MethodName := ⟨RX4, "sinks", "()I"⟩
abbrev cX4_greater : ByteArray := prog_6_method_11_code
def yX4_greater : MethodName := ⟨RX4, "greater", "(II)I"⟩
abbrev cX4_lesser : ByteArray := prog_6_method_12_code
def yX4_lesser : MethodName := ⟨RX4, "lesser", "(II)I"⟩
abbrev cX4_gap : ByteArray := prog_6_method_13_code
def yX4_gap : MethodName := ⟨RX4, "gap", "(IIII)I"⟩
abbrev cX4_distance : ByteArray := prog_6_method_14_code
def yX4_distance : MethodName := ⟨RX4, "distance", "(II)I"⟩
abbrev cX4_place : ByteArray := prog_6_method_15_code
def yX4_place : MethodName := ⟨RX4, "place", "(IIIII)V"⟩
abbrev cX4_join : ByteArray := prog_6_method_16_code
def yX4_join : MethodName := ⟨RX4, "join", "(II)I"⟩
abbrev cX4_begin : ByteArray := prog_6_method_17_code
def yX4_begin : MethodName := ⟨RX4, "begin", "()V"⟩
abbrev cX4_joinNearest : ByteArray := prog_6_method_18_code
def yX4_joinNearest : MethodName := ⟨RX4, "joinNearest", "()V"⟩
abbrev cX4_isBefore : ByteArray := prog_6_method_19_code
def yX4_isBefore : MethodName := ⟨RX4, "isBefore", "(IIZ)Z"⟩
abbrev cX4_sort : ByteArray := prog_6_method_20_code
def yX4_sort : MethodName := ⟨RX4, "sort", "(IIZ)V"⟩
abbrev cX4_push : ByteArray := prog_6_method_21_code
def yX4_push : MethodName := ⟨RX4, "push", "(III)V"⟩
abbrev cX4_cutAll : ByteArray := prog_6_method_22_code
def yX4_cutAll : MethodName := ⟨RX4, "cutAll", "()V"⟩
abbrev cX4_nearest : ByteArray := prog_6_method_23_code
def yX4_nearest : MethodName := ⟨RX4, "nearest", "(III)I"⟩
abbrev cX4_choose : ByteArray := prog_6_method_24_code
def yX4_choose : MethodName := ⟨RX4, "choose", "()V"⟩
abbrev cX4_build : ByteArray := prog_6_method_25_code
def yX4_build : MethodName := ⟨RX4, "build", "(I)I"⟩
abbrev cX4_isNode : ByteArray := prog_6_method_26_code
def yX4_isNode : MethodName := ⟨RX4, "isNode", "(I)Z"⟩
abbrev cX4_node : ByteArray := prog_6_method_27_code
def yX4_node : MethodName := ⟨RX4, "node", "(II)I"⟩
abbrev cX4_length : ByteArray := prog_6_method_28_code
def yX4_length : MethodName := ⟨RX4, "length", "()I"⟩
abbrev cX4_depth : ByteArray := prog_6_method_29_code
def yX4_depth : MethodName := ⟨RX4, "depth", "(I)I"⟩
abbrev cX4_set : ByteArray := prog_6_method_30_code
def yX4_set : MethodName := ⟨RX4, "set", "(IZ)Z"⟩
abbrev cX4_number : ByteArray := prog_6_method_31_code
def yX4_number : MethodName := ⟨RX4, "number", "()I"⟩
abbrev cX4_setting : ByteArray := prog_6_method_32_code
def yX4_setting : MethodName := ⟨RX4, "setting", "()I"⟩
abbrev cX4_weigh : ByteArray := prog_6_method_33_code
def yX4_weigh : MethodName := ⟨RX4, "weigh", "(I)V"⟩
abbrev cX4_load : ByteArray := prog_6_method_34_code
def yX4_load : MethodName := ⟨RX4, "load", "(IZ)J"⟩
abbrev cX4_delayOf : ByteArray := prog_6_method_35_code
def yX4_delayOf : MethodName := ⟨RX4, "delayOf", "(II)J"⟩
abbrev cX4_delay : ByteArray := prog_6_method_36_code
def yX4_delay : MethodName := ⟨RX4, "delay", "(I)J"⟩
abbrev cX4_slackOf : ByteArray := prog_6_method_37_code
def yX4_slackOf : MethodName := ⟨RX4, "slackOf", "(I)J"⟩
abbrev cX4_slack : ByteArray := prog_6_method_38_code
def yX4_slack : MethodName := ⟨RX4, "slack", "()J"⟩
abbrev cX4_bestSetting : ByteArray := prog_6_method_39_code
def yX4_bestSetting : MethodName := ⟨RX4, "bestSetting", "()I"⟩
abbrev cX4_best : ByteArray := prog_6_method_40_code
def yX4_best : MethodName := ⟨RX4, "best", "()J"⟩
abbrev cX4_improve : ByteArray := prog_6_method_41_code
def yX4_improve : MethodName := ⟨RX4, "improve", "()I"⟩
def RJx145de : String := "java/io/Serializable"
def TJx145de : u_T := fun k => match k with
  | _ => ("", "", "", false)
def tyJx145de : Nat → FieldType := fun k => match k with
  | _ => .int
abbrev wsJx145de0 : List Cond := u_ws RJx145de TJx145de 0
theorem nmJx145de : ∀ a, a < 0 → ∀ b, b < 0 → a ≠ b → (TJx145de a).2.1 ≠ (TJx145de b).2.1 := by decide +kernel
theorem tyJx145de_ok : ∀ k, k < 0 → parseFieldDescriptor (TJx145de k).2.2.1 = some (tyJx145de k) := by decide +kernel
def RJ9 : String := "java/lang/Math"
def TJ9 : u_T := fun k => match k with
  | _ => ("", "", "", false)
def tyJ9 : Nat → FieldType := fun k => match k with
  | _ => .int
abbrev wsJ90 : List Cond := u_ws RJ9 TJ9 0
theorem nmJ9 : ∀ a, a < 0 → ∀ b, b < 0 → a ≠ b → (TJ9 a).2.1 ≠ (TJ9 b).2.1 := by decide +kernel
theorem tyJ9_ok : ∀ k, k < 0 → parseFieldDescriptor (TJ9 k).2.2.1 = some (tyJ9 k) := by decide +kernel
abbrev cJ9_abs_0f7a4 : ByteArray := prog_12_method_59_code
def yJ9_abs_0f7a4 : MethodName := ⟨RJ9, "abs", "(I)I"⟩
abbrev cJ9_max_7cf53 : ByteArray := prog_12_method_65_code
def yJ9_max_7cf53 : MethodName := ⟨RJ9, "max", "(II)I"⟩
abbrev cJ9_min_7cf53 : ByteArray := prog_12_method_69_code
def yJ9_min_7cf53 : MethodName := ⟨RJ9, "min", "(II)I"⟩
abbrev cJ9_min_f86c9 : ByteArray := prog_12_method_70_code
def yJ9_min_f86c9 : MethodName := ⟨RJ9, "min", "(JJ)J"⟩
def RJ0 : String := "java/lang/String"
def TJ0 : u_T := fun k => match k with
  | _ => ("", "", "", false)
def tyJ0 : Nat → FieldType := fun k => match k with
  | _ => .int
abbrev wsJ00 : List Cond := u_ws RJ0 TJ0 0
theorem nmJ0 : ∀ a, a < 0 → ∀ b, b < 0 → a ≠ b → (TJ0 a).2.1 ≠ (TJ0 b).2.1 := by decide +kernel
theorem tyJ0_ok : ∀ k, k < 0 → parseFieldDescriptor (TJ0 k).2.2.1 = some (tyJ0 k) := by decide +kernel
def RL : String := "EvenClockLaw"
abbrev cL_sink : ByteArray := method_3_code
def yL_sink : MethodName := ⟨RL, "sink", "(LEvenClock;IIII[J)I"⟩
abbrev cL_cut : ByteArray := method_4_code
def yL_cut : MethodName := ⟨RL, "cut", "(LEvenClock;I)I"⟩
abbrev cL_source : ByteArray := method_5_code
def yL_source : MethodName := ⟨RL, "source", "(LEvenClock;II)I"⟩
abbrev cL_wires : ByteArray := method_6_code
def yL_wires : MethodName := ⟨RL, "wires", "(LEvenClock;II)I"⟩
abbrev cL_buffer : ByteArray := method_7_code
def yL_buffer : MethodName := ⟨RL, "buffer", "(LEvenClock;III)I"⟩
abbrev cL_build : ByteArray := method_8_code
def yL_build : MethodName := ⟨RL, "build", "(LEvenClock;I[J)I"⟩
abbrev cL_node : ByteArray := method_9_code
def yL_node : MethodName := ⟨RL, "node", "(LEvenClock;II[J)I"⟩
abbrev cL_length : ByteArray := method_10_code
def yL_length : MethodName := ⟨RL, "length", "(LEvenClock;[J)I"⟩
abbrev cL_depth : ByteArray := method_11_code
def yL_depth : MethodName := ⟨RL, "depth", "(LEvenClock;I[J)I"⟩
abbrev cL_set : ByteArray := method_12_code
def yL_set : MethodName := ⟨RL, "set", "(LEvenClock;IZ[J)I"⟩
abbrev cL_setting : ByteArray := method_13_code
def yL_setting : MethodName := ⟨RL, "setting", "(LEvenClock;[J)I"⟩
abbrev cL_load : ByteArray := method_14_code
def yL_load : MethodName := ⟨RL, "load", "(LEvenClock;IZ[J)I"⟩
abbrev cL_delay : ByteArray := method_15_code
def yL_delay : MethodName := ⟨RL, "delay", "(LEvenClock;I[J)I"⟩
abbrev cL_slack : ByteArray := method_16_code
def yL_slack : MethodName := ⟨RL, "slack", "(LEvenClock;[J)I"⟩
abbrev cL_best : ByteArray := method_17_code
def yL_best : MethodName := ⟨RL, "best", "(LEvenClock;[J)I"⟩
abbrev cL_improve : ByteArray := method_18_code
def yL_improve : MethodName := ⟨RL, "improve", "(LEvenClock;[J)I"⟩
abbrev cL_law : ByteArray := code
def yL_law : MethodName := ⟨RL, "law", "([I)Z"⟩
def wsX0_init : List Cond := .code yX0_init cX0_init 1 none :: ([.methodLink RX0 3 objectInit, .instanceMethod objectInit, .code objectInit ⟨#[0xb1]⟩ 1 none, .arrayClass .long, .fieldLink RX0 9 "EvenClock$Circuit" "bears" "[J", .fieldLink RX0 15 "EvenClock$Circuit" "shows" "[J", .fieldLink RX0 18 "EvenClock$Circuit" "slackBelow" "[J", .fieldLink RX0 21 "EvenClock$Circuit" "resistance" "I", .fieldLink RX0 25 "EvenClock$Circuit" "capacity" "I", .fieldLink RX0 28 "EvenClock$Circuit" "input" "I", .fieldLink RX0 31 "EvenClock$Circuit" "drive" "I", .fieldLink RX0 34 "EvenClock$Circuit" "ownDelay" "I", .fieldLink RX0 37 "EvenClock$Circuit" "bestSlack" "J", .fieldLink RX0 41 "EvenClock$Circuit" "bestSetting" "I"] ++ wsX00)
def wsX0_weighSinks : List Cond := .code yX0_weighSinks cX0_weighSinks 4 none :: ([.fieldLink RX0 48 "EvenClock$Tree" "leaves" "I", .fieldLink RX0 9 "EvenClock$Circuit" "bears" "[J", .constantLong RX0 64 (1024), .fieldLink RX0 66 "EvenClock$SinkRows" "load" "[I", .fieldLink RX0 15 "EvenClock$Circuit" "shows" "[J", .fieldLink RX0 18 "EvenClock$Circuit" "slackBelow" "[J", .constantLong RX0 72 (1048576), .fieldLink RX0 74 "EvenClock$SinkRows" "need" "[I"] ++ wsX20 ++ wsX00 ++ wsX10)
def wsX2_bitOf : List Cond := .code yX2_bitOf cX2_bitOf 2 (some .int) :: ([.fieldLink RX2 48 "EvenClock$Tree" "leaves" "I"] ++ wsX20)
def wsX0_wireCapacity : List Cond := .code yX0_wireCapacity cX0_wireCapacity 3 (some .long) :: ([.fieldLink RX0 25 "EvenClock$Circuit" "capacity" "I", .fieldLink RX0 100 "EvenClock$Tree" "wire" "[I"] ++ wsX00 ++ wsX20)
def wsX0_wireDelay : List Cond := .code yX0_wireDelay cX0_wireDelay 3 (some .long) :: ([.fieldLink RX0 21 "EvenClock$Circuit" "resistance" "I", .fieldLink RX0 100 "EvenClock$Tree" "wire" "[I", .constantLong RX0 103 (2), .fieldLink RX0 15 "EvenClock$Circuit" "shows" "[J", .methodLink RX0 83 yX0_wireCapacity, .instanceMethod yX0_wireCapacity, .selects RX0 yX0_wireCapacity yX0_wireCapacity, .initialized RX0, .code yX0_wireCapacity cX0_wireCapacity 3 (some .long), .fieldLink RX0 25 "EvenClock$Circuit" "capacity" "I"] ++ wsX00 ++ wsX20)
def wsX0_slackAbove : List Cond := .code yX0_slackAbove cX0_slackAbove 3 (some .long) :: ([.fieldLink RX0 18 "EvenClock$Circuit" "slackBelow" "[J", .methodLink RX0 105 yX0_wireDelay, .instanceMethod yX0_wireDelay, .selects RX0 yX0_wireDelay yX0_wireDelay, .initialized RX0, .code yX0_wireDelay cX0_wireDelay 3 (some .long), .fieldLink RX0 21 "EvenClock$Circuit" "resistance" "I", .fieldLink RX0 100 "EvenClock$Tree" "wire" "[I", .constantLong RX0 103 (2), .fieldLink RX0 15 "EvenClock$Circuit" "shows" "[J", .methodLink RX0 83 yX0_wireCapacity, .instanceMethod yX0_wireCapacity, .selects RX0 yX0_wireCapacity yX0_wireCapacity, .code yX0_wireCapacity cX0_wireCapacity 3 (some .long), .fieldLink RX0 25 "EvenClock$Circuit" "capacity" "I"] ++ wsX00 ++ wsX20)
def wsX0_bufferDelay : List Cond := .code yX0_bufferDelay cX0_bufferDelay 2 (some .long) :: ([.fieldLink RX0 34 "EvenClock$Circuit" "ownDelay" "I", .constantLong RX0 103 (2), .fieldLink RX0 31 "EvenClock$Circuit" "drive" "I", .fieldLink RX0 9 "EvenClock$Circuit" "bears" "[J"] ++ wsX00)
def wsX0_weighJoin_r1 : List Cond := [Cond.fieldLink RX0 77 "EvenClock$Tree" "left" "[I", Cond.fieldLink RX0 80 "EvenClock$Tree" "right" "[I", Cond.fieldLink RX0 9 "EvenClock$Circuit" "bears" "[J", Cond.fieldLink RX0 15 "EvenClock$Circuit" "shows" "[J", Cond.fieldLink RX0 18 "EvenClock$Circuit" "slackBelow" "[J", Cond.methodLink RX0 90 Lib.MathLoose.min_long.x, Cond.static Lib.MathLoose.min_long.x, Cond.initialized "java/lang/Math", Cond.code Lib.MathLoose.min_long.x Lib.MathLoose.min_long.code 4 (some .long), Cond.constantLong RX0 64 (1024), Cond.fieldLink RX0 28 "EvenClock$Circuit" "input" "I", Cond.methodLink RX0 83 yX0_wireCapacity, Cond.instanceMethod yX0_wireCapacity, Cond.selects RX0 yX0_wireCapacity yX0_wireCapacity, Cond.initialized RX0, Cond.code yX0_wireCapacity cX0_wireCapacity 3 (some .long), Cond.fieldLink RX0 25 "EvenClock$Circuit" "capacity" "I", Cond.fieldLink RX0 100 "EvenClock$Tree" "wire" "[I", Cond.methodLink RX0 87 yX0_slackAbove, Cond.instanceMethod yX0_slackAbove, Cond.selects RX0 yX0_slackAbove yX0_slackAbove, Cond.code yX0_slackAbove cX0_slackAbove 3 (some .long), Cond.methodLink RX0 105 yX0_wireDelay, Cond.instanceMethod yX0_wireDelay]
def wsX0_weighJoin_r2 : List Cond := [Cond.selects RX0 yX0_wireDelay yX0_wireDelay, Cond.code yX0_wireDelay cX0_wireDelay 3 (some .long), Cond.fieldLink RX0 21 "EvenClock$Circuit" "resistance" "I", Cond.constantLong RX0 103 (2), Cond.methodLink RX0 96 yX0_bufferDelay, Cond.instanceMethod yX0_bufferDelay, Cond.selects RX0 yX0_bufferDelay yX0_bufferDelay, Cond.code yX0_bufferDelay cX0_bufferDelay 2 (some .long), Cond.fieldLink RX0 34 "EvenClock$Circuit" "ownDelay" "I", Cond.fieldLink RX0 31 "EvenClock$Circuit" "drive" "I"]
def wsX0_weighJoin : List Cond := .code yX0_weighJoin cX0_weighJoin 6 none :: ((wsX0_weighJoin_r1 ++ wsX0_weighJoin_r2) ++ wsX20 ++ wsX00)
def wsX0_weigh_r1 : List Cond := [Cond.fieldLink RX0 48 "EvenClock$Tree" "leaves" "I", Cond.fieldLink RX0 53 "EvenClock$Tree" "nodes" "I", Cond.methodLink RX0 44 yX0_weighSinks, Cond.instanceMethod yX0_weighSinks, Cond.selects RX0 yX0_weighSinks yX0_weighSinks, Cond.initialized RX0, Cond.code yX0_weighSinks cX0_weighSinks 4 none, Cond.fieldLink RX0 9 "EvenClock$Circuit" "bears" "[J", Cond.constantLong RX0 64 (1024), Cond.fieldLink RX0 66 "EvenClock$SinkRows" "load" "[I", Cond.fieldLink RX0 15 "EvenClock$Circuit" "shows" "[J", Cond.fieldLink RX0 18 "EvenClock$Circuit" "slackBelow" "[J", Cond.constantLong RX0 72 (1048576), Cond.fieldLink RX0 74 "EvenClock$SinkRows" "need" "[I", Cond.methodLink RX0 56 yX2_bitOf, Cond.instanceMethod yX2_bitOf, Cond.selects RX2 yX2_bitOf yX2_bitOf, Cond.initialized RX2, Cond.code yX2_bitOf cX2_bitOf 2 (some .int), Cond.fieldLink RX2 48 "EvenClock$Tree" "leaves" "I", Cond.methodLink RX0 60 yX0_weighJoin, Cond.instanceMethod yX0_weighJoin, Cond.selects RX0 yX0_weighJoin yX0_weighJoin, Cond.code yX0_weighJoin cX0_weighJoin 6 none]
def wsX0_weigh_r2 : List Cond := [Cond.fieldLink RX0 77 "EvenClock$Tree" "left" "[I", Cond.fieldLink RX0 80 "EvenClock$Tree" "right" "[I", Cond.methodLink RX0 90 Lib.MathLoose.min_long.x, Cond.static Lib.MathLoose.min_long.x, Cond.initialized "java/lang/Math", Cond.code Lib.MathLoose.min_long.x Lib.MathLoose.min_long.code 4 (some .long), Cond.fieldLink RX0 28 "EvenClock$Circuit" "input" "I", Cond.methodLink RX0 83 yX0_wireCapacity, Cond.instanceMethod yX0_wireCapacity, Cond.selects RX0 yX0_wireCapacity yX0_wireCapacity, Cond.code yX0_wireCapacity cX0_wireCapacity 3 (some .long), Cond.fieldLink RX0 25 "EvenClock$Circuit" "capacity" "I", Cond.fieldLink RX0 100 "EvenClock$Tree" "wire" "[I", Cond.methodLink RX0 87 yX0_slackAbove, Cond.instanceMethod yX0_slackAbove, Cond.selects RX0 yX0_slackAbove yX0_slackAbove, Cond.code yX0_slackAbove cX0_slackAbove 3 (some .long), Cond.methodLink RX0 105 yX0_wireDelay, Cond.instanceMethod yX0_wireDelay, Cond.selects RX0 yX0_wireDelay yX0_wireDelay, Cond.code yX0_wireDelay cX0_wireDelay 3 (some .long), Cond.fieldLink RX0 21 "EvenClock$Circuit" "resistance" "I", Cond.constantLong RX0 103 (2), Cond.methodLink RX0 96 yX0_bufferDelay]
def wsX0_weigh_r3 : List Cond := [Cond.instanceMethod yX0_bufferDelay, Cond.selects RX0 yX0_bufferDelay yX0_bufferDelay, Cond.code yX0_bufferDelay cX0_bufferDelay 2 (some .long), Cond.fieldLink RX0 34 "EvenClock$Circuit" "ownDelay" "I", Cond.fieldLink RX0 31 "EvenClock$Circuit" "drive" "I"]
def wsX0_weigh : List Cond := .code yX0_weigh cX0_weigh 5 none :: ((wsX0_weigh_r1 ++ (wsX0_weigh_r2 ++ wsX0_weigh_r3)) ++ wsX20 ++ wsX00 ++ wsX10)
def wsX0_slackAtSource : List Cond := .code yX0_slackAtSource cX0_slackAtSource 2 (some .long) :: ([.fieldLink RX0 53 "EvenClock$Tree" "nodes" "I", .methodLink RX0 87 yX0_slackAbove, .instanceMethod yX0_slackAbove, .selects RX0 yX0_slackAbove yX0_slackAbove, .initialized RX0, .code yX0_slackAbove cX0_slackAbove 3 (some .long), .fieldLink RX0 18 "EvenClock$Circuit" "slackBelow" "[J", .methodLink RX0 105 yX0_wireDelay, .instanceMethod yX0_wireDelay, .selects RX0 yX0_wireDelay yX0_wireDelay, .code yX0_wireDelay cX0_wireDelay 3 (some .long), .fieldLink RX0 21 "EvenClock$Circuit" "resistance" "I", .fieldLink RX0 100 "EvenClock$Tree" "wire" "[I", .constantLong RX0 103 (2), .fieldLink RX0 15 "EvenClock$Circuit" "shows" "[J", .methodLink RX0 83 yX0_wireCapacity, .instanceMethod yX0_wireCapacity, .selects RX0 yX0_wireCapacity yX0_wireCapacity, .code yX0_wireCapacity cX0_wireCapacity 3 (some .long), .fieldLink RX0 25 "EvenClock$Circuit" "capacity" "I"] ++ wsX20 ++ wsX00)
def wsX0_delayTo_r1 : List Cond := [Cond.fieldLink RX0 48 "EvenClock$Tree" "leaves" "I", Cond.fieldLink RX0 53 "EvenClock$Tree" "nodes" "I", Cond.fieldLink RX0 108 "EvenClock$Tree" "parent" "[I", Cond.methodLink RX0 105 yX0_wireDelay, Cond.instanceMethod yX0_wireDelay, Cond.selects RX0 yX0_wireDelay yX0_wireDelay, Cond.initialized RX0, Cond.code yX0_wireDelay cX0_wireDelay 3 (some .long), Cond.fieldLink RX0 21 "EvenClock$Circuit" "resistance" "I", Cond.fieldLink RX0 100 "EvenClock$Tree" "wire" "[I", Cond.constantLong RX0 103 (2), Cond.fieldLink RX0 15 "EvenClock$Circuit" "shows" "[J", Cond.methodLink RX0 83 yX0_wireCapacity, Cond.instanceMethod yX0_wireCapacity, Cond.selects RX0 yX0_wireCapacity yX0_wireCapacity, Cond.code yX0_wireCapacity cX0_wireCapacity 3 (some .long), Cond.fieldLink RX0 25 "EvenClock$Circuit" "capacity" "I", Cond.methodLink RX0 56 yX2_bitOf, Cond.instanceMethod yX2_bitOf, Cond.selects RX2 yX2_bitOf yX2_bitOf, Cond.initialized RX2, Cond.code yX2_bitOf cX2_bitOf 2 (some .int), Cond.fieldLink RX2 48 "EvenClock$Tree" "leaves" "I", Cond.methodLink RX0 96 yX0_bufferDelay]
def wsX0_delayTo_r2 : List Cond := [Cond.instanceMethod yX0_bufferDelay, Cond.selects RX0 yX0_bufferDelay yX0_bufferDelay, Cond.code yX0_bufferDelay cX0_bufferDelay 2 (some .long), Cond.fieldLink RX0 34 "EvenClock$Circuit" "ownDelay" "I", Cond.fieldLink RX0 31 "EvenClock$Circuit" "drive" "I", Cond.fieldLink RX0 9 "EvenClock$Circuit" "bears" "[J"]
def wsX0_delayTo : List Cond := .code yX0_delayTo cX0_delayTo 8 (some .long) :: ((wsX0_delayTo_r1 ++ wsX0_delayTo_r2) ++ wsX20 ++ wsX00)
def wsX0_keepIfBetter : List Cond := .code yX0_keepIfBetter cX0_keepIfBetter 5 none :: ([.fieldLink RX0 41 "EvenClock$Circuit" "bestSetting" "I", .fieldLink RX0 37 "EvenClock$Circuit" "bestSlack" "J"] ++ wsX00)
def wsX0_tryFrom_r1 : List Cond := [Cond.fieldLink RX0 53 "EvenClock$Tree" "nodes" "I", Cond.methodLink RX0 115 yX0_slackAtSource, Cond.instanceMethod yX0_slackAtSource, Cond.selects RX0 yX0_slackAtSource yX0_slackAtSource, Cond.initialized RX0, Cond.code yX0_slackAtSource cX0_slackAtSource 2 (some .long), Cond.methodLink RX0 87 yX0_slackAbove, Cond.instanceMethod yX0_slackAbove, Cond.selects RX0 yX0_slackAbove yX0_slackAbove, Cond.code yX0_slackAbove cX0_slackAbove 3 (some .long), Cond.fieldLink RX0 18 "EvenClock$Circuit" "slackBelow" "[J", Cond.methodLink RX0 105 yX0_wireDelay, Cond.instanceMethod yX0_wireDelay, Cond.selects RX0 yX0_wireDelay yX0_wireDelay, Cond.code yX0_wireDelay cX0_wireDelay 3 (some .long), Cond.fieldLink RX0 21 "EvenClock$Circuit" "resistance" "I", Cond.fieldLink RX0 100 "EvenClock$Tree" "wire" "[I", Cond.constantLong RX0 103 (2), Cond.fieldLink RX0 15 "EvenClock$Circuit" "shows" "[J", Cond.methodLink RX0 83 yX0_wireCapacity, Cond.instanceMethod yX0_wireCapacity, Cond.selects RX0 yX0_wireCapacity yX0_wireCapacity, Cond.code yX0_wireCapacity cX0_wireCapacity 3 (some .long), Cond.fieldLink RX0 25 "EvenClock$Circuit" "capacity" "I"]
def wsX0_tryFrom_r2 : List Cond := [Cond.methodLink RX0 119 yX0_keepIfBetter, Cond.instanceMethod yX0_keepIfBetter, Cond.selects RX0 yX0_keepIfBetter yX0_keepIfBetter, Cond.code yX0_keepIfBetter cX0_keepIfBetter 5 none, Cond.fieldLink RX0 41 "EvenClock$Circuit" "bestSetting" "I", Cond.fieldLink RX0 37 "EvenClock$Circuit" "bestSlack" "J", Cond.methodLink RX0 60 yX0_weighJoin, Cond.instanceMethod yX0_weighJoin, Cond.selects RX0 yX0_weighJoin yX0_weighJoin, Cond.code yX0_weighJoin cX0_weighJoin 6 none, Cond.fieldLink RX0 77 "EvenClock$Tree" "left" "[I", Cond.fieldLink RX0 80 "EvenClock$Tree" "right" "[I", Cond.fieldLink RX0 9 "EvenClock$Circuit" "bears" "[J", Cond.methodLink RX0 90 Lib.MathLoose.min_long.x, Cond.static Lib.MathLoose.min_long.x, Cond.initialized "java/lang/Math", Cond.code Lib.MathLoose.min_long.x Lib.MathLoose.min_long.code 4 (some .long), Cond.constantLong RX0 64 (1024), Cond.fieldLink RX0 28 "EvenClock$Circuit" "input" "I", Cond.methodLink RX0 96 yX0_bufferDelay, Cond.instanceMethod yX0_bufferDelay, Cond.selects RX0 yX0_bufferDelay yX0_bufferDelay, Cond.code yX0_bufferDelay cX0_bufferDelay 2 (some .long), Cond.fieldLink RX0 34 "EvenClock$Circuit" "ownDelay" "I"]
def wsX0_tryFrom_r3 : List Cond := [Cond.fieldLink RX0 31 "EvenClock$Circuit" "drive" "I", Cond.methodLink RX0 111 yX0_tryFrom, Cond.static yX0_tryFrom, Cond.methodLink RX0 56 yX2_bitOf, Cond.instanceMethod yX2_bitOf, Cond.selects RX2 yX2_bitOf yX2_bitOf, Cond.initialized RX2, Cond.code yX2_bitOf cX2_bitOf 2 (some .int), Cond.fieldLink RX2 48 "EvenClock$Tree" "leaves" "I"]
def wsX0_tryFrom : List Cond := .code yX0_tryFrom cX0_tryFrom 4 none :: ((wsX0_tryFrom_r1 ++ (wsX0_tryFrom_r2 ++ wsX0_tryFrom_r3)) ++ wsX20 ++ wsX00)
def wsX0_findBest_r1 : List Cond := [Cond.fieldLink RX0 41 "EvenClock$Circuit" "bestSetting" "I", Cond.fieldLink RX0 48 "EvenClock$Tree" "leaves" "I", Cond.methodLink RX0 44 yX0_weighSinks, Cond.instanceMethod yX0_weighSinks, Cond.selects RX0 yX0_weighSinks yX0_weighSinks, Cond.initialized RX0, Cond.code yX0_weighSinks cX0_weighSinks 4 none, Cond.fieldLink RX0 9 "EvenClock$Circuit" "bears" "[J", Cond.constantLong RX0 64 (1024), Cond.fieldLink RX0 66 "EvenClock$SinkRows" "load" "[I", Cond.fieldLink RX0 15 "EvenClock$Circuit" "shows" "[J", Cond.fieldLink RX0 18 "EvenClock$Circuit" "slackBelow" "[J", Cond.constantLong RX0 72 (1048576), Cond.fieldLink RX0 74 "EvenClock$SinkRows" "need" "[I", Cond.methodLink RX0 111 yX0_tryFrom, Cond.static yX0_tryFrom, Cond.code yX0_tryFrom cX0_tryFrom 4 none, Cond.fieldLink RX0 53 "EvenClock$Tree" "nodes" "I", Cond.methodLink RX0 115 yX0_slackAtSource, Cond.instanceMethod yX0_slackAtSource, Cond.selects RX0 yX0_slackAtSource yX0_slackAtSource, Cond.code yX0_slackAtSource cX0_slackAtSource 2 (some .long), Cond.methodLink RX0 87 yX0_slackAbove, Cond.instanceMethod yX0_slackAbove]
def wsX0_findBest_r2 : List Cond := [Cond.selects RX0 yX0_slackAbove yX0_slackAbove, Cond.code yX0_slackAbove cX0_slackAbove 3 (some .long), Cond.methodLink RX0 105 yX0_wireDelay, Cond.instanceMethod yX0_wireDelay, Cond.selects RX0 yX0_wireDelay yX0_wireDelay, Cond.code yX0_wireDelay cX0_wireDelay 3 (some .long), Cond.fieldLink RX0 21 "EvenClock$Circuit" "resistance" "I", Cond.fieldLink RX0 100 "EvenClock$Tree" "wire" "[I", Cond.constantLong RX0 103 (2), Cond.methodLink RX0 83 yX0_wireCapacity, Cond.instanceMethod yX0_wireCapacity, Cond.selects RX0 yX0_wireCapacity yX0_wireCapacity, Cond.code yX0_wireCapacity cX0_wireCapacity 3 (some .long), Cond.fieldLink RX0 25 "EvenClock$Circuit" "capacity" "I", Cond.methodLink RX0 119 yX0_keepIfBetter, Cond.instanceMethod yX0_keepIfBetter, Cond.selects RX0 yX0_keepIfBetter yX0_keepIfBetter, Cond.code yX0_keepIfBetter cX0_keepIfBetter 5 none, Cond.fieldLink RX0 37 "EvenClock$Circuit" "bestSlack" "J", Cond.methodLink RX0 60 yX0_weighJoin, Cond.instanceMethod yX0_weighJoin, Cond.selects RX0 yX0_weighJoin yX0_weighJoin, Cond.code yX0_weighJoin cX0_weighJoin 6 none, Cond.fieldLink RX0 77 "EvenClock$Tree" "left" "[I"]
def wsX0_findBest_r3 : List Cond := [Cond.fieldLink RX0 80 "EvenClock$Tree" "right" "[I", Cond.methodLink RX0 90 Lib.MathLoose.min_long.x, Cond.static Lib.MathLoose.min_long.x, Cond.initialized "java/lang/Math", Cond.code Lib.MathLoose.min_long.x Lib.MathLoose.min_long.code 4 (some .long), Cond.fieldLink RX0 28 "EvenClock$Circuit" "input" "I", Cond.methodLink RX0 96 yX0_bufferDelay, Cond.instanceMethod yX0_bufferDelay, Cond.selects RX0 yX0_bufferDelay yX0_bufferDelay, Cond.code yX0_bufferDelay cX0_bufferDelay 2 (some .long), Cond.fieldLink RX0 34 "EvenClock$Circuit" "ownDelay" "I", Cond.fieldLink RX0 31 "EvenClock$Circuit" "drive" "I", Cond.methodLink RX0 56 yX2_bitOf, Cond.instanceMethod yX2_bitOf, Cond.selects RX2 yX2_bitOf yX2_bitOf, Cond.initialized RX2, Cond.code yX2_bitOf cX2_bitOf 2 (some .int), Cond.fieldLink RX2 48 "EvenClock$Tree" "leaves" "I"]
def wsX0_findBest : List Cond := .code yX0_findBest cX0_findBest 3 none :: ((wsX0_findBest_r1 ++ (wsX0_findBest_r2 ++ wsX0_findBest_r3)) ++ wsX00 ++ wsX20 ++ wsX10)
def wsX1_init : List Cond := .code yX1_init cX1_init 1 none :: ([.methodLink RX1 3 objectInit, .instanceMethod objectInit, .code objectInit ⟨#[0xb1]⟩ 1 none, .arrayClass .int, .fieldLink RX1 9 "EvenClock$SinkRows" "x" "[I", .fieldLink RX1 15 "EvenClock$SinkRows" "y" "[I", .fieldLink RX1 18 "EvenClock$SinkRows" "load" "[I", .fieldLink RX1 21 "EvenClock$SinkRows" "need" "[I", .fieldLink RX1 24 "EvenClock$SinkRows" "count" "I"] ++ wsX10)
def wsX1_append : List Cond := .code yX1_append cX1_append 6 (some .int) :: ([.fieldLink RX1 24 "EvenClock$SinkRows" "count" "I", .fieldLink RX1 9 "EvenClock$SinkRows" "x" "[I", .fieldLink RX1 15 "EvenClock$SinkRows" "y" "[I", .fieldLink RX1 18 "EvenClock$SinkRows" "load" "[I", .fieldLink RX1 21 "EvenClock$SinkRows" "need" "[I"] ++ wsX10)
def wsX1_isBefore : List Cond := .code yX1_isBefore cX1_isBefore 8 (some .boolean) :: ([.fieldLink RX1 9 "EvenClock$SinkRows" "x" "[I", .fieldLink RX1 15 "EvenClock$SinkRows" "y" "[I"] ++ wsX10)
def wsX2_init : List Cond := .code yX2_init cX2_init 1 none :: ([.methodLink RX2 3 objectInit, .instanceMethod objectInit, .code objectInit ⟨#[0xb1]⟩ 1 none, .arrayClass .int, .fieldLink RX2 9 "EvenClock$Tree" "left" "[I", .fieldLink RX2 15 "EvenClock$Tree" "right" "[I", .fieldLink RX2 18 "EvenClock$Tree" "parent" "[I", .fieldLink RX2 21 "EvenClock$Tree" "lowU" "[I", .fieldLink RX2 24 "EvenClock$Tree" "highU" "[I", .fieldLink RX2 27 "EvenClock$Tree" "lowV" "[I", .fieldLink RX2 30 "EvenClock$Tree" "highV" "[I", .fieldLink RX2 33 "EvenClock$Tree" "time" "[I", .fieldLink RX2 36 "EvenClock$Tree" "wire" "[I", .fieldLink RX2 39 "EvenClock$Tree" "u" "[I", .fieldLink RX2 42 "EvenClock$Tree" "v" "[I", .fieldLink RX2 45 "EvenClock$Tree" "row" "[I", .fieldLink RX2 48 "EvenClock$Tree" "leaves" "I", .fieldLink RX2 52 "EvenClock$Tree" "nodes" "I"] ++ wsX20)
def wsX3_placeU : List Cond := .code yX3_placeU cX3_placeU 2 (some .int) :: ([])
def wsX3_placeV : List Cond := .code yX3_placeV cX3_placeV 2 (some .int) :: ([])
def wsX2_plantSinks : List Cond := .code yX2_plantSinks cX2_plantSinks 5 none :: ([.fieldLink RX2 55 "EvenClock$SinkRows" "count" "I", .fieldLink RX2 48 "EvenClock$Tree" "leaves" "I", .fieldLink RX2 52 "EvenClock$Tree" "nodes" "I", .fieldLink RX2 60 "EvenClock$SinkRows" "x" "[I", .fieldLink RX2 63 "EvenClock$SinkRows" "y" "[I", .fieldLink RX2 9 "EvenClock$Tree" "left" "[I", .fieldLink RX2 15 "EvenClock$Tree" "right" "[I", .fieldLink RX2 18 "EvenClock$Tree" "parent" "[I", .fieldLink RX2 21 "EvenClock$Tree" "lowU" "[I", .fieldLink RX2 24 "EvenClock$Tree" "highU" "[I", .fieldLink RX2 27 "EvenClock$Tree" "lowV" "[I", .fieldLink RX2 30 "EvenClock$Tree" "highV" "[I", .fieldLink RX2 33 "EvenClock$Tree" "time" "[I", .static yX3_placeU, .initialized RX3, .code yX3_placeU cX3_placeU 2 (some .int), .static yX3_placeV, .code yX3_placeV cX3_placeV 2 (some .int)] ++ wsX10 ++ wsX20)
def wsX2_gapOf : List Cond := .code yX2_gapOf cX2_gapOf 4 (some .int) :: ([.methodLink RX2 99 Lib.Math.max.name, .static Lib.Math.max.name, .initialized "java/lang/Math", .code Lib.Math.max.name Lib.Math.max.code 2 (some .int)])
def wsX2_distanceOf : List Cond := .code yX2_distanceOf cX2_distanceOf 5 (some .int) :: ([.fieldLink RX2 21 "EvenClock$Tree" "lowU" "[I", .fieldLink RX2 24 "EvenClock$Tree" "highU" "[I", .fieldLink RX2 27 "EvenClock$Tree" "lowV" "[I", .fieldLink RX2 30 "EvenClock$Tree" "highV" "[I", .methodLink RX2 99 Lib.Math.max.name, .static Lib.Math.max.name, .initialized "java/lang/Math", .code Lib.Math.max.name Lib.Math.max.code 2 (some .int), .methodLink RX2 95 yX2_gapOf, .static yX2_gapOf, .initialized RX2, .code yX2_gapOf cX2_gapOf 4 (some .int)] ++ wsX20)
def wsX2_setWires : List Cond := .code yX2_setWires cX2_setWires 4 none :: ([.fieldLink RX2 33 "EvenClock$Tree" "time" "[I", .fieldLink RX2 36 "EvenClock$Tree" "wire" "[I"] ++ wsX20)
def wsX2_joinTwo_r1 : List Cond := [Cond.fieldLink RX2 52 "EvenClock$Tree" "nodes" "I", Cond.fieldLink RX2 9 "EvenClock$Tree" "left" "[I", Cond.fieldLink RX2 15 "EvenClock$Tree" "right" "[I", Cond.fieldLink RX2 18 "EvenClock$Tree" "parent" "[I", Cond.fieldLink RX2 21 "EvenClock$Tree" "lowU" "[I", Cond.fieldLink RX2 36 "EvenClock$Tree" "wire" "[I", Cond.methodLink RX2 99 Lib.Math.max.name, Cond.static Lib.Math.max.name, Cond.initialized "java/lang/Math", Cond.code Lib.Math.max.name Lib.Math.max.code 2 (some .int), Cond.fieldLink RX2 24 "EvenClock$Tree" "highU" "[I", Cond.methodLink RX2 108 Lib.Math.min.name, Cond.static Lib.Math.min.name, Cond.code Lib.Math.min.name Lib.Math.min.code 2 (some .int), Cond.fieldLink RX2 27 "EvenClock$Tree" "lowV" "[I", Cond.fieldLink RX2 30 "EvenClock$Tree" "highV" "[I", Cond.fieldLink RX2 33 "EvenClock$Tree" "time" "[I", Cond.methodLink RX2 77 yX2_distanceOf, Cond.instanceMethod yX2_distanceOf, Cond.selects RX2 yX2_distanceOf yX2_distanceOf, Cond.initialized RX2, Cond.code yX2_distanceOf cX2_distanceOf 5 (some .int), Cond.methodLink RX2 95 yX2_gapOf, Cond.static yX2_gapOf]
def wsX2_joinTwo_r2 : List Cond := [Cond.code yX2_gapOf cX2_gapOf 4 (some .int), Cond.methodLink RX2 104 yX2_setWires, Cond.instanceMethod yX2_setWires, Cond.selects RX2 yX2_setWires yX2_setWires, Cond.code yX2_setWires cX2_setWires 4 none]
def wsX2_joinTwo : List Cond := .code yX2_joinTwo cX2_joinTwo 4 (some .int) :: ((wsX2_joinTwo_r1 ++ wsX2_joinTwo_r2) ++ wsX20)
def wsX2_joinNearestPair_r1 : List Cond := [Cond.constant RX2 76 (2147483647), Cond.fieldLink RX2 52 "EvenClock$Tree" "nodes" "I", Cond.fieldLink RX2 18 "EvenClock$Tree" "parent" "[I", Cond.methodLink RX2 77 yX2_distanceOf, Cond.instanceMethod yX2_distanceOf, Cond.selects RX2 yX2_distanceOf yX2_distanceOf, Cond.initialized RX2, Cond.code yX2_distanceOf cX2_distanceOf 5 (some .int), Cond.fieldLink RX2 21 "EvenClock$Tree" "lowU" "[I", Cond.fieldLink RX2 24 "EvenClock$Tree" "highU" "[I", Cond.fieldLink RX2 27 "EvenClock$Tree" "lowV" "[I", Cond.fieldLink RX2 30 "EvenClock$Tree" "highV" "[I", Cond.methodLink RX2 99 Lib.Math.max.name, Cond.static Lib.Math.max.name, Cond.initialized "java/lang/Math", Cond.code Lib.Math.max.name Lib.Math.max.code 2 (some .int), Cond.methodLink RX2 95 yX2_gapOf, Cond.static yX2_gapOf, Cond.code yX2_gapOf cX2_gapOf 4 (some .int), Cond.methodLink RX2 80 yX2_joinTwo, Cond.instanceMethod yX2_joinTwo, Cond.selects RX2 yX2_joinTwo yX2_joinTwo, Cond.code yX2_joinTwo cX2_joinTwo 4 (some .int), Cond.fieldLink RX2 9 "EvenClock$Tree" "left" "[I"]
def wsX2_joinNearestPair_r2 : List Cond := [Cond.fieldLink RX2 15 "EvenClock$Tree" "right" "[I", Cond.fieldLink RX2 36 "EvenClock$Tree" "wire" "[I", Cond.methodLink RX2 108 Lib.Math.min.name, Cond.static Lib.Math.min.name, Cond.code Lib.Math.min.name Lib.Math.min.code 2 (some .int), Cond.fieldLink RX2 33 "EvenClock$Tree" "time" "[I", Cond.methodLink RX2 104 yX2_setWires, Cond.instanceMethod yX2_setWires, Cond.selects RX2 yX2_setWires yX2_setWires, Cond.code yX2_setWires cX2_setWires 4 none]
def wsX2_joinNearestPair : List Cond := .code yX2_joinNearestPair cX2_joinNearestPair 8 none :: ((wsX2_joinNearestPair_r1 ++ wsX2_joinNearestPair_r2) ++ wsX20)
def wsX2_joinByDistance_r1 : List Cond := [Cond.fieldLink RX2 48 "EvenClock$Tree" "leaves" "I", Cond.methodLink RX2 73 yX2_joinNearestPair, Cond.instanceMethod yX2_joinNearestPair, Cond.selects RX2 yX2_joinNearestPair yX2_joinNearestPair, Cond.initialized RX2, Cond.code yX2_joinNearestPair cX2_joinNearestPair 8 none, Cond.constant RX2 76 (2147483647), Cond.fieldLink RX2 52 "EvenClock$Tree" "nodes" "I", Cond.fieldLink RX2 18 "EvenClock$Tree" "parent" "[I", Cond.methodLink RX2 77 yX2_distanceOf, Cond.instanceMethod yX2_distanceOf, Cond.selects RX2 yX2_distanceOf yX2_distanceOf, Cond.code yX2_distanceOf cX2_distanceOf 5 (some .int), Cond.fieldLink RX2 21 "EvenClock$Tree" "lowU" "[I", Cond.fieldLink RX2 24 "EvenClock$Tree" "highU" "[I", Cond.fieldLink RX2 27 "EvenClock$Tree" "lowV" "[I", Cond.fieldLink RX2 30 "EvenClock$Tree" "highV" "[I", Cond.methodLink RX2 99 Lib.Math.max.name, Cond.static Lib.Math.max.name, Cond.initialized "java/lang/Math", Cond.code Lib.Math.max.name Lib.Math.max.code 2 (some .int), Cond.methodLink RX2 95 yX2_gapOf, Cond.static yX2_gapOf, Cond.code yX2_gapOf cX2_gapOf 4 (some .int)]
def wsX2_joinByDistance_r2 : List Cond := [Cond.methodLink RX2 80 yX2_joinTwo, Cond.instanceMethod yX2_joinTwo, Cond.selects RX2 yX2_joinTwo yX2_joinTwo, Cond.code yX2_joinTwo cX2_joinTwo 4 (some .int), Cond.fieldLink RX2 9 "EvenClock$Tree" "left" "[I", Cond.fieldLink RX2 15 "EvenClock$Tree" "right" "[I", Cond.fieldLink RX2 36 "EvenClock$Tree" "wire" "[I", Cond.methodLink RX2 108 Lib.Math.min.name, Cond.static Lib.Math.min.name, Cond.code Lib.Math.min.name Lib.Math.min.code 2 (some .int), Cond.fieldLink RX2 33 "EvenClock$Tree" "time" "[I", Cond.methodLink RX2 104 yX2_setWires, Cond.instanceMethod yX2_setWires, Cond.selects RX2 yX2_setWires yX2_setWires, Cond.code yX2_setWires cX2_setWires 4 none]
def wsX2_joinByDistance : List Cond := .code yX2_joinByDistance cX2_joinByDistance 2 none :: ((wsX2_joinByDistance_r1 ++ wsX2_joinByDistance_r2) ++ wsX20)
def wsX2_orderRow : List Cond := .code yX2_orderRow cX2_orderRow 8 none :: ([.fieldLink RX2 45 "EvenClock$Tree" "row" "[I", .methodLink RX2 91 yX1_isBefore, .instanceMethod yX1_isBefore, .selects RX1 yX1_isBefore yX1_isBefore, .initialized RX1, .code yX1_isBefore cX1_isBefore 8 (some .boolean), .fieldLink RX1 9 "EvenClock$SinkRows" "x" "[I", .fieldLink RX1 15 "EvenClock$SinkRows" "y" "[I"] ++ wsX20 ++ wsX10)
def wsX2_joinRow_r1 : List Cond := [Cond.fieldLink RX2 45 "EvenClock$Tree" "row" "[I", Cond.methodLink RX2 87 yX2_orderRow, Cond.instanceMethod yX2_orderRow, Cond.selects RX2 yX2_orderRow yX2_orderRow, Cond.initialized RX2, Cond.code yX2_orderRow cX2_orderRow 8 none, Cond.methodLink RX2 91 yX1_isBefore, Cond.instanceMethod yX1_isBefore, Cond.selects RX1 yX1_isBefore yX1_isBefore, Cond.initialized RX1, Cond.code yX1_isBefore cX1_isBefore 8 (some .boolean), Cond.fieldLink RX1 9 "EvenClock$SinkRows" "x" "[I", Cond.fieldLink RX1 15 "EvenClock$SinkRows" "y" "[I", Cond.methodLink RX2 83 yX2_joinRow, Cond.static yX2_joinRow, Cond.methodLink RX2 80 yX2_joinTwo, Cond.instanceMethod yX2_joinTwo, Cond.selects RX2 yX2_joinTwo yX2_joinTwo, Cond.code yX2_joinTwo cX2_joinTwo 4 (some .int), Cond.fieldLink RX2 52 "EvenClock$Tree" "nodes" "I", Cond.fieldLink RX2 9 "EvenClock$Tree" "left" "[I", Cond.fieldLink RX2 15 "EvenClock$Tree" "right" "[I", Cond.fieldLink RX2 18 "EvenClock$Tree" "parent" "[I", Cond.fieldLink RX2 21 "EvenClock$Tree" "lowU" "[I"]
def wsX2_joinRow_r2 : List Cond := [Cond.fieldLink RX2 36 "EvenClock$Tree" "wire" "[I", Cond.methodLink RX2 99 Lib.Math.max.name, Cond.static Lib.Math.max.name, Cond.initialized "java/lang/Math", Cond.code Lib.Math.max.name Lib.Math.max.code 2 (some .int), Cond.fieldLink RX2 24 "EvenClock$Tree" "highU" "[I", Cond.methodLink RX2 108 Lib.Math.min.name, Cond.static Lib.Math.min.name, Cond.code Lib.Math.min.name Lib.Math.min.code 2 (some .int), Cond.fieldLink RX2 27 "EvenClock$Tree" "lowV" "[I", Cond.fieldLink RX2 30 "EvenClock$Tree" "highV" "[I", Cond.fieldLink RX2 33 "EvenClock$Tree" "time" "[I", Cond.methodLink RX2 77 yX2_distanceOf, Cond.instanceMethod yX2_distanceOf, Cond.selects RX2 yX2_distanceOf yX2_distanceOf, Cond.code yX2_distanceOf cX2_distanceOf 5 (some .int), Cond.methodLink RX2 95 yX2_gapOf, Cond.static yX2_gapOf, Cond.code yX2_gapOf cX2_gapOf 4 (some .int), Cond.methodLink RX2 104 yX2_setWires, Cond.instanceMethod yX2_setWires, Cond.selects RX2 yX2_setWires yX2_setWires, Cond.code yX2_setWires cX2_setWires 4 none]
def wsX2_joinRow : List Cond := .code yX2_joinRow cX2_joinRow 8 (some .int) :: ((wsX2_joinRow_r1 ++ wsX2_joinRow_r2) ++ wsX20 ++ wsX10)
def wsX2_joinByCutting_r1 : List Cond := [Cond.fieldLink RX2 48 "EvenClock$Tree" "leaves" "I", Cond.fieldLink RX2 45 "EvenClock$Tree" "row" "[I", Cond.methodLink RX2 83 yX2_joinRow, Cond.static yX2_joinRow, Cond.initialized RX2, Cond.code yX2_joinRow cX2_joinRow 8 (some .int), Cond.methodLink RX2 87 yX2_orderRow, Cond.instanceMethod yX2_orderRow, Cond.selects RX2 yX2_orderRow yX2_orderRow, Cond.code yX2_orderRow cX2_orderRow 8 none, Cond.methodLink RX2 91 yX1_isBefore, Cond.instanceMethod yX1_isBefore, Cond.selects RX1 yX1_isBefore yX1_isBefore, Cond.initialized RX1, Cond.code yX1_isBefore cX1_isBefore 8 (some .boolean), Cond.fieldLink RX1 9 "EvenClock$SinkRows" "x" "[I", Cond.fieldLink RX1 15 "EvenClock$SinkRows" "y" "[I", Cond.methodLink RX2 80 yX2_joinTwo, Cond.instanceMethod yX2_joinTwo, Cond.selects RX2 yX2_joinTwo yX2_joinTwo, Cond.code yX2_joinTwo cX2_joinTwo 4 (some .int), Cond.fieldLink RX2 52 "EvenClock$Tree" "nodes" "I", Cond.fieldLink RX2 9 "EvenClock$Tree" "left" "[I", Cond.fieldLink RX2 15 "EvenClock$Tree" "right" "[I"]
def wsX2_joinByCutting_r2 : List Cond := [Cond.fieldLink RX2 18 "EvenClock$Tree" "parent" "[I", Cond.fieldLink RX2 21 "EvenClock$Tree" "lowU" "[I", Cond.fieldLink RX2 36 "EvenClock$Tree" "wire" "[I", Cond.methodLink RX2 99 Lib.Math.max.name, Cond.static Lib.Math.max.name, Cond.initialized "java/lang/Math", Cond.code Lib.Math.max.name Lib.Math.max.code 2 (some .int), Cond.fieldLink RX2 24 "EvenClock$Tree" "highU" "[I", Cond.methodLink RX2 108 Lib.Math.min.name, Cond.static Lib.Math.min.name, Cond.code Lib.Math.min.name Lib.Math.min.code 2 (some .int), Cond.fieldLink RX2 27 "EvenClock$Tree" "lowV" "[I", Cond.fieldLink RX2 30 "EvenClock$Tree" "highV" "[I", Cond.fieldLink RX2 33 "EvenClock$Tree" "time" "[I", Cond.methodLink RX2 77 yX2_distanceOf, Cond.instanceMethod yX2_distanceOf, Cond.selects RX2 yX2_distanceOf yX2_distanceOf, Cond.code yX2_distanceOf cX2_distanceOf 5 (some .int), Cond.methodLink RX2 95 yX2_gapOf, Cond.static yX2_gapOf, Cond.code yX2_gapOf cX2_gapOf 4 (some .int), Cond.methodLink RX2 104 yX2_setWires, Cond.instanceMethod yX2_setWires, Cond.selects RX2 yX2_setWires yX2_setWires]
def wsX2_joinByCutting_r3 : List Cond := [Cond.code yX2_setWires cX2_setWires 4 none]
def wsX2_joinByCutting : List Cond := .code yX2_joinByCutting cX2_joinByCutting 3 none :: ((wsX2_joinByCutting_r1 ++ (wsX2_joinByCutting_r2 ++ wsX2_joinByCutting_r3)) ++ wsX20 ++ wsX10)
def wsX2_standNear : List Cond := .code yX2_standNear cX2_standNear 4 none :: ([.fieldLink RX2 39 "EvenClock$Tree" "u" "[I", .fieldLink RX2 21 "EvenClock$Tree" "lowU" "[I", .fieldLink RX2 24 "EvenClock$Tree" "highU" "[I", .methodLink RX2 108 Lib.Math.min.name, .static Lib.Math.min.name, .initialized "java/lang/Math", .code Lib.Math.min.name Lib.Math.min.code 2 (some .int), .methodLink RX2 99 Lib.Math.max.name, .static Lib.Math.max.name, .code Lib.Math.max.name Lib.Math.max.code 2 (some .int), .fieldLink RX2 42 "EvenClock$Tree" "v" "[I", .fieldLink RX2 27 "EvenClock$Tree" "lowV" "[I", .fieldLink RX2 30 "EvenClock$Tree" "highV" "[I"] ++ wsX20)
def wsX2_choosePlaces : List Cond := .code yX2_choosePlaces cX2_choosePlaces 5 none :: ([.fieldLink RX2 52 "EvenClock$Tree" "nodes" "I", .fieldLink RX2 36 "EvenClock$Tree" "wire" "[I", .fieldLink RX2 39 "EvenClock$Tree" "u" "[I", .methodLink RX2 114 Lib.Math.abs.name, .static Lib.Math.abs.name, .initialized "java/lang/Math", .code Lib.Math.abs.name Lib.Math.abs.code 1 (some .int), .fieldLink RX2 42 "EvenClock$Tree" "v" "[I", .methodLink RX2 99 Lib.Math.max.name, .static Lib.Math.max.name, .code Lib.Math.max.name Lib.Math.max.code 2 (some .int), .fieldLink RX2 18 "EvenClock$Tree" "parent" "[I", .methodLink RX2 111 yX2_standNear, .instanceMethod yX2_standNear, .selects RX2 yX2_standNear yX2_standNear, .initialized RX2, .code yX2_standNear cX2_standNear 4 none, .fieldLink RX2 21 "EvenClock$Tree" "lowU" "[I", .fieldLink RX2 24 "EvenClock$Tree" "highU" "[I", .methodLink RX2 108 Lib.Math.min.name, .static Lib.Math.min.name, .code Lib.Math.min.name Lib.Math.min.code 2 (some .int), .fieldLink RX2 27 "EvenClock$Tree" "lowV" "[I", .fieldLink RX2 30 "EvenClock$Tree" "highV" "[I"] ++ wsX20)
def wsX2_partOf : List Cond := .code yX2_partOf cX2_partOf 3 (some .int) :: ([.fieldLink RX2 9 "EvenClock$Tree" "left" "[I", .fieldLink RX2 15 "EvenClock$Tree" "right" "[I", .fieldLink RX2 18 "EvenClock$Tree" "parent" "[I", .fieldLink RX2 21 "EvenClock$Tree" "lowU" "[I", .fieldLink RX2 24 "EvenClock$Tree" "highU" "[I", .fieldLink RX2 27 "EvenClock$Tree" "lowV" "[I", .fieldLink RX2 30 "EvenClock$Tree" "highV" "[I", .fieldLink RX2 33 "EvenClock$Tree" "time" "[I", .fieldLink RX2 36 "EvenClock$Tree" "wire" "[I", .fieldLink RX2 39 "EvenClock$Tree" "u" "[I", .fieldLink RX2 42 "EvenClock$Tree" "v" "[I"] ++ wsX20)
def wsX2_wireSum : List Cond := .code yX2_wireSum cX2_wireSum 3 (some .int) :: ([.fieldLink RX2 52 "EvenClock$Tree" "nodes" "I", .fieldLink RX2 36 "EvenClock$Tree" "wire" "[I"] ++ wsX20)
def wsX2_joinsAbove : List Cond := .code yX2_joinsAbove cX2_joinsAbove 5 (some .int) :: ([.fieldLink RX2 48 "EvenClock$Tree" "leaves" "I", .fieldLink RX2 52 "EvenClock$Tree" "nodes" "I", .fieldLink RX2 18 "EvenClock$Tree" "parent" "[I"] ++ wsX20)
def wsX3_init_r1 : List Cond := [Cond.methodLink RX3 3 objectInit, Cond.instanceMethod objectInit, Cond.code objectInit ⟨#[0xb1]⟩ 1 none, Cond.classLink RX3 9 RX1, Cond.instantiable RX1 5, Cond.initialized RX1, Cond.fieldLink RX3 12 "EvenClock" "given" "LEvenClock$SinkRows;", Cond.classLink RX3 16 RX2, Cond.instantiable RX2 14, Cond.initialized RX2, Cond.fieldLink RX3 19 "EvenClock" "tree" "LEvenClock$Tree;", Cond.classLink RX3 23 RX0, Cond.instantiable RX0 10, Cond.initialized RX0, Cond.fieldLink RX3 26 "EvenClock" "circuit" "LEvenClock$Circuit;", Cond.fieldLink RX3 30 "EvenClock" "sourceX" "I", Cond.fieldLink RX3 34 "EvenClock" "sourceY" "I", Cond.fieldLink RX3 37 "EvenClock" "built" "Z", Cond.fieldLink RX3 41 "EvenClock" "buffered" "I", Cond.instanceMethod yX1_init, Cond.code yX1_init cX1_init 1 none, Cond.methodLink RX1 3 objectInit, Cond.arrayClass .int, Cond.fieldLink RX1 9 "EvenClock$SinkRows" "x" "[I"]
def wsX3_init_r2 : List Cond := [Cond.fieldLink RX1 15 "EvenClock$SinkRows" "y" "[I", Cond.fieldLink RX1 18 "EvenClock$SinkRows" "load" "[I", Cond.fieldLink RX1 21 "EvenClock$SinkRows" "need" "[I", Cond.fieldLink RX1 24 "EvenClock$SinkRows" "count" "I", Cond.instanceMethod yX2_init, Cond.code yX2_init cX2_init 1 none, Cond.methodLink RX2 3 objectInit, Cond.fieldLink RX2 9 "EvenClock$Tree" "left" "[I", Cond.fieldLink RX2 15 "EvenClock$Tree" "right" "[I", Cond.fieldLink RX2 18 "EvenClock$Tree" "parent" "[I", Cond.fieldLink RX2 21 "EvenClock$Tree" "lowU" "[I", Cond.fieldLink RX2 24 "EvenClock$Tree" "highU" "[I", Cond.fieldLink RX2 27 "EvenClock$Tree" "lowV" "[I", Cond.fieldLink RX2 30 "EvenClock$Tree" "highV" "[I", Cond.fieldLink RX2 33 "EvenClock$Tree" "time" "[I", Cond.fieldLink RX2 36 "EvenClock$Tree" "wire" "[I", Cond.fieldLink RX2 39 "EvenClock$Tree" "u" "[I", Cond.fieldLink RX2 42 "EvenClock$Tree" "v" "[I", Cond.fieldLink RX2 45 "EvenClock$Tree" "row" "[I", Cond.fieldLink RX2 48 "EvenClock$Tree" "leaves" "I", Cond.fieldLink RX2 52 "EvenClock$Tree" "nodes" "I", Cond.instanceMethod yX0_init, Cond.code yX0_init cX0_init 1 none, Cond.methodLink RX0 3 objectInit]
def wsX3_init_r3 : List Cond := [Cond.arrayClass .long, Cond.fieldLink RX0 9 "EvenClock$Circuit" "bears" "[J", Cond.fieldLink RX0 15 "EvenClock$Circuit" "shows" "[J", Cond.fieldLink RX0 18 "EvenClock$Circuit" "slackBelow" "[J", Cond.fieldLink RX0 21 "EvenClock$Circuit" "resistance" "I", Cond.fieldLink RX0 25 "EvenClock$Circuit" "capacity" "I", Cond.fieldLink RX0 28 "EvenClock$Circuit" "input" "I", Cond.fieldLink RX0 31 "EvenClock$Circuit" "drive" "I", Cond.fieldLink RX0 34 "EvenClock$Circuit" "ownDelay" "I", Cond.fieldLink RX0 37 "EvenClock$Circuit" "bestSlack" "J", Cond.fieldLink RX0 41 "EvenClock$Circuit" "bestSetting" "I"]
def wsX3_init : List Cond := .code yX3_init cX3_init 1 none :: ((wsX3_init_r1 ++ (wsX3_init_r2 ++ wsX3_init_r3)) ++ wsX10 ++ wsX30 ++ wsX20 ++ wsX00)
def wsX3_isWithin : List Cond := .code yX3_isWithin cX3_isWithin 3 (some .boolean) :: ([])
def wsX3_isPlace : List Cond := .code yX3_isPlace cX3_isPlace 2 (some .boolean) :: ([.methodLink RX3 48 yX3_isWithin, .static yX3_isWithin, .initialized RX3, .code yX3_isWithin cX3_isWithin 3 (some .boolean)])
def wsX3_sink_r1 : List Cond := [Cond.classLink RX3 53 "java/lang/IllegalArgumentException", Cond.initialized "java/lang/IllegalArgumentException", Cond.classLink RX3 63 "java/lang/UnsupportedOperationException", Cond.initialized "java/lang/UnsupportedOperationException", Cond.constant RX3 52 (1000000000), Cond.fieldLink RX3 12 "EvenClock" "given" "LEvenClock$SinkRows;", Cond.fieldLink RX3 60 "EvenClock$SinkRows" "count" "I", Cond.fieldLink RX3 37 "EvenClock" "built" "Z", Cond.methodLink RX3 44 yX3_isPlace, Cond.static yX3_isPlace, Cond.initialized RX3, Cond.code yX3_isPlace cX3_isPlace 2 (some .boolean), Cond.methodLink RX3 48 yX3_isWithin, Cond.static yX3_isWithin, Cond.code yX3_isWithin cX3_isWithin 3 (some .boolean), Cond.methodLink RX3 68 yX1_append, Cond.instanceMethod yX1_append, Cond.selects RX1 yX1_append yX1_append, Cond.initialized RX1, Cond.code yX1_append cX1_append 6 (some .int), Cond.fieldLink RX1 24 "EvenClock$SinkRows" "count" "I", Cond.fieldLink RX1 9 "EvenClock$SinkRows" "x" "[I", Cond.fieldLink RX1 15 "EvenClock$SinkRows" "y" "[I", Cond.fieldLink RX1 18 "EvenClock$SinkRows" "load" "[I"]
def wsX3_sink_r2 : List Cond := [Cond.fieldLink RX1 21 "EvenClock$SinkRows" "need" "[I"]
def wsX3_sink : List Cond := .code yX3_sink cX3_sink 5 (some .int) :: ((wsX3_sink_r1 ++ wsX3_sink_r2) ++ wsX30 ++ wsX10 ++ (vx_atS RX3 57 "java/lang/IllegalArgumentException" ["java/lang/RuntimeException", "java/lang/Exception"]).filter goodWord ++ (vx_atS RX3 67 "java/lang/UnsupportedOperationException" ["java/lang/RuntimeException", "java/lang/Exception"]).filter goodWord)
def wsX3_cut : List Cond := .code yX3_cut cX3_cut 2 none :: ([.classLink RX3 53 "java/lang/IllegalArgumentException", .initialized "java/lang/IllegalArgumentException", .fieldLink RX3 12 "EvenClock" "given" "LEvenClock$SinkRows;", .fieldLink RX3 60 "EvenClock$SinkRows" "count" "I", .fieldLink RX3 37 "EvenClock" "built" "Z", .methodLink RX3 48 yX3_isWithin, .static yX3_isWithin, .initialized RX3, .code yX3_isWithin cX3_isWithin 3 (some .boolean)] ++ wsX30 ++ wsX10 ++ (vx_atS RX3 57 "java/lang/IllegalArgumentException" ["java/lang/RuntimeException", "java/lang/Exception"]).filter goodWord)
def wsX3_source : List Cond := .code yX3_source cX3_source 3 none :: ([.classLink RX3 53 "java/lang/IllegalArgumentException", .initialized "java/lang/IllegalArgumentException", .fieldLink RX3 37 "EvenClock" "built" "Z", .fieldLink RX3 30 "EvenClock" "sourceX" "I", .fieldLink RX3 34 "EvenClock" "sourceY" "I", .methodLink RX3 44 yX3_isPlace, .static yX3_isPlace, .initialized RX3, .code yX3_isPlace cX3_isPlace 2 (some .boolean), .methodLink RX3 48 yX3_isWithin, .static yX3_isWithin, .code yX3_isWithin cX3_isWithin 3 (some .boolean)] ++ wsX30 ++ (vx_atS RX3 57 "java/lang/IllegalArgumentException" ["java/lang/RuntimeException", "java/lang/Exception"]).filter goodWord)
def wsX3_wires : List Cond := .code yX3_wires cX3_wires 3 none :: ([.classLink RX3 53 "java/lang/IllegalArgumentException", .initialized "java/lang/IllegalArgumentException", .fieldLink RX3 26 "EvenClock" "circuit" "LEvenClock$Circuit;", .fieldLink RX3 78 "EvenClock$Circuit" "resistance" "I", .fieldLink RX3 81 "EvenClock$Circuit" "capacity" "I", .methodLink RX3 48 yX3_isWithin, .static yX3_isWithin, .initialized RX3, .code yX3_isWithin cX3_isWithin 3 (some .boolean)] ++ wsX30 ++ wsX00 ++ (vx_atS RX3 57 "java/lang/IllegalArgumentException" ["java/lang/RuntimeException", "java/lang/Exception"]).filter goodWord)
def wsX3_buffer : List Cond := .code yX3_buffer cX3_buffer 4 none :: ([.classLink RX3 53 "java/lang/IllegalArgumentException", .initialized "java/lang/IllegalArgumentException", .constant RX3 84 (1000000), .constant RX3 52 (1000000000), .fieldLink RX3 26 "EvenClock" "circuit" "LEvenClock$Circuit;", .fieldLink RX3 87 "EvenClock$Circuit" "input" "I", .fieldLink RX3 90 "EvenClock$Circuit" "drive" "I", .fieldLink RX3 93 "EvenClock$Circuit" "ownDelay" "I", .methodLink RX3 48 yX3_isWithin, .static yX3_isWithin, .initialized RX3, .code yX3_isWithin cX3_isWithin 3 (some .boolean)] ++ wsX30 ++ wsX00 ++ (vx_atS RX3 57 "java/lang/IllegalArgumentException" ["java/lang/RuntimeException", "java/lang/Exception"]).filter goodWord)
def wsX3_sinks : List Cond := .code yX3_sinks cX3_sinks 1 (some .int) :: ([.fieldLink RX3 12 "EvenClock" "given" "LEvenClock$SinkRows;", .fieldLink RX3 60 "EvenClock$SinkRows" "count" "I"] ++ wsX30 ++ wsX10)
def wsX3_build_r1 : List Cond := [Cond.classLink RX3 53 "java/lang/IllegalArgumentException", Cond.initialized "java/lang/IllegalArgumentException", Cond.classLink RX3 98 "java/util/NoSuchElementException", Cond.initialized "java/util/NoSuchElementException", Cond.fieldLink RX3 12 "EvenClock" "given" "LEvenClock$SinkRows;", Cond.fieldLink RX3 60 "EvenClock$SinkRows" "count" "I", Cond.fieldLink RX3 19 "EvenClock" "tree" "LEvenClock$Tree;", Cond.fieldLink RX3 30 "EvenClock" "sourceX" "I", Cond.fieldLink RX3 34 "EvenClock" "sourceY" "I", Cond.fieldLink RX3 37 "EvenClock" "built" "Z", Cond.fieldLink RX3 41 "EvenClock" "buffered" "I", Cond.fieldLink RX3 124 "EvenClock$Tree" "nodes" "I", Cond.methodLink RX3 48 yX3_isWithin, Cond.static yX3_isWithin, Cond.initialized RX3, Cond.code yX3_isWithin cX3_isWithin 3 (some .boolean), Cond.methodLink RX3 103 yX2_plantSinks, Cond.instanceMethod yX2_plantSinks, Cond.selects RX2 yX2_plantSinks yX2_plantSinks, Cond.initialized RX2, Cond.code yX2_plantSinks cX2_plantSinks 5 none, Cond.fieldLink RX2 55 "EvenClock$SinkRows" "count" "I", Cond.fieldLink RX2 48 "EvenClock$Tree" "leaves" "I", Cond.fieldLink RX2 52 "EvenClock$Tree" "nodes" "I"]
def wsX3_build_r2 : List Cond := [Cond.fieldLink RX2 60 "EvenClock$SinkRows" "x" "[I", Cond.fieldLink RX2 63 "EvenClock$SinkRows" "y" "[I", Cond.fieldLink RX2 9 "EvenClock$Tree" "left" "[I", Cond.fieldLink RX2 15 "EvenClock$Tree" "right" "[I", Cond.fieldLink RX2 18 "EvenClock$Tree" "parent" "[I", Cond.fieldLink RX2 21 "EvenClock$Tree" "lowU" "[I", Cond.fieldLink RX2 24 "EvenClock$Tree" "highU" "[I", Cond.fieldLink RX2 27 "EvenClock$Tree" "lowV" "[I", Cond.fieldLink RX2 30 "EvenClock$Tree" "highV" "[I", Cond.fieldLink RX2 33 "EvenClock$Tree" "time" "[I", Cond.static yX3_placeU, Cond.code yX3_placeU cX3_placeU 2 (some .int), Cond.static yX3_placeV, Cond.code yX3_placeV cX3_placeV 2 (some .int), Cond.methodLink RX3 107 yX2_joinByDistance, Cond.instanceMethod yX2_joinByDistance, Cond.selects RX2 yX2_joinByDistance yX2_joinByDistance, Cond.code yX2_joinByDistance cX2_joinByDistance 2 none, Cond.methodLink RX2 73 yX2_joinNearestPair, Cond.instanceMethod yX2_joinNearestPair, Cond.selects RX2 yX2_joinNearestPair yX2_joinNearestPair, Cond.code yX2_joinNearestPair cX2_joinNearestPair 8 none, Cond.constant RX2 76 (2147483647), Cond.methodLink RX2 77 yX2_distanceOf]
def wsX3_build_r3 : List Cond := [Cond.instanceMethod yX2_distanceOf, Cond.selects RX2 yX2_distanceOf yX2_distanceOf, Cond.code yX2_distanceOf cX2_distanceOf 5 (some .int), Cond.methodLink RX2 99 Lib.Math.max.name, Cond.static Lib.Math.max.name, Cond.initialized "java/lang/Math", Cond.code Lib.Math.max.name Lib.Math.max.code 2 (some .int), Cond.methodLink RX2 95 yX2_gapOf, Cond.static yX2_gapOf, Cond.code yX2_gapOf cX2_gapOf 4 (some .int), Cond.methodLink RX2 80 yX2_joinTwo, Cond.instanceMethod yX2_joinTwo, Cond.selects RX2 yX2_joinTwo yX2_joinTwo, Cond.code yX2_joinTwo cX2_joinTwo 4 (some .int), Cond.fieldLink RX2 36 "EvenClock$Tree" "wire" "[I", Cond.methodLink RX2 108 Lib.Math.min.name, Cond.static Lib.Math.min.name, Cond.code Lib.Math.min.name Lib.Math.min.code 2 (some .int), Cond.methodLink RX2 104 yX2_setWires, Cond.instanceMethod yX2_setWires, Cond.selects RX2 yX2_setWires yX2_setWires, Cond.code yX2_setWires cX2_setWires 4 none, Cond.methodLink RX3 110 yX2_joinByCutting, Cond.instanceMethod yX2_joinByCutting]
def wsX3_build_r4 : List Cond := [Cond.selects RX2 yX2_joinByCutting yX2_joinByCutting, Cond.code yX2_joinByCutting cX2_joinByCutting 3 none, Cond.fieldLink RX2 45 "EvenClock$Tree" "row" "[I", Cond.methodLink RX2 83 yX2_joinRow, Cond.static yX2_joinRow, Cond.code yX2_joinRow cX2_joinRow 8 (some .int), Cond.methodLink RX2 87 yX2_orderRow, Cond.instanceMethod yX2_orderRow, Cond.selects RX2 yX2_orderRow yX2_orderRow, Cond.code yX2_orderRow cX2_orderRow 8 none, Cond.methodLink RX2 91 yX1_isBefore, Cond.instanceMethod yX1_isBefore, Cond.selects RX1 yX1_isBefore yX1_isBefore, Cond.initialized RX1, Cond.code yX1_isBefore cX1_isBefore 8 (some .boolean), Cond.fieldLink RX1 9 "EvenClock$SinkRows" "x" "[I", Cond.fieldLink RX1 15 "EvenClock$SinkRows" "y" "[I", Cond.methodLink RX3 113 yX3_placeU, Cond.methodLink RX3 117 yX3_placeV, Cond.methodLink RX3 120 yX2_choosePlaces, Cond.instanceMethod yX2_choosePlaces, Cond.selects RX2 yX2_choosePlaces yX2_choosePlaces, Cond.code yX2_choosePlaces cX2_choosePlaces 5 none, Cond.fieldLink RX2 39 "EvenClock$Tree" "u" "[I"]
def wsX3_build_r5 : List Cond := [Cond.methodLink RX2 114 Lib.Math.abs.name, Cond.static Lib.Math.abs.name, Cond.code Lib.Math.abs.name Lib.Math.abs.code 1 (some .int), Cond.fieldLink RX2 42 "EvenClock$Tree" "v" "[I", Cond.methodLink RX2 111 yX2_standNear, Cond.instanceMethod yX2_standNear, Cond.selects RX2 yX2_standNear yX2_standNear, Cond.code yX2_standNear cX2_standNear 4 none]
def wsX3_build : List Cond := .code yX3_build cX3_build 2 (some .int) :: ((wsX3_build_r1 ++ (wsX3_build_r2 ++ (wsX3_build_r3 ++ (wsX3_build_r4 ++ wsX3_build_r5)))) ++ wsX30 ++ wsX10 ++ wsX20 ++ (vx_atS RX3 57 "java/lang/IllegalArgumentException" ["java/lang/RuntimeException", "java/lang/Exception"]).filter goodWord ++ (xn_atS RX3 102).filter goodWord)
def wsX3_requireTree : List Cond := .code yX3_requireTree cX3_requireTree 1 none :: ([.classLink RX3 190 "java/lang/IllegalStateException", .initialized "java/lang/IllegalStateException", .fieldLink RX3 37 "EvenClock" "built" "Z"] ++ wsX30 ++ (vx_atS RX3 194 "java/lang/IllegalStateException" ["java/lang/RuntimeException", "java/lang/Exception"]).filter goodWord)
def wsX3_node_r1 : List Cond := [Cond.classLink RX3 130 "java/lang/IndexOutOfBoundsException", Cond.initialized "java/lang/IndexOutOfBoundsException", Cond.fieldLink RX3 19 "EvenClock" "tree" "LEvenClock$Tree;", Cond.fieldLink RX3 124 "EvenClock$Tree" "nodes" "I", Cond.methodLink RX3 127 yX3_requireTree, Cond.instanceMethod yX3_requireTree, Cond.selects RX3 yX3_requireTree yX3_requireTree, Cond.initialized RX3, Cond.code yX3_requireTree cX3_requireTree 1 none, Cond.classLink RX3 190 "java/lang/IllegalStateException", Cond.initialized "java/lang/IllegalStateException", Cond.fieldLink RX3 37 "EvenClock" "built" "Z", Cond.methodLink RX3 48 yX3_isWithin, Cond.static yX3_isWithin, Cond.code yX3_isWithin cX3_isWithin 3 (some .boolean), Cond.methodLink RX3 135 yX2_partOf, Cond.instanceMethod yX2_partOf, Cond.selects RX2 yX2_partOf yX2_partOf, Cond.initialized RX2, Cond.code yX2_partOf cX2_partOf 3 (some .int), Cond.fieldLink RX2 9 "EvenClock$Tree" "left" "[I", Cond.fieldLink RX2 15 "EvenClock$Tree" "right" "[I", Cond.fieldLink RX2 18 "EvenClock$Tree" "parent" "[I", Cond.fieldLink RX2 21 "EvenClock$Tree" "lowU" "[I"]
def wsX3_node_r2 : List Cond := [Cond.fieldLink RX2 24 "EvenClock$Tree" "highU" "[I", Cond.fieldLink RX2 27 "EvenClock$Tree" "lowV" "[I", Cond.fieldLink RX2 30 "EvenClock$Tree" "highV" "[I", Cond.fieldLink RX2 33 "EvenClock$Tree" "time" "[I", Cond.fieldLink RX2 36 "EvenClock$Tree" "wire" "[I", Cond.fieldLink RX2 39 "EvenClock$Tree" "u" "[I", Cond.fieldLink RX2 42 "EvenClock$Tree" "v" "[I"]
def wsX3_node : List Cond := .code yX3_node cX3_node 3 (some .int) :: ((wsX3_node_r1 ++ wsX3_node_r2) ++ wsX30 ++ wsX20 ++ (vx_atS RX3 134 "java/lang/IndexOutOfBoundsException" ["java/lang/RuntimeException", "java/lang/Exception"]).filter goodWord ++ (vx_atS RX3 194 "java/lang/IllegalStateException" ["java/lang/RuntimeException", "java/lang/Exception"]).filter goodWord)
def wsX3_length : List Cond := .code yX3_length cX3_length 1 (some .int) :: ([.fieldLink RX3 19 "EvenClock" "tree" "LEvenClock$Tree;", .methodLink RX3 127 yX3_requireTree, .instanceMethod yX3_requireTree, .selects RX3 yX3_requireTree yX3_requireTree, .initialized RX3, .code yX3_requireTree cX3_requireTree 1 none, .classLink RX3 190 "java/lang/IllegalStateException", .initialized "java/lang/IllegalStateException", .fieldLink RX3 37 "EvenClock" "built" "Z", .methodLink RX3 138 yX2_wireSum, .instanceMethod yX2_wireSum, .selects RX2 yX2_wireSum yX2_wireSum, .initialized RX2, .code yX2_wireSum cX2_wireSum 3 (some .int), .fieldLink RX2 52 "EvenClock$Tree" "nodes" "I", .fieldLink RX2 36 "EvenClock$Tree" "wire" "[I"] ++ wsX30 ++ wsX20 ++ (vx_atS RX3 194 "java/lang/IllegalStateException" ["java/lang/RuntimeException", "java/lang/Exception"]).filter goodWord)
def wsX3_requireSink : List Cond := .code yX3_requireSink cX3_requireSink 2 none :: ([.classLink RX3 130 "java/lang/IndexOutOfBoundsException", .initialized "java/lang/IndexOutOfBoundsException", .fieldLink RX3 19 "EvenClock" "tree" "LEvenClock$Tree;", .fieldLink RX3 150 "EvenClock$Tree" "leaves" "I", .methodLink RX3 48 yX3_isWithin, .static yX3_isWithin, .initialized RX3, .code yX3_isWithin cX3_isWithin 3 (some .boolean)] ++ wsX30 ++ wsX20 ++ (vx_atS RX3 134 "java/lang/IndexOutOfBoundsException" ["java/lang/RuntimeException", "java/lang/Exception"]).filter goodWord)
def wsX3_depth_r1 : List Cond := [Cond.fieldLink RX3 19 "EvenClock" "tree" "LEvenClock$Tree;", Cond.methodLink RX3 127 yX3_requireTree, Cond.instanceMethod yX3_requireTree, Cond.selects RX3 yX3_requireTree yX3_requireTree, Cond.initialized RX3, Cond.code yX3_requireTree cX3_requireTree 1 none, Cond.classLink RX3 190 "java/lang/IllegalStateException", Cond.initialized "java/lang/IllegalStateException", Cond.fieldLink RX3 37 "EvenClock" "built" "Z", Cond.methodLink RX3 142 yX3_requireSink, Cond.instanceMethod yX3_requireSink, Cond.selects RX3 yX3_requireSink yX3_requireSink, Cond.code yX3_requireSink cX3_requireSink 2 none, Cond.classLink RX3 130 "java/lang/IndexOutOfBoundsException", Cond.initialized "java/lang/IndexOutOfBoundsException", Cond.fieldLink RX3 150 "EvenClock$Tree" "leaves" "I", Cond.methodLink RX3 48 yX3_isWithin, Cond.static yX3_isWithin, Cond.code yX3_isWithin cX3_isWithin 3 (some .boolean), Cond.methodLink RX3 146 yX2_joinsAbove, Cond.instanceMethod yX2_joinsAbove, Cond.selects RX2 yX2_joinsAbove yX2_joinsAbove, Cond.initialized RX2, Cond.code yX2_joinsAbove cX2_joinsAbove 5 (some .int)]
def wsX3_depth_r2 : List Cond := [Cond.fieldLink RX2 48 "EvenClock$Tree" "leaves" "I", Cond.fieldLink RX2 52 "EvenClock$Tree" "nodes" "I", Cond.fieldLink RX2 18 "EvenClock$Tree" "parent" "[I"]
def wsX3_depth : List Cond := .code yX3_depth cX3_depth 2 (some .int) :: ((wsX3_depth_r1 ++ wsX3_depth_r2) ++ wsX30 ++ wsX20 ++ (vx_atS RX3 194 "java/lang/IllegalStateException" ["java/lang/RuntimeException", "java/lang/Exception"]).filter goodWord ++ (vx_atS RX3 134 "java/lang/IndexOutOfBoundsException" ["java/lang/RuntimeException", "java/lang/Exception"]).filter goodWord)
def wsX3_set : List Cond := .code yX3_set cX3_set 5 (some .boolean) :: ([.classLink RX3 130 "java/lang/IndexOutOfBoundsException", .initialized "java/lang/IndexOutOfBoundsException", .fieldLink RX3 19 "EvenClock" "tree" "LEvenClock$Tree;", .fieldLink RX3 150 "EvenClock$Tree" "leaves" "I", .fieldLink RX3 124 "EvenClock$Tree" "nodes" "I", .fieldLink RX3 41 "EvenClock" "buffered" "I", .methodLink RX3 127 yX3_requireTree, .instanceMethod yX3_requireTree, .selects RX3 yX3_requireTree yX3_requireTree, .initialized RX3, .code yX3_requireTree cX3_requireTree 1 none, .classLink RX3 190 "java/lang/IllegalStateException", .initialized "java/lang/IllegalStateException", .fieldLink RX3 37 "EvenClock" "built" "Z", .methodLink RX3 48 yX3_isWithin, .static yX3_isWithin, .code yX3_isWithin cX3_isWithin 3 (some .boolean), .methodLink RX3 155 yX2_bitOf, .instanceMethod yX2_bitOf, .selects RX2 yX2_bitOf yX2_bitOf, .initialized RX2, .code yX2_bitOf cX2_bitOf 2 (some .int), .fieldLink RX2 48 "EvenClock$Tree" "leaves" "I"] ++ wsX30 ++ wsX20 ++ (vx_atS RX3 134 "java/lang/IndexOutOfBoundsException" ["java/lang/RuntimeException", "java/lang/Exception"]).filter goodWord ++ (vx_atS RX3 194 "java/lang/IllegalStateException" ["java/lang/RuntimeException", "java/lang/Exception"]).filter goodWord)
def wsX3_setting : List Cond := .code yX3_setting cX3_setting 1 (some .int) :: ([.fieldLink RX3 41 "EvenClock" "buffered" "I", .methodLink RX3 127 yX3_requireTree, .instanceMethod yX3_requireTree, .selects RX3 yX3_requireTree yX3_requireTree, .initialized RX3, .code yX3_requireTree cX3_requireTree 1 none, .classLink RX3 190 "java/lang/IllegalStateException", .initialized "java/lang/IllegalStateException", .fieldLink RX3 37 "EvenClock" "built" "Z"] ++ wsX30 ++ (vx_atS RX3 194 "java/lang/IllegalStateException" ["java/lang/RuntimeException", "java/lang/Exception"]).filter goodWord)
def wsX3_load_r1 : List Cond := [Cond.classLink RX3 130 "java/lang/IndexOutOfBoundsException", Cond.initialized "java/lang/IndexOutOfBoundsException", Cond.fieldLink RX3 19 "EvenClock" "tree" "LEvenClock$Tree;", Cond.fieldLink RX3 124 "EvenClock$Tree" "nodes" "I", Cond.fieldLink RX3 26 "EvenClock" "circuit" "LEvenClock$Circuit;", Cond.fieldLink RX3 12 "EvenClock" "given" "LEvenClock$SinkRows;", Cond.fieldLink RX3 41 "EvenClock" "buffered" "I", Cond.fieldLink RX3 164 "EvenClock$Circuit" "shows" "[J", Cond.fieldLink RX3 168 "EvenClock$Circuit" "bears" "[J", Cond.methodLink RX3 127 yX3_requireTree, Cond.instanceMethod yX3_requireTree, Cond.selects RX3 yX3_requireTree yX3_requireTree, Cond.initialized RX3, Cond.code yX3_requireTree cX3_requireTree 1 none, Cond.classLink RX3 190 "java/lang/IllegalStateException", Cond.initialized "java/lang/IllegalStateException", Cond.fieldLink RX3 37 "EvenClock" "built" "Z", Cond.methodLink RX3 48 yX3_isWithin, Cond.static yX3_isWithin, Cond.code yX3_isWithin cX3_isWithin 3 (some .boolean), Cond.methodLink RX3 160 yX0_weigh, Cond.instanceMethod yX0_weigh, Cond.selects RX0 yX0_weigh yX0_weigh, Cond.initialized RX0]
def wsX3_load_r2 : List Cond := [Cond.code yX0_weigh cX0_weigh 5 none, Cond.fieldLink RX0 48 "EvenClock$Tree" "leaves" "I", Cond.fieldLink RX0 53 "EvenClock$Tree" "nodes" "I", Cond.methodLink RX0 44 yX0_weighSinks, Cond.instanceMethod yX0_weighSinks, Cond.selects RX0 yX0_weighSinks yX0_weighSinks, Cond.code yX0_weighSinks cX0_weighSinks 4 none, Cond.fieldLink RX0 9 "EvenClock$Circuit" "bears" "[J", Cond.constantLong RX0 64 (1024), Cond.fieldLink RX0 66 "EvenClock$SinkRows" "load" "[I", Cond.fieldLink RX0 15 "EvenClock$Circuit" "shows" "[J", Cond.fieldLink RX0 18 "EvenClock$Circuit" "slackBelow" "[J", Cond.constantLong RX0 72 (1048576), Cond.fieldLink RX0 74 "EvenClock$SinkRows" "need" "[I", Cond.methodLink RX0 56 yX2_bitOf, Cond.instanceMethod yX2_bitOf, Cond.selects RX2 yX2_bitOf yX2_bitOf, Cond.initialized RX2, Cond.code yX2_bitOf cX2_bitOf 2 (some .int), Cond.fieldLink RX2 48 "EvenClock$Tree" "leaves" "I", Cond.methodLink RX0 60 yX0_weighJoin, Cond.instanceMethod yX0_weighJoin, Cond.selects RX0 yX0_weighJoin yX0_weighJoin, Cond.code yX0_weighJoin cX0_weighJoin 6 none]
def wsX3_load_r3 : List Cond := [Cond.fieldLink RX0 77 "EvenClock$Tree" "left" "[I", Cond.fieldLink RX0 80 "EvenClock$Tree" "right" "[I", Cond.methodLink RX0 90 Lib.MathLoose.min_long.x, Cond.static Lib.MathLoose.min_long.x, Cond.initialized "java/lang/Math", Cond.code Lib.MathLoose.min_long.x Lib.MathLoose.min_long.code 4 (some .long), Cond.fieldLink RX0 28 "EvenClock$Circuit" "input" "I", Cond.methodLink RX0 83 yX0_wireCapacity, Cond.instanceMethod yX0_wireCapacity, Cond.selects RX0 yX0_wireCapacity yX0_wireCapacity, Cond.code yX0_wireCapacity cX0_wireCapacity 3 (some .long), Cond.fieldLink RX0 25 "EvenClock$Circuit" "capacity" "I", Cond.fieldLink RX0 100 "EvenClock$Tree" "wire" "[I", Cond.methodLink RX0 87 yX0_slackAbove, Cond.instanceMethod yX0_slackAbove, Cond.selects RX0 yX0_slackAbove yX0_slackAbove, Cond.code yX0_slackAbove cX0_slackAbove 3 (some .long), Cond.methodLink RX0 105 yX0_wireDelay, Cond.instanceMethod yX0_wireDelay, Cond.selects RX0 yX0_wireDelay yX0_wireDelay, Cond.code yX0_wireDelay cX0_wireDelay 3 (some .long), Cond.fieldLink RX0 21 "EvenClock$Circuit" "resistance" "I", Cond.constantLong RX0 103 (2), Cond.methodLink RX0 96 yX0_bufferDelay]
def wsX3_load_r4 : List Cond := [Cond.instanceMethod yX0_bufferDelay, Cond.selects RX0 yX0_bufferDelay yX0_bufferDelay, Cond.code yX0_bufferDelay cX0_bufferDelay 2 (some .long), Cond.fieldLink RX0 34 "EvenClock$Circuit" "ownDelay" "I", Cond.fieldLink RX0 31 "EvenClock$Circuit" "drive" "I"]
def wsX3_load : List Cond := .code yX3_load cX3_load 3 (some .long) :: ((wsX3_load_r1 ++ (wsX3_load_r2 ++ (wsX3_load_r3 ++ wsX3_load_r4))) ++ wsX30 ++ wsX20 ++ wsX00 ++ wsX10 ++ (vx_atS RX3 134 "java/lang/IndexOutOfBoundsException" ["java/lang/RuntimeException", "java/lang/Exception"]).filter goodWord ++ (vx_atS RX3 194 "java/lang/IllegalStateException" ["java/lang/RuntimeException", "java/lang/Exception"]).filter goodWord)
def wsX3_delay_r1 : List Cond := [Cond.fieldLink RX3 26 "EvenClock" "circuit" "LEvenClock$Circuit;", Cond.fieldLink RX3 19 "EvenClock" "tree" "LEvenClock$Tree;", Cond.fieldLink RX3 12 "EvenClock" "given" "LEvenClock$SinkRows;", Cond.fieldLink RX3 41 "EvenClock" "buffered" "I", Cond.methodLink RX3 127 yX3_requireTree, Cond.instanceMethod yX3_requireTree, Cond.selects RX3 yX3_requireTree yX3_requireTree, Cond.initialized RX3, Cond.code yX3_requireTree cX3_requireTree 1 none, Cond.classLink RX3 190 "java/lang/IllegalStateException", Cond.initialized "java/lang/IllegalStateException", Cond.fieldLink RX3 37 "EvenClock" "built" "Z", Cond.methodLink RX3 142 yX3_requireSink, Cond.instanceMethod yX3_requireSink, Cond.selects RX3 yX3_requireSink yX3_requireSink, Cond.code yX3_requireSink cX3_requireSink 2 none, Cond.classLink RX3 130 "java/lang/IndexOutOfBoundsException", Cond.initialized "java/lang/IndexOutOfBoundsException", Cond.fieldLink RX3 150 "EvenClock$Tree" "leaves" "I", Cond.methodLink RX3 48 yX3_isWithin, Cond.static yX3_isWithin, Cond.code yX3_isWithin cX3_isWithin 3 (some .boolean), Cond.methodLink RX3 160 yX0_weigh, Cond.instanceMethod yX0_weigh]
def wsX3_delay_r2 : List Cond := [Cond.selects RX0 yX0_weigh yX0_weigh, Cond.initialized RX0, Cond.code yX0_weigh cX0_weigh 5 none, Cond.fieldLink RX0 48 "EvenClock$Tree" "leaves" "I", Cond.fieldLink RX0 53 "EvenClock$Tree" "nodes" "I", Cond.methodLink RX0 44 yX0_weighSinks, Cond.instanceMethod yX0_weighSinks, Cond.selects RX0 yX0_weighSinks yX0_weighSinks, Cond.code yX0_weighSinks cX0_weighSinks 4 none, Cond.fieldLink RX0 9 "EvenClock$Circuit" "bears" "[J", Cond.constantLong RX0 64 (1024), Cond.fieldLink RX0 66 "EvenClock$SinkRows" "load" "[I", Cond.fieldLink RX0 15 "EvenClock$Circuit" "shows" "[J", Cond.fieldLink RX0 18 "EvenClock$Circuit" "slackBelow" "[J", Cond.constantLong RX0 72 (1048576), Cond.fieldLink RX0 74 "EvenClock$SinkRows" "need" "[I", Cond.methodLink RX0 56 yX2_bitOf, Cond.instanceMethod yX2_bitOf, Cond.selects RX2 yX2_bitOf yX2_bitOf, Cond.initialized RX2, Cond.code yX2_bitOf cX2_bitOf 2 (some .int), Cond.fieldLink RX2 48 "EvenClock$Tree" "leaves" "I", Cond.methodLink RX0 60 yX0_weighJoin, Cond.instanceMethod yX0_weighJoin]
def wsX3_delay_r3 : List Cond := [Cond.selects RX0 yX0_weighJoin yX0_weighJoin, Cond.code yX0_weighJoin cX0_weighJoin 6 none, Cond.fieldLink RX0 77 "EvenClock$Tree" "left" "[I", Cond.fieldLink RX0 80 "EvenClock$Tree" "right" "[I", Cond.methodLink RX0 90 Lib.MathLoose.min_long.x, Cond.static Lib.MathLoose.min_long.x, Cond.initialized "java/lang/Math", Cond.code Lib.MathLoose.min_long.x Lib.MathLoose.min_long.code 4 (some .long), Cond.fieldLink RX0 28 "EvenClock$Circuit" "input" "I", Cond.methodLink RX0 83 yX0_wireCapacity, Cond.instanceMethod yX0_wireCapacity, Cond.selects RX0 yX0_wireCapacity yX0_wireCapacity, Cond.code yX0_wireCapacity cX0_wireCapacity 3 (some .long), Cond.fieldLink RX0 25 "EvenClock$Circuit" "capacity" "I", Cond.fieldLink RX0 100 "EvenClock$Tree" "wire" "[I", Cond.methodLink RX0 87 yX0_slackAbove, Cond.instanceMethod yX0_slackAbove, Cond.selects RX0 yX0_slackAbove yX0_slackAbove, Cond.code yX0_slackAbove cX0_slackAbove 3 (some .long), Cond.methodLink RX0 105 yX0_wireDelay, Cond.instanceMethod yX0_wireDelay, Cond.selects RX0 yX0_wireDelay yX0_wireDelay, Cond.code yX0_wireDelay cX0_wireDelay 3 (some .long), Cond.fieldLink RX0 21 "EvenClock$Circuit" "resistance" "I"]
def wsX3_delay_r4 : List Cond := [Cond.constantLong RX0 103 (2), Cond.methodLink RX0 96 yX0_bufferDelay, Cond.instanceMethod yX0_bufferDelay, Cond.selects RX0 yX0_bufferDelay yX0_bufferDelay, Cond.code yX0_bufferDelay cX0_bufferDelay 2 (some .long), Cond.fieldLink RX0 34 "EvenClock$Circuit" "ownDelay" "I", Cond.fieldLink RX0 31 "EvenClock$Circuit" "drive" "I", Cond.methodLink RX3 171 yX0_delayTo, Cond.instanceMethod yX0_delayTo, Cond.selects RX0 yX0_delayTo yX0_delayTo, Cond.code yX0_delayTo cX0_delayTo 8 (some .long), Cond.fieldLink RX0 108 "EvenClock$Tree" "parent" "[I"]
def wsX3_delay : List Cond := .code yX3_delay cX3_delay 2 (some .long) :: ((wsX3_delay_r1 ++ (wsX3_delay_r2 ++ (wsX3_delay_r3 ++ wsX3_delay_r4))) ++ wsX30 ++ wsX20 ++ wsX00 ++ wsX10 ++ (vx_atS RX3 194 "java/lang/IllegalStateException" ["java/lang/RuntimeException", "java/lang/Exception"]).filter goodWord ++ (vx_atS RX3 134 "java/lang/IndexOutOfBoundsException" ["java/lang/RuntimeException", "java/lang/Exception"]).filter goodWord)
def wsX3_slack_r1 : List Cond := [Cond.fieldLink RX3 26 "EvenClock" "circuit" "LEvenClock$Circuit;", Cond.fieldLink RX3 19 "EvenClock" "tree" "LEvenClock$Tree;", Cond.fieldLink RX3 12 "EvenClock" "given" "LEvenClock$SinkRows;", Cond.fieldLink RX3 41 "EvenClock" "buffered" "I", Cond.methodLink RX3 127 yX3_requireTree, Cond.instanceMethod yX3_requireTree, Cond.selects RX3 yX3_requireTree yX3_requireTree, Cond.initialized RX3, Cond.code yX3_requireTree cX3_requireTree 1 none, Cond.classLink RX3 190 "java/lang/IllegalStateException", Cond.initialized "java/lang/IllegalStateException", Cond.fieldLink RX3 37 "EvenClock" "built" "Z", Cond.methodLink RX3 160 yX0_weigh, Cond.instanceMethod yX0_weigh, Cond.selects RX0 yX0_weigh yX0_weigh, Cond.initialized RX0, Cond.code yX0_weigh cX0_weigh 5 none, Cond.fieldLink RX0 48 "EvenClock$Tree" "leaves" "I", Cond.fieldLink RX0 53 "EvenClock$Tree" "nodes" "I", Cond.methodLink RX0 44 yX0_weighSinks, Cond.instanceMethod yX0_weighSinks, Cond.selects RX0 yX0_weighSinks yX0_weighSinks, Cond.code yX0_weighSinks cX0_weighSinks 4 none, Cond.fieldLink RX0 9 "EvenClock$Circuit" "bears" "[J"]
def wsX3_slack_r2 : List Cond := [Cond.constantLong RX0 64 (1024), Cond.fieldLink RX0 66 "EvenClock$SinkRows" "load" "[I", Cond.fieldLink RX0 15 "EvenClock$Circuit" "shows" "[J", Cond.fieldLink RX0 18 "EvenClock$Circuit" "slackBelow" "[J", Cond.constantLong RX0 72 (1048576), Cond.fieldLink RX0 74 "EvenClock$SinkRows" "need" "[I", Cond.methodLink RX0 56 yX2_bitOf, Cond.instanceMethod yX2_bitOf, Cond.selects RX2 yX2_bitOf yX2_bitOf, Cond.initialized RX2, Cond.code yX2_bitOf cX2_bitOf 2 (some .int), Cond.fieldLink RX2 48 "EvenClock$Tree" "leaves" "I", Cond.methodLink RX0 60 yX0_weighJoin, Cond.instanceMethod yX0_weighJoin, Cond.selects RX0 yX0_weighJoin yX0_weighJoin, Cond.code yX0_weighJoin cX0_weighJoin 6 none, Cond.fieldLink RX0 77 "EvenClock$Tree" "left" "[I", Cond.fieldLink RX0 80 "EvenClock$Tree" "right" "[I", Cond.methodLink RX0 90 Lib.MathLoose.min_long.x, Cond.static Lib.MathLoose.min_long.x, Cond.initialized "java/lang/Math", Cond.code Lib.MathLoose.min_long.x Lib.MathLoose.min_long.code 4 (some .long), Cond.fieldLink RX0 28 "EvenClock$Circuit" "input" "I", Cond.methodLink RX0 83 yX0_wireCapacity]
def wsX3_slack_r3 : List Cond := [Cond.instanceMethod yX0_wireCapacity, Cond.selects RX0 yX0_wireCapacity yX0_wireCapacity, Cond.code yX0_wireCapacity cX0_wireCapacity 3 (some .long), Cond.fieldLink RX0 25 "EvenClock$Circuit" "capacity" "I", Cond.fieldLink RX0 100 "EvenClock$Tree" "wire" "[I", Cond.methodLink RX0 87 yX0_slackAbove, Cond.instanceMethod yX0_slackAbove, Cond.selects RX0 yX0_slackAbove yX0_slackAbove, Cond.code yX0_slackAbove cX0_slackAbove 3 (some .long), Cond.methodLink RX0 105 yX0_wireDelay, Cond.instanceMethod yX0_wireDelay, Cond.selects RX0 yX0_wireDelay yX0_wireDelay, Cond.code yX0_wireDelay cX0_wireDelay 3 (some .long), Cond.fieldLink RX0 21 "EvenClock$Circuit" "resistance" "I", Cond.constantLong RX0 103 (2), Cond.methodLink RX0 96 yX0_bufferDelay, Cond.instanceMethod yX0_bufferDelay, Cond.selects RX0 yX0_bufferDelay yX0_bufferDelay, Cond.code yX0_bufferDelay cX0_bufferDelay 2 (some .long), Cond.fieldLink RX0 34 "EvenClock$Circuit" "ownDelay" "I", Cond.fieldLink RX0 31 "EvenClock$Circuit" "drive" "I", Cond.methodLink RX3 175 yX0_slackAtSource, Cond.instanceMethod yX0_slackAtSource, Cond.selects RX0 yX0_slackAtSource yX0_slackAtSource]
def wsX3_slack_r4 : List Cond := [Cond.code yX0_slackAtSource cX0_slackAtSource 2 (some .long)]
def wsX3_slack : List Cond := .code yX3_slack cX3_slack 1 (some .long) :: ((wsX3_slack_r1 ++ (wsX3_slack_r2 ++ (wsX3_slack_r3 ++ wsX3_slack_r4))) ++ wsX30 ++ wsX20 ++ wsX00 ++ wsX10 ++ (vx_atS RX3 194 "java/lang/IllegalStateException" ["java/lang/RuntimeException", "java/lang/Exception"]).filter goodWord)
def wsX3_best_r1 : List Cond := [Cond.fieldLink RX3 26 "EvenClock" "circuit" "LEvenClock$Circuit;", Cond.fieldLink RX3 19 "EvenClock" "tree" "LEvenClock$Tree;", Cond.fieldLink RX3 12 "EvenClock" "given" "LEvenClock$SinkRows;", Cond.fieldLink RX3 183 "EvenClock$Circuit" "bestSlack" "J", Cond.methodLink RX3 127 yX3_requireTree, Cond.instanceMethod yX3_requireTree, Cond.selects RX3 yX3_requireTree yX3_requireTree, Cond.initialized RX3, Cond.code yX3_requireTree cX3_requireTree 1 none, Cond.classLink RX3 190 "java/lang/IllegalStateException", Cond.initialized "java/lang/IllegalStateException", Cond.fieldLink RX3 37 "EvenClock" "built" "Z", Cond.methodLink RX3 179 yX0_findBest, Cond.instanceMethod yX0_findBest, Cond.selects RX0 yX0_findBest yX0_findBest, Cond.initialized RX0, Cond.code yX0_findBest cX0_findBest 3 none, Cond.fieldLink RX0 41 "EvenClock$Circuit" "bestSetting" "I", Cond.fieldLink RX0 48 "EvenClock$Tree" "leaves" "I", Cond.methodLink RX0 44 yX0_weighSinks, Cond.instanceMethod yX0_weighSinks, Cond.selects RX0 yX0_weighSinks yX0_weighSinks, Cond.code yX0_weighSinks cX0_weighSinks 4 none, Cond.fieldLink RX0 9 "EvenClock$Circuit" "bears" "[J"]
def wsX3_best_r2 : List Cond := [Cond.constantLong RX0 64 (1024), Cond.fieldLink RX0 66 "EvenClock$SinkRows" "load" "[I", Cond.fieldLink RX0 15 "EvenClock$Circuit" "shows" "[J", Cond.fieldLink RX0 18 "EvenClock$Circuit" "slackBelow" "[J", Cond.constantLong RX0 72 (1048576), Cond.fieldLink RX0 74 "EvenClock$SinkRows" "need" "[I", Cond.methodLink RX0 111 yX0_tryFrom, Cond.static yX0_tryFrom, Cond.code yX0_tryFrom cX0_tryFrom 4 none, Cond.fieldLink RX0 53 "EvenClock$Tree" "nodes" "I", Cond.methodLink RX0 115 yX0_slackAtSource, Cond.instanceMethod yX0_slackAtSource, Cond.selects RX0 yX0_slackAtSource yX0_slackAtSource, Cond.code yX0_slackAtSource cX0_slackAtSource 2 (some .long), Cond.methodLink RX0 87 yX0_slackAbove, Cond.instanceMethod yX0_slackAbove, Cond.selects RX0 yX0_slackAbove yX0_slackAbove, Cond.code yX0_slackAbove cX0_slackAbove 3 (some .long), Cond.methodLink RX0 105 yX0_wireDelay, Cond.instanceMethod yX0_wireDelay, Cond.selects RX0 yX0_wireDelay yX0_wireDelay, Cond.code yX0_wireDelay cX0_wireDelay 3 (some .long), Cond.fieldLink RX0 21 "EvenClock$Circuit" "resistance" "I", Cond.fieldLink RX0 100 "EvenClock$Tree" "wire" "[I"]
def wsX3_best_r3 : List Cond := [Cond.constantLong RX0 103 (2), Cond.methodLink RX0 83 yX0_wireCapacity, Cond.instanceMethod yX0_wireCapacity, Cond.selects RX0 yX0_wireCapacity yX0_wireCapacity, Cond.code yX0_wireCapacity cX0_wireCapacity 3 (some .long), Cond.fieldLink RX0 25 "EvenClock$Circuit" "capacity" "I", Cond.methodLink RX0 119 yX0_keepIfBetter, Cond.instanceMethod yX0_keepIfBetter, Cond.selects RX0 yX0_keepIfBetter yX0_keepIfBetter, Cond.code yX0_keepIfBetter cX0_keepIfBetter 5 none, Cond.fieldLink RX0 37 "EvenClock$Circuit" "bestSlack" "J", Cond.methodLink RX0 60 yX0_weighJoin, Cond.instanceMethod yX0_weighJoin, Cond.selects RX0 yX0_weighJoin yX0_weighJoin, Cond.code yX0_weighJoin cX0_weighJoin 6 none, Cond.fieldLink RX0 77 "EvenClock$Tree" "left" "[I", Cond.fieldLink RX0 80 "EvenClock$Tree" "right" "[I", Cond.methodLink RX0 90 Lib.MathLoose.min_long.x, Cond.static Lib.MathLoose.min_long.x, Cond.initialized "java/lang/Math", Cond.code Lib.MathLoose.min_long.x Lib.MathLoose.min_long.code 4 (some .long), Cond.fieldLink RX0 28 "EvenClock$Circuit" "input" "I", Cond.methodLink RX0 96 yX0_bufferDelay, Cond.instanceMethod yX0_bufferDelay]
def wsX3_best_r4 : List Cond := [Cond.selects RX0 yX0_bufferDelay yX0_bufferDelay, Cond.code yX0_bufferDelay cX0_bufferDelay 2 (some .long), Cond.fieldLink RX0 34 "EvenClock$Circuit" "ownDelay" "I", Cond.fieldLink RX0 31 "EvenClock$Circuit" "drive" "I", Cond.methodLink RX0 56 yX2_bitOf, Cond.instanceMethod yX2_bitOf, Cond.selects RX2 yX2_bitOf yX2_bitOf, Cond.initialized RX2, Cond.code yX2_bitOf cX2_bitOf 2 (some .int), Cond.fieldLink RX2 48 "EvenClock$Tree" "leaves" "I"]
def wsX3_best : List Cond := .code yX3_best cX3_best 1 (some .long) :: ((wsX3_best_r1 ++ (wsX3_best_r2 ++ (wsX3_best_r3 ++ wsX3_best_r4))) ++ wsX30 ++ wsX00 ++ wsX20 ++ wsX10 ++ (vx_atS RX3 194 "java/lang/IllegalStateException" ["java/lang/RuntimeException", "java/lang/Exception"]).filter goodWord)
def wsX3_improve_r1 : List Cond := [Cond.fieldLink RX3 26 "EvenClock" "circuit" "LEvenClock$Circuit;", Cond.fieldLink RX3 19 "EvenClock" "tree" "LEvenClock$Tree;", Cond.fieldLink RX3 12 "EvenClock" "given" "LEvenClock$SinkRows;", Cond.fieldLink RX3 187 "EvenClock$Circuit" "bestSetting" "I", Cond.fieldLink RX3 41 "EvenClock" "buffered" "I", Cond.methodLink RX3 127 yX3_requireTree, Cond.instanceMethod yX3_requireTree, Cond.selects RX3 yX3_requireTree yX3_requireTree, Cond.initialized RX3, Cond.code yX3_requireTree cX3_requireTree 1 none, Cond.classLink RX3 190 "java/lang/IllegalStateException", Cond.initialized "java/lang/IllegalStateException", Cond.fieldLink RX3 37 "EvenClock" "built" "Z", Cond.methodLink RX3 179 yX0_findBest, Cond.instanceMethod yX0_findBest, Cond.selects RX0 yX0_findBest yX0_findBest, Cond.initialized RX0, Cond.code yX0_findBest cX0_findBest 3 none, Cond.fieldLink RX0 41 "EvenClock$Circuit" "bestSetting" "I", Cond.fieldLink RX0 48 "EvenClock$Tree" "leaves" "I", Cond.methodLink RX0 44 yX0_weighSinks, Cond.instanceMethod yX0_weighSinks, Cond.selects RX0 yX0_weighSinks yX0_weighSinks, Cond.code yX0_weighSinks cX0_weighSinks 4 none]
def wsX3_improve_r2 : List Cond := [Cond.fieldLink RX0 9 "EvenClock$Circuit" "bears" "[J", Cond.constantLong RX0 64 (1024), Cond.fieldLink RX0 66 "EvenClock$SinkRows" "load" "[I", Cond.fieldLink RX0 15 "EvenClock$Circuit" "shows" "[J", Cond.fieldLink RX0 18 "EvenClock$Circuit" "slackBelow" "[J", Cond.constantLong RX0 72 (1048576), Cond.fieldLink RX0 74 "EvenClock$SinkRows" "need" "[I", Cond.methodLink RX0 111 yX0_tryFrom, Cond.static yX0_tryFrom, Cond.code yX0_tryFrom cX0_tryFrom 4 none, Cond.fieldLink RX0 53 "EvenClock$Tree" "nodes" "I", Cond.methodLink RX0 115 yX0_slackAtSource, Cond.instanceMethod yX0_slackAtSource, Cond.selects RX0 yX0_slackAtSource yX0_slackAtSource, Cond.code yX0_slackAtSource cX0_slackAtSource 2 (some .long), Cond.methodLink RX0 87 yX0_slackAbove, Cond.instanceMethod yX0_slackAbove, Cond.selects RX0 yX0_slackAbove yX0_slackAbove, Cond.code yX0_slackAbove cX0_slackAbove 3 (some .long), Cond.methodLink RX0 105 yX0_wireDelay, Cond.instanceMethod yX0_wireDelay, Cond.selects RX0 yX0_wireDelay yX0_wireDelay, Cond.code yX0_wireDelay cX0_wireDelay 3 (some .long), Cond.fieldLink RX0 21 "EvenClock$Circuit" "resistance" "I"]
def wsX3_improve_r3 : List Cond := [Cond.fieldLink RX0 100 "EvenClock$Tree" "wire" "[I", Cond.constantLong RX0 103 (2), Cond.methodLink RX0 83 yX0_wireCapacity, Cond.instanceMethod yX0_wireCapacity, Cond.selects RX0 yX0_wireCapacity yX0_wireCapacity, Cond.code yX0_wireCapacity cX0_wireCapacity 3 (some .long), Cond.fieldLink RX0 25 "EvenClock$Circuit" "capacity" "I", Cond.methodLink RX0 119 yX0_keepIfBetter, Cond.instanceMethod yX0_keepIfBetter, Cond.selects RX0 yX0_keepIfBetter yX0_keepIfBetter, Cond.code yX0_keepIfBetter cX0_keepIfBetter 5 none, Cond.fieldLink RX0 37 "EvenClock$Circuit" "bestSlack" "J", Cond.methodLink RX0 60 yX0_weighJoin, Cond.instanceMethod yX0_weighJoin, Cond.selects RX0 yX0_weighJoin yX0_weighJoin, Cond.code yX0_weighJoin cX0_weighJoin 6 none, Cond.fieldLink RX0 77 "EvenClock$Tree" "left" "[I", Cond.fieldLink RX0 80 "EvenClock$Tree" "right" "[I", Cond.methodLink RX0 90 Lib.MathLoose.min_long.x, Cond.static Lib.MathLoose.min_long.x, Cond.initialized "java/lang/Math", Cond.code Lib.MathLoose.min_long.x Lib.MathLoose.min_long.code 4 (some .long), Cond.fieldLink RX0 28 "EvenClock$Circuit" "input" "I", Cond.methodLink RX0 96 yX0_bufferDelay]
def wsX3_improve_r4 : List Cond := [Cond.instanceMethod yX0_bufferDelay, Cond.selects RX0 yX0_bufferDelay yX0_bufferDelay, Cond.code yX0_bufferDelay cX0_bufferDelay 2 (some .long), Cond.fieldLink RX0 34 "EvenClock$Circuit" "ownDelay" "I", Cond.fieldLink RX0 31 "EvenClock$Circuit" "drive" "I", Cond.methodLink RX0 56 yX2_bitOf, Cond.instanceMethod yX2_bitOf, Cond.selects RX2 yX2_bitOf yX2_bitOf, Cond.initialized RX2, Cond.code yX2_bitOf cX2_bitOf 2 (some .int), Cond.fieldLink RX2 48 "EvenClock$Tree" "leaves" "I"]
def wsX3_improve : List Cond := .code yX3_improve cX3_improve 1 (some .int) :: ((wsX3_improve_r1 ++ (wsX3_improve_r2 ++ (wsX3_improve_r3 ++ wsX3_improve_r4))) ++ wsX30 ++ wsX00 ++ wsX20 ++ wsX10 ++ (vx_atS RX3 194 "java/lang/IllegalStateException" ["java/lang/RuntimeException", "java/lang/Exception"]).filter goodWord)
def wsX4_init_r1 : List Cond := [Cond.methodLink RX4 1 objectInit, Cond.instanceMethod objectInit, Cond.code objectInit ⟨#[0xb1]⟩ 1 none, Cond.arrayClass .int, Cond.fieldLink RX4 7 "EvenClockModel" "xs" "[I", Cond.fieldLink RX4 13 "EvenClockModel" "ys" "[I", Cond.fieldLink RX4 16 "EvenClockModel" "loads" "[I", Cond.fieldLink RX4 19 "EvenClockModel" "needs" "[I", Cond.fieldLink RX4 22 "EvenClockModel" "\x72" "I", Cond.fieldLink RX4 26 "EvenClockModel" "c" "I", Cond.fieldLink RX4 29 "EvenClockModel" "input" "I", Cond.fieldLink RX4 32 "EvenClockModel" "drive" "I", Cond.fieldLink RX4 35 "EvenClockModel" "left" "[I", Cond.fieldLink RX4 38 "EvenClockModel" "right" "[I", Cond.fieldLink RX4 41 "EvenClockModel" "parent" "[I", Cond.fieldLink RX4 44 "EvenClockModel" "u1" "[I", Cond.fieldLink RX4 47 "EvenClockModel" "u2" "[I", Cond.fieldLink RX4 50 "EvenClockModel" "v1" "[I", Cond.fieldLink RX4 53 "EvenClockModel" "v2" "[I", Cond.fieldLink RX4 56 "EvenClockModel" "time" "[I", Cond.fieldLink RX4 59 "EvenClockModel" "wire" "[I", Cond.fieldLink RX4 62 "EvenClockModel" "u" "[I", Cond.fieldLink RX4 65 "EvenClockModel" "v" "[I", Cond.arrayClass .boolean]
def wsX4_init_r2 : List Cond := [Cond.fieldLink RX4 68 "EvenClockModel" "set" "[Z", Cond.fieldLink RX4 72 "EvenClockModel" "joined" "[Z", Cond.fieldLink RX4 75 "EvenClockModel" "row" "[I", Cond.fieldLink RX4 78 "EvenClockModel" "from" "[I", Cond.fieldLink RX4 81 "EvenClockModel" "to" "[I", Cond.fieldLink RX4 84 "EvenClockModel" "level" "[I", Cond.fieldLink RX4 87 "EvenClockModel" "stage" "[I", Cond.fieldLink RX4 90 "EvenClockModel" "half" "[I", Cond.arrayClass .long, Cond.fieldLink RX4 93 "EvenClockModel" "bears" "[J", Cond.fieldLink RX4 97 "EvenClockModel" "shows" "[J"]
def wsX4_init : List Cond := .code yX4_init cX4_init 1 none :: ((wsX4_init_r1 ++ wsX4_init_r2) ++ wsX40)
def wsX4_thrown : List Cond := .code yX4_thrown cX4_thrown 1 (some .int) :: ([.fieldLink RX4 100 "EvenClockModel" "thrown" "I"] ++ wsX40)
def wsX4_isPlace : List Cond := .code yX4_isPlace cX4_isPlace 1 (some .boolean) :: ([])
def wsX4_within : List Cond := .code yX4_within cX4_within 3 (some .boolean) :: ([])
def wsX4_sink : List Cond := .code yX4_sink cX4_sink 5 (some .int) :: ([.constant RX4 111 (1000000000), .fieldLink RX4 112 "EvenClockModel" "count" "I", .fieldLink RX4 100 "EvenClockModel" "thrown" "I", .fieldLink RX4 7 "EvenClockModel" "xs" "[I", .fieldLink RX4 13 "EvenClockModel" "ys" "[I", .fieldLink RX4 16 "EvenClockModel" "loads" "[I", .fieldLink RX4 19 "EvenClockModel" "needs" "[I", .fieldLink RX4 115 "EvenClockModel" "built" "Z", .methodLink RX4 103 yX4_isPlace, .static yX4_isPlace, .initialized RX4, .code yX4_isPlace cX4_isPlace 1 (some .boolean), .methodLink RX4 107 yX4_within, .static yX4_within, .code yX4_within cX4_within 3 (some .boolean)] ++ wsX40)
def wsX4_cut : List Cond := .code yX4_cut cX4_cut 2 none :: ([.fieldLink RX4 112 "EvenClockModel" "count" "I", .fieldLink RX4 100 "EvenClockModel" "thrown" "I", .fieldLink RX4 115 "EvenClockModel" "built" "Z", .methodLink RX4 107 yX4_within, .static yX4_within, .initialized RX4, .code yX4_within cX4_within 3 (some .boolean)] ++ wsX40)
def wsX4_source : List Cond := .code yX4_source cX4_source 3 none :: ([.fieldLink RX4 100 "EvenClockModel" "thrown" "I", .fieldLink RX4 119 "EvenClockModel" "sourceX" "I", .fieldLink RX4 122 "EvenClockModel" "sourceY" "I", .fieldLink RX4 115 "EvenClockModel" "built" "Z", .methodLink RX4 103 yX4_isPlace, .static yX4_isPlace, .initialized RX4, .code yX4_isPlace cX4_isPlace 1 (some .boolean)] ++ wsX40)
def wsX4_wires : List Cond := .code yX4_wires cX4_wires 3 none :: ([.fieldLink RX4 100 "EvenClockModel" "thrown" "I", .fieldLink RX4 22 "EvenClockModel" "\x72" "I", .fieldLink RX4 26 "EvenClockModel" "c" "I", .methodLink RX4 107 yX4_within, .static yX4_within, .initialized RX4, .code yX4_within cX4_within 3 (some .boolean)] ++ wsX40)
def wsX4_buffer : List Cond := .code yX4_buffer cX4_buffer 4 none :: ([.constant RX4 125 (1000000), .constant RX4 111 (1000000000), .fieldLink RX4 100 "EvenClockModel" "thrown" "I", .fieldLink RX4 29 "EvenClockModel" "input" "I", .fieldLink RX4 32 "EvenClockModel" "drive" "I", .fieldLink RX4 126 "EvenClockModel" "wait" "I", .methodLink RX4 107 yX4_within, .static yX4_within, .initialized RX4, .code yX4_within cX4_within 3 (some .boolean)] ++ wsX40)
def wsX4_sinks : List Cond := .code yX4_sinks cX4_sinks 1 (some .int) :: ([.fieldLink RX4 100 "EvenClockModel" "thrown" "I", .fieldLink RX4 112 "EvenClockModel" "count" "I"] ++ wsX40)
def wsX4_greater : List Cond := .code yX4_greater cX4_greater 2 (some .int) :: ([])
def wsX4_lesser : List Cond := .code yX4_lesser cX4_lesser 2 (some .int) :: ([])
def wsX4_gap : List Cond := .code yX4_gap cX4_gap 4 (some .int) :: ([.methodLink RX4 129 yX4_greater, .static yX4_greater, .initialized RX4, .code yX4_greater cX4_greater 2 (some .int)])
def wsX4_distance : List Cond := .code yX4_distance cX4_distance 3 (some .int) :: ([.fieldLink RX4 44 "EvenClockModel" "u1" "[I", .fieldLink RX4 47 "EvenClockModel" "u2" "[I", .fieldLink RX4 50 "EvenClockModel" "v1" "[I", .fieldLink RX4 53 "EvenClockModel" "v2" "[I", .methodLink RX4 133 yX4_gap, .static yX4_gap, .initialized RX4, .code yX4_gap cX4_gap 4 (some .int), .methodLink RX4 129 yX4_greater, .static yX4_greater, .code yX4_greater cX4_greater 2 (some .int)] ++ wsX40)
def wsX4_place : List Cond := .code yX4_place cX4_place 6 none :: ([.fieldLink RX4 44 "EvenClockModel" "u1" "[I", .fieldLink RX4 47 "EvenClockModel" "u2" "[I", .fieldLink RX4 50 "EvenClockModel" "v1" "[I", .fieldLink RX4 53 "EvenClockModel" "v2" "[I"] ++ wsX40)
def wsX4_join_r1 : List Cond := [Cond.fieldLink RX4 56 "EvenClockModel" "time" "[I", Cond.fieldLink RX4 140 "EvenClockModel" "nodes" "I", Cond.fieldLink RX4 35 "EvenClockModel" "left" "[I", Cond.fieldLink RX4 38 "EvenClockModel" "right" "[I", Cond.fieldLink RX4 41 "EvenClockModel" "parent" "[I", Cond.fieldLink RX4 59 "EvenClockModel" "wire" "[I", Cond.fieldLink RX4 44 "EvenClockModel" "u1" "[I", Cond.fieldLink RX4 47 "EvenClockModel" "u2" "[I", Cond.fieldLink RX4 50 "EvenClockModel" "v1" "[I", Cond.fieldLink RX4 53 "EvenClockModel" "v2" "[I", Cond.fieldLink RX4 72 "EvenClockModel" "joined" "[Z", Cond.fieldLink RX4 68 "EvenClockModel" "set" "[Z", Cond.methodLink RX4 137 yX4_distance, Cond.instanceMethod yX4_distance, Cond.selects RX4 yX4_distance yX4_distance, Cond.initialized RX4, Cond.code yX4_distance cX4_distance 3 (some .int), Cond.methodLink RX4 133 yX4_gap, Cond.static yX4_gap, Cond.code yX4_gap cX4_gap 4 (some .int), Cond.methodLink RX4 129 yX4_greater, Cond.static yX4_greater, Cond.code yX4_greater cX4_greater 2 (some .int), Cond.methodLink RX4 143 yX4_lesser]
def wsX4_join_r2 : List Cond := [Cond.static yX4_lesser, Cond.code yX4_lesser cX4_lesser 2 (some .int), Cond.methodLink RX4 146 yX4_place, Cond.instanceMethod yX4_place, Cond.selects RX4 yX4_place yX4_place, Cond.code yX4_place cX4_place 6 none]
def wsX4_join : List Cond := .code yX4_join cX4_join 9 (some .int) :: ((wsX4_join_r1 ++ wsX4_join_r2) ++ wsX40)
def wsX4_begin : List Cond := .code yX4_begin cX4_begin 4 none :: ([.fieldLink RX4 112 "EvenClockModel" "count" "I", .fieldLink RX4 140 "EvenClockModel" "nodes" "I", .fieldLink RX4 7 "EvenClockModel" "xs" "[I", .fieldLink RX4 13 "EvenClockModel" "ys" "[I", .fieldLink RX4 35 "EvenClockModel" "left" "[I", .fieldLink RX4 38 "EvenClockModel" "right" "[I", .fieldLink RX4 41 "EvenClockModel" "parent" "[I", .fieldLink RX4 56 "EvenClockModel" "time" "[I", .fieldLink RX4 72 "EvenClockModel" "joined" "[Z", .fieldLink RX4 68 "EvenClockModel" "set" "[Z", .methodLink RX4 146 yX4_place, .instanceMethod yX4_place, .selects RX4 yX4_place yX4_place, .initialized RX4, .code yX4_place cX4_place 6 none, .fieldLink RX4 44 "EvenClockModel" "u1" "[I", .fieldLink RX4 47 "EvenClockModel" "u2" "[I", .fieldLink RX4 50 "EvenClockModel" "v1" "[I", .fieldLink RX4 53 "EvenClockModel" "v2" "[I"] ++ wsX40)
def wsX4_joinNearest_r1 : List Cond := [Cond.fieldLink RX4 140 "EvenClockModel" "nodes" "I", Cond.fieldLink RX4 72 "EvenClockModel" "joined" "[Z", Cond.methodLink RX4 137 yX4_distance, Cond.instanceMethod yX4_distance, Cond.selects RX4 yX4_distance yX4_distance, Cond.initialized RX4, Cond.code yX4_distance cX4_distance 3 (some .int), Cond.fieldLink RX4 44 "EvenClockModel" "u1" "[I", Cond.fieldLink RX4 47 "EvenClockModel" "u2" "[I", Cond.fieldLink RX4 50 "EvenClockModel" "v1" "[I", Cond.fieldLink RX4 53 "EvenClockModel" "v2" "[I", Cond.methodLink RX4 133 yX4_gap, Cond.static yX4_gap, Cond.code yX4_gap cX4_gap 4 (some .int), Cond.methodLink RX4 129 yX4_greater, Cond.static yX4_greater, Cond.code yX4_greater cX4_greater 2 (some .int), Cond.methodLink RX4 150 yX4_join, Cond.instanceMethod yX4_join, Cond.selects RX4 yX4_join yX4_join, Cond.code yX4_join cX4_join 9 (some .int), Cond.fieldLink RX4 56 "EvenClockModel" "time" "[I", Cond.fieldLink RX4 35 "EvenClockModel" "left" "[I", Cond.fieldLink RX4 38 "EvenClockModel" "right" "[I"]
def wsX4_joinNearest_r2 : List Cond := [Cond.fieldLink RX4 41 "EvenClockModel" "parent" "[I", Cond.fieldLink RX4 59 "EvenClockModel" "wire" "[I", Cond.fieldLink RX4 68 "EvenClockModel" "set" "[Z", Cond.methodLink RX4 143 yX4_lesser, Cond.static yX4_lesser, Cond.code yX4_lesser cX4_lesser 2 (some .int), Cond.methodLink RX4 146 yX4_place, Cond.instanceMethod yX4_place, Cond.selects RX4 yX4_place yX4_place, Cond.code yX4_place cX4_place 6 none]
def wsX4_joinNearest : List Cond := .code yX4_joinNearest cX4_joinNearest 6 none :: ((wsX4_joinNearest_r1 ++ wsX4_joinNearest_r2) ++ wsX40)
def wsX4_isBefore : List Cond := .code yX4_isBefore cX4_isBefore 6 (some .boolean) :: ([.fieldLink RX4 7 "EvenClockModel" "xs" "[I", .fieldLink RX4 13 "EvenClockModel" "ys" "[I"] ++ wsX40)
def wsX4_sort : List Cond := .code yX4_sort cX4_sort 7 none :: ([.fieldLink RX4 75 "EvenClockModel" "row" "[I", .methodLink RX4 153 yX4_isBefore, .instanceMethod yX4_isBefore, .selects RX4 yX4_isBefore yX4_isBefore, .initialized RX4, .code yX4_isBefore cX4_isBefore 6 (some .boolean), .fieldLink RX4 7 "EvenClockModel" "xs" "[I", .fieldLink RX4 13 "EvenClockModel" "ys" "[I"] ++ wsX40)
def wsX4_push : List Cond := .code yX4_push cX4_push 4 none :: ([.fieldLink RX4 78 "EvenClockModel" "from" "[I", .fieldLink RX4 157 "EvenClockModel" "top" "I", .fieldLink RX4 81 "EvenClockModel" "to" "[I", .fieldLink RX4 84 "EvenClockModel" "level" "[I", .fieldLink RX4 87 "EvenClockModel" "stage" "[I"] ++ wsX40)
def wsX4_cutAll_r1 : List Cond := [Cond.fieldLink RX4 112 "EvenClockModel" "count" "I", Cond.fieldLink RX4 75 "EvenClockModel" "row" "[I", Cond.fieldLink RX4 157 "EvenClockModel" "top" "I", Cond.fieldLink RX4 78 "EvenClockModel" "from" "[I", Cond.fieldLink RX4 81 "EvenClockModel" "to" "[I", Cond.fieldLink RX4 87 "EvenClockModel" "stage" "[I", Cond.fieldLink RX4 84 "EvenClockModel" "level" "[I", Cond.fieldLink RX4 90 "EvenClockModel" "half" "[I", Cond.methodLink RX4 160 yX4_push, Cond.instanceMethod yX4_push, Cond.selects RX4 yX4_push yX4_push, Cond.initialized RX4, Cond.code yX4_push cX4_push 4 none, Cond.methodLink RX4 164 yX4_sort, Cond.instanceMethod yX4_sort, Cond.selects RX4 yX4_sort yX4_sort, Cond.code yX4_sort cX4_sort 7 none, Cond.methodLink RX4 153 yX4_isBefore, Cond.instanceMethod yX4_isBefore, Cond.selects RX4 yX4_isBefore yX4_isBefore, Cond.code yX4_isBefore cX4_isBefore 6 (some .boolean), Cond.fieldLink RX4 7 "EvenClockModel" "xs" "[I", Cond.fieldLink RX4 13 "EvenClockModel" "ys" "[I", Cond.methodLink RX4 150 yX4_join]
def wsX4_cutAll_r2 : List Cond := [Cond.instanceMethod yX4_join, Cond.selects RX4 yX4_join yX4_join, Cond.code yX4_join cX4_join 9 (some .int), Cond.fieldLink RX4 56 "EvenClockModel" "time" "[I", Cond.fieldLink RX4 140 "EvenClockModel" "nodes" "I", Cond.fieldLink RX4 35 "EvenClockModel" "left" "[I", Cond.fieldLink RX4 38 "EvenClockModel" "right" "[I", Cond.fieldLink RX4 41 "EvenClockModel" "parent" "[I", Cond.fieldLink RX4 59 "EvenClockModel" "wire" "[I", Cond.fieldLink RX4 44 "EvenClockModel" "u1" "[I", Cond.fieldLink RX4 47 "EvenClockModel" "u2" "[I", Cond.fieldLink RX4 50 "EvenClockModel" "v1" "[I", Cond.fieldLink RX4 53 "EvenClockModel" "v2" "[I", Cond.fieldLink RX4 72 "EvenClockModel" "joined" "[Z", Cond.fieldLink RX4 68 "EvenClockModel" "set" "[Z", Cond.methodLink RX4 137 yX4_distance, Cond.instanceMethod yX4_distance, Cond.selects RX4 yX4_distance yX4_distance, Cond.code yX4_distance cX4_distance 3 (some .int), Cond.methodLink RX4 133 yX4_gap, Cond.static yX4_gap, Cond.code yX4_gap cX4_gap 4 (some .int), Cond.methodLink RX4 129 yX4_greater, Cond.static yX4_greater]
def wsX4_cutAll_r3 : List Cond := [Cond.code yX4_greater cX4_greater 2 (some .int), Cond.methodLink RX4 143 yX4_lesser, Cond.static yX4_lesser, Cond.code yX4_lesser cX4_lesser 2 (some .int), Cond.methodLink RX4 146 yX4_place, Cond.instanceMethod yX4_place, Cond.selects RX4 yX4_place yX4_place, Cond.code yX4_place cX4_place 6 none]
def wsX4_cutAll : List Cond := .code yX4_cutAll cX4_cutAll 4 none :: ((wsX4_cutAll_r1 ++ (wsX4_cutAll_r2 ++ wsX4_cutAll_r3)) ++ wsX40)
def wsX4_nearest : List Cond := .code yX4_nearest cX4_nearest 3 (some .int) :: ([])
def wsX4_choose : List Cond := .code yX4_choose cX4_choose 8 none :: ([.fieldLink RX4 140 "EvenClockModel" "nodes" "I", .fieldLink RX4 119 "EvenClockModel" "sourceX" "I", .fieldLink RX4 122 "EvenClockModel" "sourceY" "I", .fieldLink RX4 41 "EvenClockModel" "parent" "[I", .fieldLink RX4 62 "EvenClockModel" "u" "[I", .fieldLink RX4 65 "EvenClockModel" "v" "[I", .fieldLink RX4 44 "EvenClockModel" "u1" "[I", .fieldLink RX4 47 "EvenClockModel" "u2" "[I", .fieldLink RX4 50 "EvenClockModel" "v1" "[I", .fieldLink RX4 53 "EvenClockModel" "v2" "[I", .fieldLink RX4 59 "EvenClockModel" "wire" "[I", .methodLink RX4 168 yX4_nearest, .static yX4_nearest, .initialized RX4, .code yX4_nearest cX4_nearest 3 (some .int), .methodLink RX4 133 yX4_gap, .static yX4_gap, .code yX4_gap cX4_gap 4 (some .int), .methodLink RX4 129 yX4_greater, .static yX4_greater, .code yX4_greater cX4_greater 2 (some .int)] ++ wsX40)
def wsX4_build_r1 : List Cond := [Cond.fieldLink RX4 112 "EvenClockModel" "count" "I", Cond.fieldLink RX4 100 "EvenClockModel" "thrown" "I", Cond.fieldLink RX4 140 "EvenClockModel" "nodes" "I", Cond.fieldLink RX4 115 "EvenClockModel" "built" "Z", Cond.methodLink RX4 172 yX4_begin, Cond.instanceMethod yX4_begin, Cond.selects RX4 yX4_begin yX4_begin, Cond.initialized RX4, Cond.code yX4_begin cX4_begin 4 none, Cond.fieldLink RX4 7 "EvenClockModel" "xs" "[I", Cond.fieldLink RX4 13 "EvenClockModel" "ys" "[I", Cond.fieldLink RX4 35 "EvenClockModel" "left" "[I", Cond.fieldLink RX4 38 "EvenClockModel" "right" "[I", Cond.fieldLink RX4 41 "EvenClockModel" "parent" "[I", Cond.fieldLink RX4 56 "EvenClockModel" "time" "[I", Cond.fieldLink RX4 72 "EvenClockModel" "joined" "[Z", Cond.fieldLink RX4 68 "EvenClockModel" "set" "[Z", Cond.methodLink RX4 146 yX4_place, Cond.instanceMethod yX4_place, Cond.selects RX4 yX4_place yX4_place, Cond.code yX4_place cX4_place 6 none, Cond.fieldLink RX4 44 "EvenClockModel" "u1" "[I", Cond.fieldLink RX4 47 "EvenClockModel" "u2" "[I", Cond.fieldLink RX4 50 "EvenClockModel" "v1" "[I"]
def wsX4_build_r2 : List Cond := [Cond.fieldLink RX4 53 "EvenClockModel" "v2" "[I", Cond.methodLink RX4 175 yX4_cutAll, Cond.instanceMethod yX4_cutAll, Cond.selects RX4 yX4_cutAll yX4_cutAll, Cond.code yX4_cutAll cX4_cutAll 4 none, Cond.fieldLink RX4 75 "EvenClockModel" "row" "[I", Cond.fieldLink RX4 157 "EvenClockModel" "top" "I", Cond.fieldLink RX4 78 "EvenClockModel" "from" "[I", Cond.fieldLink RX4 81 "EvenClockModel" "to" "[I", Cond.fieldLink RX4 87 "EvenClockModel" "stage" "[I", Cond.fieldLink RX4 84 "EvenClockModel" "level" "[I", Cond.fieldLink RX4 90 "EvenClockModel" "half" "[I", Cond.methodLink RX4 160 yX4_push, Cond.instanceMethod yX4_push, Cond.selects RX4 yX4_push yX4_push, Cond.code yX4_push cX4_push 4 none, Cond.methodLink RX4 164 yX4_sort, Cond.instanceMethod yX4_sort, Cond.selects RX4 yX4_sort yX4_sort, Cond.code yX4_sort cX4_sort 7 none, Cond.methodLink RX4 153 yX4_isBefore, Cond.instanceMethod yX4_isBefore, Cond.selects RX4 yX4_isBefore yX4_isBefore, Cond.code yX4_isBefore cX4_isBefore 6 (some .boolean)]
def wsX4_build_r3 : List Cond := [Cond.methodLink RX4 150 yX4_join, Cond.instanceMethod yX4_join, Cond.selects RX4 yX4_join yX4_join, Cond.code yX4_join cX4_join 9 (some .int), Cond.fieldLink RX4 59 "EvenClockModel" "wire" "[I", Cond.methodLink RX4 137 yX4_distance, Cond.instanceMethod yX4_distance, Cond.selects RX4 yX4_distance yX4_distance, Cond.code yX4_distance cX4_distance 3 (some .int), Cond.methodLink RX4 133 yX4_gap, Cond.static yX4_gap, Cond.code yX4_gap cX4_gap 4 (some .int), Cond.methodLink RX4 129 yX4_greater, Cond.static yX4_greater, Cond.code yX4_greater cX4_greater 2 (some .int), Cond.methodLink RX4 143 yX4_lesser, Cond.static yX4_lesser, Cond.code yX4_lesser cX4_lesser 2 (some .int), Cond.methodLink RX4 178 yX4_joinNearest, Cond.instanceMethod yX4_joinNearest, Cond.selects RX4 yX4_joinNearest yX4_joinNearest, Cond.code yX4_joinNearest cX4_joinNearest 6 none, Cond.methodLink RX4 181 yX4_choose, Cond.instanceMethod yX4_choose]
def wsX4_build_r4 : List Cond := [Cond.selects RX4 yX4_choose yX4_choose, Cond.code yX4_choose cX4_choose 8 none, Cond.fieldLink RX4 119 "EvenClockModel" "sourceX" "I", Cond.fieldLink RX4 122 "EvenClockModel" "sourceY" "I", Cond.fieldLink RX4 62 "EvenClockModel" "u" "[I", Cond.fieldLink RX4 65 "EvenClockModel" "v" "[I", Cond.methodLink RX4 168 yX4_nearest, Cond.static yX4_nearest, Cond.code yX4_nearest cX4_nearest 3 (some .int)]
def wsX4_build : List Cond := .code yX4_build cX4_build 2 (some .int) :: ((wsX4_build_r1 ++ (wsX4_build_r2 ++ (wsX4_build_r3 ++ wsX4_build_r4))) ++ wsX40)
def wsX4_isNode : List Cond := .code yX4_isNode cX4_isNode 2 (some .boolean) :: ([.fieldLink RX4 140 "EvenClockModel" "nodes" "I"] ++ wsX40)
def wsX4_node : List Cond := .code yX4_node cX4_node 3 (some .int) :: ([.fieldLink RX4 115 "EvenClockModel" "built" "Z", .fieldLink RX4 100 "EvenClockModel" "thrown" "I", .fieldLink RX4 35 "EvenClockModel" "left" "[I", .fieldLink RX4 38 "EvenClockModel" "right" "[I", .fieldLink RX4 41 "EvenClockModel" "parent" "[I", .fieldLink RX4 44 "EvenClockModel" "u1" "[I", .fieldLink RX4 47 "EvenClockModel" "u2" "[I", .fieldLink RX4 50 "EvenClockModel" "v1" "[I", .fieldLink RX4 53 "EvenClockModel" "v2" "[I", .fieldLink RX4 56 "EvenClockModel" "time" "[I", .fieldLink RX4 59 "EvenClockModel" "wire" "[I", .fieldLink RX4 62 "EvenClockModel" "u" "[I", .fieldLink RX4 65 "EvenClockModel" "v" "[I", .methodLink RX4 184 yX4_isNode, .instanceMethod yX4_isNode, .selects RX4 yX4_isNode yX4_isNode, .initialized RX4, .code yX4_isNode cX4_isNode 2 (some .boolean), .fieldLink RX4 140 "EvenClockModel" "nodes" "I"] ++ wsX40)
def wsX4_length : List Cond := .code yX4_length cX4_length 3 (some .int) :: ([.fieldLink RX4 115 "EvenClockModel" "built" "Z", .fieldLink RX4 100 "EvenClockModel" "thrown" "I", .fieldLink RX4 140 "EvenClockModel" "nodes" "I", .fieldLink RX4 59 "EvenClockModel" "wire" "[I"] ++ wsX40)
def wsX4_depth : List Cond := .code yX4_depth cX4_depth 4 (some .int) :: ([.fieldLink RX4 115 "EvenClockModel" "built" "Z", .fieldLink RX4 112 "EvenClockModel" "count" "I", .fieldLink RX4 100 "EvenClockModel" "thrown" "I", .fieldLink RX4 41 "EvenClockModel" "parent" "[I"] ++ wsX40)
def wsX4_set : List Cond := .code yX4_set cX4_set 3 (some .boolean) :: ([.fieldLink RX4 115 "EvenClockModel" "built" "Z", .fieldLink RX4 112 "EvenClockModel" "count" "I", .fieldLink RX4 140 "EvenClockModel" "nodes" "I", .fieldLink RX4 100 "EvenClockModel" "thrown" "I", .fieldLink RX4 68 "EvenClockModel" "set" "[Z"] ++ wsX40)
def wsX4_number : List Cond := .code yX4_number cX4_number 3 (some .int) :: ([.fieldLink RX4 112 "EvenClockModel" "count" "I", .fieldLink RX4 140 "EvenClockModel" "nodes" "I", .fieldLink RX4 68 "EvenClockModel" "set" "[Z"] ++ wsX40)
def wsX4_setting : List Cond := .code yX4_setting cX4_setting 1 (some .int) :: ([.fieldLink RX4 115 "EvenClockModel" "built" "Z", .fieldLink RX4 100 "EvenClockModel" "thrown" "I", .methodLink RX4 187 yX4_number, .instanceMethod yX4_number, .selects RX4 yX4_number yX4_number, .initialized RX4, .code yX4_number cX4_number 3 (some .int), .fieldLink RX4 112 "EvenClockModel" "count" "I", .fieldLink RX4 140 "EvenClockModel" "nodes" "I", .fieldLink RX4 68 "EvenClockModel" "set" "[Z"] ++ wsX40)
def wsX4_weigh : List Cond := .code yX4_weigh cX4_weigh 6 none :: ([.fieldLink RX4 140 "EvenClockModel" "nodes" "I", .fieldLink RX4 35 "EvenClockModel" "left" "[I", .fieldLink RX4 38 "EvenClockModel" "right" "[I", .fieldLink RX4 93 "EvenClockModel" "bears" "[J", .fieldLink RX4 112 "EvenClockModel" "count" "I", .constantLong RX4 191 (1024), .fieldLink RX4 16 "EvenClockModel" "loads" "[I", .fieldLink RX4 97 "EvenClockModel" "shows" "[J", .fieldLink RX4 26 "EvenClockModel" "c" "I", .fieldLink RX4 59 "EvenClockModel" "wire" "[I", .fieldLink RX4 29 "EvenClockModel" "input" "I"] ++ wsX40)
def wsX4_load_r1 : List Cond := [Cond.fieldLink RX4 115 "EvenClockModel" "built" "Z", Cond.fieldLink RX4 100 "EvenClockModel" "thrown" "I", Cond.fieldLink RX4 97 "EvenClockModel" "shows" "[J", Cond.fieldLink RX4 93 "EvenClockModel" "bears" "[J", Cond.methodLink RX4 184 yX4_isNode, Cond.instanceMethod yX4_isNode, Cond.selects RX4 yX4_isNode yX4_isNode, Cond.initialized RX4, Cond.code yX4_isNode cX4_isNode 2 (some .boolean), Cond.fieldLink RX4 140 "EvenClockModel" "nodes" "I", Cond.methodLink RX4 187 yX4_number, Cond.instanceMethod yX4_number, Cond.selects RX4 yX4_number yX4_number, Cond.code yX4_number cX4_number 3 (some .int), Cond.fieldLink RX4 112 "EvenClockModel" "count" "I", Cond.fieldLink RX4 68 "EvenClockModel" "set" "[Z", Cond.methodLink RX4 193 yX4_weigh, Cond.instanceMethod yX4_weigh, Cond.selects RX4 yX4_weigh yX4_weigh, Cond.code yX4_weigh cX4_weigh 6 none, Cond.fieldLink RX4 35 "EvenClockModel" "left" "[I", Cond.fieldLink RX4 38 "EvenClockModel" "right" "[I", Cond.constantLong RX4 191 (1024), Cond.fieldLink RX4 16 "EvenClockModel" "loads" "[I"]
def wsX4_load_r2 : List Cond := [Cond.fieldLink RX4 26 "EvenClockModel" "c" "I", Cond.fieldLink RX4 59 "EvenClockModel" "wire" "[I", Cond.fieldLink RX4 29 "EvenClockModel" "input" "I"]
def wsX4_load : List Cond := .code yX4_load cX4_load 3 (some .long) :: ((wsX4_load_r1 ++ wsX4_load_r2) ++ wsX40)
def wsX4_delayOf : List Cond := .code yX4_delayOf cX4_delayOf 9 (some .long) :: ([.fieldLink RX4 59 "EvenClockModel" "wire" "[I", .fieldLink RX4 22 "EvenClockModel" "\x72" "I", .fieldLink RX4 26 "EvenClockModel" "c" "I", .constantLong RX4 197 (2), .fieldLink RX4 97 "EvenClockModel" "shows" "[J", .fieldLink RX4 112 "EvenClockModel" "count" "I", .fieldLink RX4 126 "EvenClockModel" "wait" "I", .fieldLink RX4 32 "EvenClockModel" "drive" "I", .fieldLink RX4 93 "EvenClockModel" "bears" "[J", .fieldLink RX4 41 "EvenClockModel" "parent" "[I"] ++ wsX40)
def wsX4_delay_r1 : List Cond := [Cond.fieldLink RX4 115 "EvenClockModel" "built" "Z", Cond.fieldLink RX4 112 "EvenClockModel" "count" "I", Cond.fieldLink RX4 100 "EvenClockModel" "thrown" "I", Cond.methodLink RX4 187 yX4_number, Cond.instanceMethod yX4_number, Cond.selects RX4 yX4_number yX4_number, Cond.initialized RX4, Cond.code yX4_number cX4_number 3 (some .int), Cond.fieldLink RX4 140 "EvenClockModel" "nodes" "I", Cond.fieldLink RX4 68 "EvenClockModel" "set" "[Z", Cond.methodLink RX4 193 yX4_weigh, Cond.instanceMethod yX4_weigh, Cond.selects RX4 yX4_weigh yX4_weigh, Cond.code yX4_weigh cX4_weigh 6 none, Cond.fieldLink RX4 35 "EvenClockModel" "left" "[I", Cond.fieldLink RX4 38 "EvenClockModel" "right" "[I", Cond.fieldLink RX4 93 "EvenClockModel" "bears" "[J", Cond.constantLong RX4 191 (1024), Cond.fieldLink RX4 16 "EvenClockModel" "loads" "[I", Cond.fieldLink RX4 97 "EvenClockModel" "shows" "[J", Cond.fieldLink RX4 26 "EvenClockModel" "c" "I", Cond.fieldLink RX4 59 "EvenClockModel" "wire" "[I", Cond.fieldLink RX4 29 "EvenClockModel" "input" "I", Cond.methodLink RX4 199 yX4_delayOf]
def wsX4_delay_r2 : List Cond := [Cond.instanceMethod yX4_delayOf, Cond.selects RX4 yX4_delayOf yX4_delayOf, Cond.code yX4_delayOf cX4_delayOf 9 (some .long), Cond.fieldLink RX4 22 "EvenClockModel" "\x72" "I", Cond.constantLong RX4 197 (2), Cond.fieldLink RX4 126 "EvenClockModel" "wait" "I", Cond.fieldLink RX4 32 "EvenClockModel" "drive" "I", Cond.fieldLink RX4 41 "EvenClockModel" "parent" "[I"]
def wsX4_delay : List Cond := .code yX4_delay cX4_delay 2 (some .long) :: ((wsX4_delay_r1 ++ wsX4_delay_r2) ++ wsX40)
def wsX4_slackOf_r1 : List Cond := [Cond.fieldLink RX4 112 "EvenClockModel" "count" "I", Cond.constantLong RX4 203 (1048576), Cond.fieldLink RX4 19 "EvenClockModel" "needs" "[I", Cond.methodLink RX4 193 yX4_weigh, Cond.instanceMethod yX4_weigh, Cond.selects RX4 yX4_weigh yX4_weigh, Cond.initialized RX4, Cond.code yX4_weigh cX4_weigh 6 none, Cond.fieldLink RX4 140 "EvenClockModel" "nodes" "I", Cond.fieldLink RX4 35 "EvenClockModel" "left" "[I", Cond.fieldLink RX4 38 "EvenClockModel" "right" "[I", Cond.fieldLink RX4 93 "EvenClockModel" "bears" "[J", Cond.constantLong RX4 191 (1024), Cond.fieldLink RX4 16 "EvenClockModel" "loads" "[I", Cond.fieldLink RX4 97 "EvenClockModel" "shows" "[J", Cond.fieldLink RX4 26 "EvenClockModel" "c" "I", Cond.fieldLink RX4 59 "EvenClockModel" "wire" "[I", Cond.fieldLink RX4 29 "EvenClockModel" "input" "I", Cond.methodLink RX4 199 yX4_delayOf, Cond.instanceMethod yX4_delayOf, Cond.selects RX4 yX4_delayOf yX4_delayOf, Cond.code yX4_delayOf cX4_delayOf 9 (some .long), Cond.fieldLink RX4 22 "EvenClockModel" "\x72" "I", Cond.constantLong RX4 197 (2)]
def wsX4_slackOf_r2 : List Cond := [Cond.fieldLink RX4 126 "EvenClockModel" "wait" "I", Cond.fieldLink RX4 32 "EvenClockModel" "drive" "I", Cond.fieldLink RX4 41 "EvenClockModel" "parent" "[I"]
def wsX4_slackOf : List Cond := .code yX4_slackOf cX4_slackOf 7 (some .long) :: ((wsX4_slackOf_r1 ++ wsX4_slackOf_r2) ++ wsX40)
def wsX4_slack_r1 : List Cond := [Cond.fieldLink RX4 115 "EvenClockModel" "built" "Z", Cond.fieldLink RX4 100 "EvenClockModel" "thrown" "I", Cond.methodLink RX4 187 yX4_number, Cond.instanceMethod yX4_number, Cond.selects RX4 yX4_number yX4_number, Cond.initialized RX4, Cond.code yX4_number cX4_number 3 (some .int), Cond.fieldLink RX4 112 "EvenClockModel" "count" "I", Cond.fieldLink RX4 140 "EvenClockModel" "nodes" "I", Cond.fieldLink RX4 68 "EvenClockModel" "set" "[Z", Cond.methodLink RX4 205 yX4_slackOf, Cond.instanceMethod yX4_slackOf, Cond.selects RX4 yX4_slackOf yX4_slackOf, Cond.code yX4_slackOf cX4_slackOf 7 (some .long), Cond.constantLong RX4 203 (1048576), Cond.fieldLink RX4 19 "EvenClockModel" "needs" "[I", Cond.methodLink RX4 193 yX4_weigh, Cond.instanceMethod yX4_weigh, Cond.selects RX4 yX4_weigh yX4_weigh, Cond.code yX4_weigh cX4_weigh 6 none, Cond.fieldLink RX4 35 "EvenClockModel" "left" "[I", Cond.fieldLink RX4 38 "EvenClockModel" "right" "[I", Cond.fieldLink RX4 93 "EvenClockModel" "bears" "[J", Cond.constantLong RX4 191 (1024)]
def wsX4_slack_r2 : List Cond := [Cond.fieldLink RX4 16 "EvenClockModel" "loads" "[I", Cond.fieldLink RX4 97 "EvenClockModel" "shows" "[J", Cond.fieldLink RX4 26 "EvenClockModel" "c" "I", Cond.fieldLink RX4 59 "EvenClockModel" "wire" "[I", Cond.fieldLink RX4 29 "EvenClockModel" "input" "I", Cond.methodLink RX4 199 yX4_delayOf, Cond.instanceMethod yX4_delayOf, Cond.selects RX4 yX4_delayOf yX4_delayOf, Cond.code yX4_delayOf cX4_delayOf 9 (some .long), Cond.fieldLink RX4 22 "EvenClockModel" "\x72" "I", Cond.constantLong RX4 197 (2), Cond.fieldLink RX4 126 "EvenClockModel" "wait" "I", Cond.fieldLink RX4 32 "EvenClockModel" "drive" "I", Cond.fieldLink RX4 41 "EvenClockModel" "parent" "[I"]
def wsX4_slack : List Cond := .code yX4_slack cX4_slack 1 (some .long) :: ((wsX4_slack_r1 ++ wsX4_slack_r2) ++ wsX40)
def wsX4_bestSetting_r1 : List Cond := [Cond.fieldLink RX4 112 "EvenClockModel" "count" "I", Cond.methodLink RX4 205 yX4_slackOf, Cond.instanceMethod yX4_slackOf, Cond.selects RX4 yX4_slackOf yX4_slackOf, Cond.initialized RX4, Cond.code yX4_slackOf cX4_slackOf 7 (some .long), Cond.constantLong RX4 203 (1048576), Cond.fieldLink RX4 19 "EvenClockModel" "needs" "[I", Cond.methodLink RX4 193 yX4_weigh, Cond.instanceMethod yX4_weigh, Cond.selects RX4 yX4_weigh yX4_weigh, Cond.code yX4_weigh cX4_weigh 6 none, Cond.fieldLink RX4 140 "EvenClockModel" "nodes" "I", Cond.fieldLink RX4 35 "EvenClockModel" "left" "[I", Cond.fieldLink RX4 38 "EvenClockModel" "right" "[I", Cond.fieldLink RX4 93 "EvenClockModel" "bears" "[J", Cond.constantLong RX4 191 (1024), Cond.fieldLink RX4 16 "EvenClockModel" "loads" "[I", Cond.fieldLink RX4 97 "EvenClockModel" "shows" "[J", Cond.fieldLink RX4 26 "EvenClockModel" "c" "I", Cond.fieldLink RX4 59 "EvenClockModel" "wire" "[I", Cond.fieldLink RX4 29 "EvenClockModel" "input" "I", Cond.methodLink RX4 199 yX4_delayOf, Cond.instanceMethod yX4_delayOf]
def wsX4_bestSetting_r2 : List Cond := [Cond.selects RX4 yX4_delayOf yX4_delayOf, Cond.code yX4_delayOf cX4_delayOf 9 (some .long), Cond.fieldLink RX4 22 "EvenClockModel" "\x72" "I", Cond.constantLong RX4 197 (2), Cond.fieldLink RX4 126 "EvenClockModel" "wait" "I", Cond.fieldLink RX4 32 "EvenClockModel" "drive" "I", Cond.fieldLink RX4 41 "EvenClockModel" "parent" "[I"]
def wsX4_bestSetting : List Cond := .code yX4_bestSetting cX4_bestSetting 7 (some .int) :: ((wsX4_bestSetting_r1 ++ wsX4_bestSetting_r2) ++ wsX40)
def wsX4_best_r1 : List Cond := [Cond.fieldLink RX4 115 "EvenClockModel" "built" "Z", Cond.fieldLink RX4 100 "EvenClockModel" "thrown" "I", Cond.methodLink RX4 209 yX4_bestSetting, Cond.instanceMethod yX4_bestSetting, Cond.selects RX4 yX4_bestSetting yX4_bestSetting, Cond.initialized RX4, Cond.code yX4_bestSetting cX4_bestSetting 7 (some .int), Cond.fieldLink RX4 112 "EvenClockModel" "count" "I", Cond.methodLink RX4 205 yX4_slackOf, Cond.instanceMethod yX4_slackOf, Cond.selects RX4 yX4_slackOf yX4_slackOf, Cond.code yX4_slackOf cX4_slackOf 7 (some .long), Cond.constantLong RX4 203 (1048576), Cond.fieldLink RX4 19 "EvenClockModel" "needs" "[I", Cond.methodLink RX4 193 yX4_weigh, Cond.instanceMethod yX4_weigh, Cond.selects RX4 yX4_weigh yX4_weigh, Cond.code yX4_weigh cX4_weigh 6 none, Cond.fieldLink RX4 140 "EvenClockModel" "nodes" "I", Cond.fieldLink RX4 35 "EvenClockModel" "left" "[I", Cond.fieldLink RX4 38 "EvenClockModel" "right" "[I", Cond.fieldLink RX4 93 "EvenClockModel" "bears" "[J", Cond.constantLong RX4 191 (1024), Cond.fieldLink RX4 16 "EvenClockModel" "loads" "[I"]
def wsX4_best_r2 : List Cond := [Cond.fieldLink RX4 97 "EvenClockModel" "shows" "[J", Cond.fieldLink RX4 26 "EvenClockModel" "c" "I", Cond.fieldLink RX4 59 "EvenClockModel" "wire" "[I", Cond.fieldLink RX4 29 "EvenClockModel" "input" "I", Cond.methodLink RX4 199 yX4_delayOf, Cond.instanceMethod yX4_delayOf, Cond.selects RX4 yX4_delayOf yX4_delayOf, Cond.code yX4_delayOf cX4_delayOf 9 (some .long), Cond.fieldLink RX4 22 "EvenClockModel" "\x72" "I", Cond.constantLong RX4 197 (2), Cond.fieldLink RX4 126 "EvenClockModel" "wait" "I", Cond.fieldLink RX4 32 "EvenClockModel" "drive" "I", Cond.fieldLink RX4 41 "EvenClockModel" "parent" "[I"]
def wsX4_best : List Cond := .code yX4_best cX4_best 1 (some .long) :: ((wsX4_best_r1 ++ wsX4_best_r2) ++ wsX40)
def wsX4_improve_r1 : List Cond := [Cond.fieldLink RX4 115 "EvenClockModel" "built" "Z", Cond.fieldLink RX4 100 "EvenClockModel" "thrown" "I", Cond.fieldLink RX4 112 "EvenClockModel" "count" "I", Cond.fieldLink RX4 140 "EvenClockModel" "nodes" "I", Cond.fieldLink RX4 68 "EvenClockModel" "set" "[Z", Cond.methodLink RX4 209 yX4_bestSetting, Cond.instanceMethod yX4_bestSetting, Cond.selects RX4 yX4_bestSetting yX4_bestSetting, Cond.initialized RX4, Cond.code yX4_bestSetting cX4_bestSetting 7 (some .int), Cond.methodLink RX4 205 yX4_slackOf, Cond.instanceMethod yX4_slackOf, Cond.selects RX4 yX4_slackOf yX4_slackOf, Cond.code yX4_slackOf cX4_slackOf 7 (some .long), Cond.constantLong RX4 203 (1048576), Cond.fieldLink RX4 19 "EvenClockModel" "needs" "[I", Cond.methodLink RX4 193 yX4_weigh, Cond.instanceMethod yX4_weigh, Cond.selects RX4 yX4_weigh yX4_weigh, Cond.code yX4_weigh cX4_weigh 6 none, Cond.fieldLink RX4 35 "EvenClockModel" "left" "[I", Cond.fieldLink RX4 38 "EvenClockModel" "right" "[I", Cond.fieldLink RX4 93 "EvenClockModel" "bears" "[J", Cond.constantLong RX4 191 (1024)]
def wsX4_improve_r2 : List Cond := [Cond.fieldLink RX4 16 "EvenClockModel" "loads" "[I", Cond.fieldLink RX4 97 "EvenClockModel" "shows" "[J", Cond.fieldLink RX4 26 "EvenClockModel" "c" "I", Cond.fieldLink RX4 59 "EvenClockModel" "wire" "[I", Cond.fieldLink RX4 29 "EvenClockModel" "input" "I", Cond.methodLink RX4 199 yX4_delayOf, Cond.instanceMethod yX4_delayOf, Cond.selects RX4 yX4_delayOf yX4_delayOf, Cond.code yX4_delayOf cX4_delayOf 9 (some .long), Cond.fieldLink RX4 22 "EvenClockModel" "\x72" "I", Cond.constantLong RX4 197 (2), Cond.fieldLink RX4 126 "EvenClockModel" "wait" "I", Cond.fieldLink RX4 32 "EvenClockModel" "drive" "I", Cond.fieldLink RX4 41 "EvenClockModel" "parent" "[I"]
def wsX4_improve : List Cond := .code yX4_improve cX4_improve 3 (some .int) :: ((wsX4_improve_r1 ++ wsX4_improve_r2) ++ wsX40)
def wsJ9_abs_0f7a4 : List Cond := .code yJ9_abs_0f7a4 cJ9_abs_0f7a4 1 (some .int) :: ([])
def wsJ9_max_7cf53 : List Cond := .code yJ9_max_7cf53 cJ9_max_7cf53 2 (some .int) :: ([])
def wsJ9_min_7cf53 : List Cond := .code yJ9_min_7cf53 cJ9_min_7cf53 2 (some .int) :: ([])
def wsJ9_min_f86c9 : List Cond := .code yJ9_min_f86c9 cJ9_min_f86c9 4 (some .long) :: ([])
def wsL_sink_r1 : List Cond := [Cond.classLink RL 13 "java/lang/IllegalArgumentException", Cond.classLink RL 15 "java/lang/UnsupportedOperationException", Cond.methodLink RL 7 yX3_sink, Cond.instanceMethod yX3_sink, Cond.selects RX3 yX3_sink yX3_sink, Cond.initialized RX3, Cond.code yX3_sink cX3_sink 5 (some .int), Cond.classLink RX3 53 "java/lang/IllegalArgumentException", Cond.initialized "java/lang/IllegalArgumentException", Cond.classLink RX3 63 "java/lang/UnsupportedOperationException", Cond.initialized "java/lang/UnsupportedOperationException", Cond.constant RX3 52 (1000000000), Cond.fieldLink RX3 12 "EvenClock" "given" "LEvenClock$SinkRows;", Cond.fieldLink RX3 60 "EvenClock$SinkRows" "count" "I", Cond.fieldLink RX3 37 "EvenClock" "built" "Z", Cond.methodLink RX3 44 yX3_isPlace, Cond.static yX3_isPlace, Cond.code yX3_isPlace cX3_isPlace 2 (some .boolean), Cond.methodLink RX3 48 yX3_isWithin, Cond.static yX3_isWithin, Cond.code yX3_isWithin cX3_isWithin 3 (some .boolean), Cond.methodLink RX3 68 yX1_append, Cond.instanceMethod yX1_append, Cond.selects RX1 yX1_append yX1_append]
def wsL_sink_r2 : List Cond := [Cond.initialized RX1, Cond.code yX1_append cX1_append 6 (some .int), Cond.fieldLink RX1 24 "EvenClock$SinkRows" "count" "I", Cond.fieldLink RX1 9 "EvenClock$SinkRows" "x" "[I", Cond.fieldLink RX1 15 "EvenClock$SinkRows" "y" "[I", Cond.fieldLink RX1 18 "EvenClock$SinkRows" "load" "[I", Cond.fieldLink RX1 21 "EvenClock$SinkRows" "need" "[I"]
def wsL_sink : List Cond := .codeWith yL_sink cL_sink 7 (some .int) [(0, 14, 17, 13), (0, 14, 21, 15)] :: ((wsL_sink_r1 ++ wsL_sink_r2) ++ wsX30 ++ wsX10 ++ (vx_atS RX3 57 "java/lang/IllegalArgumentException" ["java/lang/RuntimeException", "java/lang/Exception"]).filter goodWord ++ (vx_atS RX3 67 "java/lang/UnsupportedOperationException" ["java/lang/RuntimeException", "java/lang/Exception"]).filter goodWord)
def wsL_cut : List Cond := .codeWith yL_cut cL_cut 3 (some .int) [(0, 5, 8, 13)] :: ([.classLink RL 13 "java/lang/IllegalArgumentException", .methodLink RL 17 yX3_cut, .instanceMethod yX3_cut, .selects RX3 yX3_cut yX3_cut, .initialized RX3, .code yX3_cut cX3_cut 2 none, .classLink RX3 53 "java/lang/IllegalArgumentException", .initialized "java/lang/IllegalArgumentException", .fieldLink RX3 12 "EvenClock" "given" "LEvenClock$SinkRows;", .fieldLink RX3 60 "EvenClock$SinkRows" "count" "I", .fieldLink RX3 37 "EvenClock" "built" "Z", .methodLink RX3 48 yX3_isWithin, .static yX3_isWithin, .code yX3_isWithin cX3_isWithin 3 (some .boolean)] ++ wsX30 ++ wsX10 ++ (vx_atS RX3 57 "java/lang/IllegalArgumentException" ["java/lang/RuntimeException", "java/lang/Exception"]).filter goodWord)
def wsL_source : List Cond := .codeWith yL_source cL_source 4 (some .int) [(0, 6, 9, 13)] :: ([.classLink RL 13 "java/lang/IllegalArgumentException", .methodLink RL 21 yX3_source, .instanceMethod yX3_source, .selects RX3 yX3_source yX3_source, .initialized RX3, .code yX3_source cX3_source 3 none, .classLink RX3 53 "java/lang/IllegalArgumentException", .initialized "java/lang/IllegalArgumentException", .fieldLink RX3 37 "EvenClock" "built" "Z", .fieldLink RX3 30 "EvenClock" "sourceX" "I", .fieldLink RX3 34 "EvenClock" "sourceY" "I", .methodLink RX3 44 yX3_isPlace, .static yX3_isPlace, .code yX3_isPlace cX3_isPlace 2 (some .boolean), .methodLink RX3 48 yX3_isWithin, .static yX3_isWithin, .code yX3_isWithin cX3_isWithin 3 (some .boolean)] ++ wsX30 ++ (vx_atS RX3 57 "java/lang/IllegalArgumentException" ["java/lang/RuntimeException", "java/lang/Exception"]).filter goodWord)
def wsL_wires : List Cond := .codeWith yL_wires cL_wires 4 (some .int) [(0, 6, 9, 13)] :: ([.classLink RL 13 "java/lang/IllegalArgumentException", .methodLink RL 25 yX3_wires, .instanceMethod yX3_wires, .selects RX3 yX3_wires yX3_wires, .initialized RX3, .code yX3_wires cX3_wires 3 none, .classLink RX3 53 "java/lang/IllegalArgumentException", .initialized "java/lang/IllegalArgumentException", .fieldLink RX3 26 "EvenClock" "circuit" "LEvenClock$Circuit;", .fieldLink RX3 78 "EvenClock$Circuit" "resistance" "I", .fieldLink RX3 81 "EvenClock$Circuit" "capacity" "I", .methodLink RX3 48 yX3_isWithin, .static yX3_isWithin, .code yX3_isWithin cX3_isWithin 3 (some .boolean)] ++ wsX30 ++ wsX00 ++ (vx_atS RX3 57 "java/lang/IllegalArgumentException" ["java/lang/RuntimeException", "java/lang/Exception"]).filter goodWord)
def wsL_buffer : List Cond := .codeWith yL_buffer cL_buffer 5 (some .int) [(0, 7, 10, 13)] :: ([.classLink RL 13 "java/lang/IllegalArgumentException", .methodLink RL 28 yX3_buffer, .instanceMethod yX3_buffer, .selects RX3 yX3_buffer yX3_buffer, .initialized RX3, .code yX3_buffer cX3_buffer 4 none, .classLink RX3 53 "java/lang/IllegalArgumentException", .initialized "java/lang/IllegalArgumentException", .constant RX3 84 (1000000), .constant RX3 52 (1000000000), .fieldLink RX3 26 "EvenClock" "circuit" "LEvenClock$Circuit;", .fieldLink RX3 87 "EvenClock$Circuit" "input" "I", .fieldLink RX3 90 "EvenClock$Circuit" "drive" "I", .fieldLink RX3 93 "EvenClock$Circuit" "ownDelay" "I", .methodLink RX3 48 yX3_isWithin, .static yX3_isWithin, .code yX3_isWithin cX3_isWithin 3 (some .boolean)] ++ wsX30 ++ wsX00 ++ (vx_atS RX3 57 "java/lang/IllegalArgumentException" ["java/lang/RuntimeException", "java/lang/Exception"]).filter goodWord)
def wsL_build_r1 : List Cond := [Cond.classLink RL 13 "java/lang/IllegalArgumentException", Cond.classLink RL 36 "java/util/NoSuchElementException", Cond.methodLink RL 32 yX3_build, Cond.instanceMethod yX3_build, Cond.selects RX3 yX3_build yX3_build, Cond.initialized RX3, Cond.code yX3_build cX3_build 2 (some .int), Cond.classLink RX3 53 "java/lang/IllegalArgumentException", Cond.initialized "java/lang/IllegalArgumentException", Cond.classLink RX3 98 "java/util/NoSuchElementException", Cond.initialized "java/util/NoSuchElementException", Cond.fieldLink RX3 12 "EvenClock" "given" "LEvenClock$SinkRows;", Cond.fieldLink RX3 60 "EvenClock$SinkRows" "count" "I", Cond.fieldLink RX3 19 "EvenClock" "tree" "LEvenClock$Tree;", Cond.fieldLink RX3 30 "EvenClock" "sourceX" "I", Cond.fieldLink RX3 34 "EvenClock" "sourceY" "I", Cond.fieldLink RX3 37 "EvenClock" "built" "Z", Cond.fieldLink RX3 41 "EvenClock" "buffered" "I", Cond.fieldLink RX3 124 "EvenClock$Tree" "nodes" "I", Cond.methodLink RX3 48 yX3_isWithin, Cond.static yX3_isWithin, Cond.code yX3_isWithin cX3_isWithin 3 (some .boolean), Cond.methodLink RX3 103 yX2_plantSinks, Cond.instanceMethod yX2_plantSinks]
def wsL_build_r2 : List Cond := [Cond.selects RX2 yX2_plantSinks yX2_plantSinks, Cond.initialized RX2, Cond.code yX2_plantSinks cX2_plantSinks 5 none, Cond.fieldLink RX2 55 "EvenClock$SinkRows" "count" "I", Cond.fieldLink RX2 48 "EvenClock$Tree" "leaves" "I", Cond.fieldLink RX2 52 "EvenClock$Tree" "nodes" "I", Cond.fieldLink RX2 60 "EvenClock$SinkRows" "x" "[I", Cond.fieldLink RX2 63 "EvenClock$SinkRows" "y" "[I", Cond.fieldLink RX2 9 "EvenClock$Tree" "left" "[I", Cond.fieldLink RX2 15 "EvenClock$Tree" "right" "[I", Cond.fieldLink RX2 18 "EvenClock$Tree" "parent" "[I", Cond.fieldLink RX2 21 "EvenClock$Tree" "lowU" "[I", Cond.fieldLink RX2 24 "EvenClock$Tree" "highU" "[I", Cond.fieldLink RX2 27 "EvenClock$Tree" "lowV" "[I", Cond.fieldLink RX2 30 "EvenClock$Tree" "highV" "[I", Cond.fieldLink RX2 33 "EvenClock$Tree" "time" "[I", Cond.static yX3_placeU, Cond.code yX3_placeU cX3_placeU 2 (some .int), Cond.static yX3_placeV, Cond.code yX3_placeV cX3_placeV 2 (some .int), Cond.methodLink RX3 107 yX2_joinByDistance, Cond.instanceMethod yX2_joinByDistance, Cond.selects RX2 yX2_joinByDistance yX2_joinByDistance, Cond.code yX2_joinByDistance cX2_joinByDistance 2 none]
def wsL_build_r3 : List Cond := [Cond.methodLink RX2 73 yX2_joinNearestPair, Cond.instanceMethod yX2_joinNearestPair, Cond.selects RX2 yX2_joinNearestPair yX2_joinNearestPair, Cond.code yX2_joinNearestPair cX2_joinNearestPair 8 none, Cond.constant RX2 76 (2147483647), Cond.methodLink RX2 77 yX2_distanceOf, Cond.instanceMethod yX2_distanceOf, Cond.selects RX2 yX2_distanceOf yX2_distanceOf, Cond.code yX2_distanceOf cX2_distanceOf 5 (some .int), Cond.methodLink RX2 99 Lib.Math.max.name, Cond.static Lib.Math.max.name, Cond.initialized "java/lang/Math", Cond.code Lib.Math.max.name Lib.Math.max.code 2 (some .int), Cond.methodLink RX2 95 yX2_gapOf, Cond.static yX2_gapOf, Cond.code yX2_gapOf cX2_gapOf 4 (some .int), Cond.methodLink RX2 80 yX2_joinTwo, Cond.instanceMethod yX2_joinTwo, Cond.selects RX2 yX2_joinTwo yX2_joinTwo, Cond.code yX2_joinTwo cX2_joinTwo 4 (some .int), Cond.fieldLink RX2 36 "EvenClock$Tree" "wire" "[I", Cond.methodLink RX2 108 Lib.Math.min.name, Cond.static Lib.Math.min.name, Cond.code Lib.Math.min.name Lib.Math.min.code 2 (some .int)]
def wsL_build_r4 : List Cond := [Cond.methodLink RX2 104 yX2_setWires, Cond.instanceMethod yX2_setWires, Cond.selects RX2 yX2_setWires yX2_setWires, Cond.code yX2_setWires cX2_setWires 4 none, Cond.methodLink RX3 110 yX2_joinByCutting, Cond.instanceMethod yX2_joinByCutting, Cond.selects RX2 yX2_joinByCutting yX2_joinByCutting, Cond.code yX2_joinByCutting cX2_joinByCutting 3 none, Cond.fieldLink RX2 45 "EvenClock$Tree" "row" "[I", Cond.methodLink RX2 83 yX2_joinRow, Cond.static yX2_joinRow, Cond.code yX2_joinRow cX2_joinRow 8 (some .int), Cond.methodLink RX2 87 yX2_orderRow, Cond.instanceMethod yX2_orderRow, Cond.selects RX2 yX2_orderRow yX2_orderRow, Cond.code yX2_orderRow cX2_orderRow 8 none, Cond.methodLink RX2 91 yX1_isBefore, Cond.instanceMethod yX1_isBefore, Cond.selects RX1 yX1_isBefore yX1_isBefore, Cond.initialized RX1, Cond.code yX1_isBefore cX1_isBefore 8 (some .boolean), Cond.fieldLink RX1 9 "EvenClock$SinkRows" "x" "[I", Cond.fieldLink RX1 15 "EvenClock$SinkRows" "y" "[I", Cond.methodLink RX3 113 yX3_placeU]
def wsL_build_r5 : List Cond := [Cond.methodLink RX3 117 yX3_placeV, Cond.methodLink RX3 120 yX2_choosePlaces, Cond.instanceMethod yX2_choosePlaces, Cond.selects RX2 yX2_choosePlaces yX2_choosePlaces, Cond.code yX2_choosePlaces cX2_choosePlaces 5 none, Cond.fieldLink RX2 39 "EvenClock$Tree" "u" "[I", Cond.methodLink RX2 114 Lib.Math.abs.name, Cond.static Lib.Math.abs.name, Cond.code Lib.Math.abs.name Lib.Math.abs.code 1 (some .int), Cond.fieldLink RX2 42 "EvenClock$Tree" "v" "[I", Cond.methodLink RX2 111 yX2_standNear, Cond.instanceMethod yX2_standNear, Cond.selects RX2 yX2_standNear yX2_standNear, Cond.code yX2_standNear cX2_standNear 4 none]
def wsL_build : List Cond := .codeWith yL_build cL_build 4 (some .int) [(0, 9, 12, 13), (0, 9, 15, 36)] :: ((wsL_build_r1 ++ (wsL_build_r2 ++ (wsL_build_r3 ++ (wsL_build_r4 ++ wsL_build_r5)))) ++ wsX30 ++ wsX10 ++ wsX20 ++ (vx_atS RX3 57 "java/lang/IllegalArgumentException" ["java/lang/RuntimeException", "java/lang/Exception"]).filter goodWord ++ (xn_atS RX3 102).filter goodWord)
def wsL_node_r1 : List Cond := [Cond.classLink RL 42 "java/lang/IllegalStateException", Cond.classLink RL 44 "java/lang/IndexOutOfBoundsException", Cond.methodLink RL 38 yX3_node, Cond.instanceMethod yX3_node, Cond.selects RX3 yX3_node yX3_node, Cond.initialized RX3, Cond.code yX3_node cX3_node 3 (some .int), Cond.classLink RX3 130 "java/lang/IndexOutOfBoundsException", Cond.initialized "java/lang/IndexOutOfBoundsException", Cond.fieldLink RX3 19 "EvenClock" "tree" "LEvenClock$Tree;", Cond.fieldLink RX3 124 "EvenClock$Tree" "nodes" "I", Cond.methodLink RX3 127 yX3_requireTree, Cond.instanceMethod yX3_requireTree, Cond.selects RX3 yX3_requireTree yX3_requireTree, Cond.code yX3_requireTree cX3_requireTree 1 none, Cond.classLink RX3 190 "java/lang/IllegalStateException", Cond.initialized "java/lang/IllegalStateException", Cond.fieldLink RX3 37 "EvenClock" "built" "Z", Cond.methodLink RX3 48 yX3_isWithin, Cond.static yX3_isWithin, Cond.code yX3_isWithin cX3_isWithin 3 (some .boolean), Cond.methodLink RX3 135 yX2_partOf, Cond.instanceMethod yX2_partOf, Cond.selects RX2 yX2_partOf yX2_partOf]
def wsL_node_r2 : List Cond := [Cond.initialized RX2, Cond.code yX2_partOf cX2_partOf 3 (some .int), Cond.fieldLink RX2 9 "EvenClock$Tree" "left" "[I", Cond.fieldLink RX2 15 "EvenClock$Tree" "right" "[I", Cond.fieldLink RX2 18 "EvenClock$Tree" "parent" "[I", Cond.fieldLink RX2 21 "EvenClock$Tree" "lowU" "[I", Cond.fieldLink RX2 24 "EvenClock$Tree" "highU" "[I", Cond.fieldLink RX2 27 "EvenClock$Tree" "lowV" "[I", Cond.fieldLink RX2 30 "EvenClock$Tree" "highV" "[I", Cond.fieldLink RX2 33 "EvenClock$Tree" "time" "[I", Cond.fieldLink RX2 36 "EvenClock$Tree" "wire" "[I", Cond.fieldLink RX2 39 "EvenClock$Tree" "u" "[I", Cond.fieldLink RX2 42 "EvenClock$Tree" "v" "[I"]
def wsL_node : List Cond := .codeWith yL_node cL_node 5 (some .int) [(0, 10, 13, 42), (0, 10, 17, 44)] :: ((wsL_node_r1 ++ wsL_node_r2) ++ wsX30 ++ wsX20 ++ (vx_atS RX3 134 "java/lang/IndexOutOfBoundsException" ["java/lang/RuntimeException", "java/lang/Exception"]).filter goodWord ++ (vx_atS RX3 194 "java/lang/IllegalStateException" ["java/lang/RuntimeException", "java/lang/Exception"]).filter goodWord)
def wsL_length : List Cond := .codeWith yL_length cL_length 3 (some .int) [(0, 8, 11, 42)] :: ([.classLink RL 42 "java/lang/IllegalStateException", .methodLink RL 46 yX3_length, .instanceMethod yX3_length, .selects RX3 yX3_length yX3_length, .initialized RX3, .code yX3_length cX3_length 1 (some .int), .fieldLink RX3 19 "EvenClock" "tree" "LEvenClock$Tree;", .methodLink RX3 127 yX3_requireTree, .instanceMethod yX3_requireTree, .selects RX3 yX3_requireTree yX3_requireTree, .code yX3_requireTree cX3_requireTree 1 none, .classLink RX3 190 "java/lang/IllegalStateException", .initialized "java/lang/IllegalStateException", .fieldLink RX3 37 "EvenClock" "built" "Z", .methodLink RX3 138 yX2_wireSum, .instanceMethod yX2_wireSum, .selects RX2 yX2_wireSum yX2_wireSum, .initialized RX2, .code yX2_wireSum cX2_wireSum 3 (some .int), .fieldLink RX2 52 "EvenClock$Tree" "nodes" "I", .fieldLink RX2 36 "EvenClock$Tree" "wire" "[I"] ++ wsX30 ++ wsX20 ++ (vx_atS RX3 194 "java/lang/IllegalStateException" ["java/lang/RuntimeException", "java/lang/Exception"]).filter goodWord)
def wsL_depth_r1 : List Cond := [Cond.classLink RL 42 "java/lang/IllegalStateException", Cond.classLink RL 44 "java/lang/IndexOutOfBoundsException", Cond.methodLink RL 50 yX3_depth, Cond.instanceMethod yX3_depth, Cond.selects RX3 yX3_depth yX3_depth, Cond.initialized RX3, Cond.code yX3_depth cX3_depth 2 (some .int), Cond.fieldLink RX3 19 "EvenClock" "tree" "LEvenClock$Tree;", Cond.methodLink RX3 127 yX3_requireTree, Cond.instanceMethod yX3_requireTree, Cond.selects RX3 yX3_requireTree yX3_requireTree, Cond.code yX3_requireTree cX3_requireTree 1 none, Cond.classLink RX3 190 "java/lang/IllegalStateException", Cond.initialized "java/lang/IllegalStateException", Cond.fieldLink RX3 37 "EvenClock" "built" "Z", Cond.methodLink RX3 142 yX3_requireSink, Cond.instanceMethod yX3_requireSink, Cond.selects RX3 yX3_requireSink yX3_requireSink, Cond.code yX3_requireSink cX3_requireSink 2 none, Cond.classLink RX3 130 "java/lang/IndexOutOfBoundsException", Cond.initialized "java/lang/IndexOutOfBoundsException", Cond.fieldLink RX3 150 "EvenClock$Tree" "leaves" "I", Cond.methodLink RX3 48 yX3_isWithin, Cond.static yX3_isWithin]
def wsL_depth_r2 : List Cond := [Cond.code yX3_isWithin cX3_isWithin 3 (some .boolean), Cond.methodLink RX3 146 yX2_joinsAbove, Cond.instanceMethod yX2_joinsAbove, Cond.selects RX2 yX2_joinsAbove yX2_joinsAbove, Cond.initialized RX2, Cond.code yX2_joinsAbove cX2_joinsAbove 5 (some .int), Cond.fieldLink RX2 48 "EvenClock$Tree" "leaves" "I", Cond.fieldLink RX2 52 "EvenClock$Tree" "nodes" "I", Cond.fieldLink RX2 18 "EvenClock$Tree" "parent" "[I"]
def wsL_depth : List Cond := .codeWith yL_depth cL_depth 4 (some .int) [(0, 9, 12, 42), (0, 9, 15, 44)] :: ((wsL_depth_r1 ++ wsL_depth_r2) ++ wsX30 ++ wsX20 ++ (vx_atS RX3 194 "java/lang/IllegalStateException" ["java/lang/RuntimeException", "java/lang/Exception"]).filter goodWord ++ (vx_atS RX3 134 "java/lang/IndexOutOfBoundsException" ["java/lang/RuntimeException", "java/lang/Exception"]).filter goodWord)
def wsL_set_r1 : List Cond := [Cond.classLink RL 42 "java/lang/IllegalStateException", Cond.classLink RL 44 "java/lang/IndexOutOfBoundsException", Cond.methodLink RL 53 yX3_set, Cond.instanceMethod yX3_set, Cond.selects RX3 yX3_set yX3_set, Cond.initialized RX3, Cond.code yX3_set cX3_set 5 (some .boolean), Cond.classLink RX3 130 "java/lang/IndexOutOfBoundsException", Cond.initialized "java/lang/IndexOutOfBoundsException", Cond.fieldLink RX3 19 "EvenClock" "tree" "LEvenClock$Tree;", Cond.fieldLink RX3 150 "EvenClock$Tree" "leaves" "I", Cond.fieldLink RX3 124 "EvenClock$Tree" "nodes" "I", Cond.fieldLink RX3 41 "EvenClock" "buffered" "I", Cond.methodLink RX3 127 yX3_requireTree, Cond.instanceMethod yX3_requireTree, Cond.selects RX3 yX3_requireTree yX3_requireTree, Cond.code yX3_requireTree cX3_requireTree 1 none, Cond.classLink RX3 190 "java/lang/IllegalStateException", Cond.initialized "java/lang/IllegalStateException", Cond.fieldLink RX3 37 "EvenClock" "built" "Z", Cond.methodLink RX3 48 yX3_isWithin, Cond.static yX3_isWithin, Cond.code yX3_isWithin cX3_isWithin 3 (some .boolean), Cond.methodLink RX3 155 yX2_bitOf]
def wsL_set_r2 : List Cond := [Cond.instanceMethod yX2_bitOf, Cond.selects RX2 yX2_bitOf yX2_bitOf, Cond.initialized RX2, Cond.code yX2_bitOf cX2_bitOf 2 (some .int), Cond.fieldLink RX2 48 "EvenClock$Tree" "leaves" "I"]
def wsL_set : List Cond := .codeWith yL_set cL_set 5 (some .int) [(0, 17, 20, 42), (0, 17, 24, 44)] :: ((wsL_set_r1 ++ wsL_set_r2) ++ wsX30 ++ wsX20 ++ (vx_atS RX3 134 "java/lang/IndexOutOfBoundsException" ["java/lang/RuntimeException", "java/lang/Exception"]).filter goodWord ++ (vx_atS RX3 194 "java/lang/IllegalStateException" ["java/lang/RuntimeException", "java/lang/Exception"]).filter goodWord)
def wsL_setting : List Cond := .codeWith yL_setting cL_setting 3 (some .int) [(0, 8, 11, 42)] :: ([.classLink RL 42 "java/lang/IllegalStateException", .methodLink RL 57 yX3_setting, .instanceMethod yX3_setting, .selects RX3 yX3_setting yX3_setting, .initialized RX3, .code yX3_setting cX3_setting 1 (some .int), .fieldLink RX3 41 "EvenClock" "buffered" "I", .methodLink RX3 127 yX3_requireTree, .instanceMethod yX3_requireTree, .selects RX3 yX3_requireTree yX3_requireTree, .code yX3_requireTree cX3_requireTree 1 none, .classLink RX3 190 "java/lang/IllegalStateException", .initialized "java/lang/IllegalStateException", .fieldLink RX3 37 "EvenClock" "built" "Z"] ++ wsX30 ++ (vx_atS RX3 194 "java/lang/IllegalStateException" ["java/lang/RuntimeException", "java/lang/Exception"]).filter goodWord)
def wsL_load_r1 : List Cond := [Cond.classLink RL 42 "java/lang/IllegalStateException", Cond.classLink RL 44 "java/lang/IndexOutOfBoundsException", Cond.methodLink RL 60 yX3_load, Cond.instanceMethod yX3_load, Cond.selects RX3 yX3_load yX3_load, Cond.initialized RX3, Cond.code yX3_load cX3_load 3 (some .long), Cond.classLink RX3 130 "java/lang/IndexOutOfBoundsException", Cond.initialized "java/lang/IndexOutOfBoundsException", Cond.fieldLink RX3 19 "EvenClock" "tree" "LEvenClock$Tree;", Cond.fieldLink RX3 124 "EvenClock$Tree" "nodes" "I", Cond.fieldLink RX3 26 "EvenClock" "circuit" "LEvenClock$Circuit;", Cond.fieldLink RX3 12 "EvenClock" "given" "LEvenClock$SinkRows;", Cond.fieldLink RX3 41 "EvenClock" "buffered" "I", Cond.fieldLink RX3 164 "EvenClock$Circuit" "shows" "[J", Cond.fieldLink RX3 168 "EvenClock$Circuit" "bears" "[J", Cond.methodLink RX3 127 yX3_requireTree, Cond.instanceMethod yX3_requireTree, Cond.selects RX3 yX3_requireTree yX3_requireTree, Cond.code yX3_requireTree cX3_requireTree 1 none, Cond.classLink RX3 190 "java/lang/IllegalStateException", Cond.initialized "java/lang/IllegalStateException", Cond.fieldLink RX3 37 "EvenClock" "built" "Z", Cond.methodLink RX3 48 yX3_isWithin]
def wsL_load_r2 : List Cond := [Cond.static yX3_isWithin, Cond.code yX3_isWithin cX3_isWithin 3 (some .boolean), Cond.methodLink RX3 160 yX0_weigh, Cond.instanceMethod yX0_weigh, Cond.selects RX0 yX0_weigh yX0_weigh, Cond.initialized RX0, Cond.code yX0_weigh cX0_weigh 5 none, Cond.fieldLink RX0 48 "EvenClock$Tree" "leaves" "I", Cond.fieldLink RX0 53 "EvenClock$Tree" "nodes" "I", Cond.methodLink RX0 44 yX0_weighSinks, Cond.instanceMethod yX0_weighSinks, Cond.selects RX0 yX0_weighSinks yX0_weighSinks, Cond.code yX0_weighSinks cX0_weighSinks 4 none, Cond.fieldLink RX0 9 "EvenClock$Circuit" "bears" "[J", Cond.constantLong RX0 64 (1024), Cond.fieldLink RX0 66 "EvenClock$SinkRows" "load" "[I", Cond.fieldLink RX0 15 "EvenClock$Circuit" "shows" "[J", Cond.fieldLink RX0 18 "EvenClock$Circuit" "slackBelow" "[J", Cond.constantLong RX0 72 (1048576), Cond.fieldLink RX0 74 "EvenClock$SinkRows" "need" "[I", Cond.methodLink RX0 56 yX2_bitOf, Cond.instanceMethod yX2_bitOf, Cond.selects RX2 yX2_bitOf yX2_bitOf, Cond.initialized RX2]
def wsL_load_r3 : List Cond := [Cond.code yX2_bitOf cX2_bitOf 2 (some .int), Cond.fieldLink RX2 48 "EvenClock$Tree" "leaves" "I", Cond.methodLink RX0 60 yX0_weighJoin, Cond.instanceMethod yX0_weighJoin, Cond.selects RX0 yX0_weighJoin yX0_weighJoin, Cond.code yX0_weighJoin cX0_weighJoin 6 none, Cond.fieldLink RX0 77 "EvenClock$Tree" "left" "[I", Cond.fieldLink RX0 80 "EvenClock$Tree" "right" "[I", Cond.methodLink RX0 90 Lib.MathLoose.min_long.x, Cond.static Lib.MathLoose.min_long.x, Cond.initialized "java/lang/Math", Cond.code Lib.MathLoose.min_long.x Lib.MathLoose.min_long.code 4 (some .long), Cond.fieldLink RX0 28 "EvenClock$Circuit" "input" "I", Cond.methodLink RX0 83 yX0_wireCapacity, Cond.instanceMethod yX0_wireCapacity, Cond.selects RX0 yX0_wireCapacity yX0_wireCapacity, Cond.code yX0_wireCapacity cX0_wireCapacity 3 (some .long), Cond.fieldLink RX0 25 "EvenClock$Circuit" "capacity" "I", Cond.fieldLink RX0 100 "EvenClock$Tree" "wire" "[I", Cond.methodLink RX0 87 yX0_slackAbove, Cond.instanceMethod yX0_slackAbove, Cond.selects RX0 yX0_slackAbove yX0_slackAbove, Cond.code yX0_slackAbove cX0_slackAbove 3 (some .long), Cond.methodLink RX0 105 yX0_wireDelay]
def wsL_load_r4 : List Cond := [Cond.instanceMethod yX0_wireDelay, Cond.selects RX0 yX0_wireDelay yX0_wireDelay, Cond.code yX0_wireDelay cX0_wireDelay 3 (some .long), Cond.fieldLink RX0 21 "EvenClock$Circuit" "resistance" "I", Cond.constantLong RX0 103 (2), Cond.methodLink RX0 96 yX0_bufferDelay, Cond.instanceMethod yX0_bufferDelay, Cond.selects RX0 yX0_bufferDelay yX0_bufferDelay, Cond.code yX0_bufferDelay cX0_bufferDelay 2 (some .long), Cond.fieldLink RX0 34 "EvenClock$Circuit" "ownDelay" "I", Cond.fieldLink RX0 31 "EvenClock$Circuit" "drive" "I"]
def wsL_load : List Cond := .codeWith yL_load cL_load 5 (some .int) [(0, 9, 12, 42), (0, 9, 16, 44)] :: ((wsL_load_r1 ++ (wsL_load_r2 ++ (wsL_load_r3 ++ wsL_load_r4))) ++ wsX30 ++ wsX20 ++ wsX00 ++ wsX10 ++ (vx_atS RX3 134 "java/lang/IndexOutOfBoundsException" ["java/lang/RuntimeException", "java/lang/Exception"]).filter goodWord ++ (vx_atS RX3 194 "java/lang/IllegalStateException" ["java/lang/RuntimeException", "java/lang/Exception"]).filter goodWord)
def wsL_delay_r1 : List Cond := [Cond.classLink RL 42 "java/lang/IllegalStateException", Cond.classLink RL 44 "java/lang/IndexOutOfBoundsException", Cond.methodLink RL 64 yX3_delay, Cond.instanceMethod yX3_delay, Cond.selects RX3 yX3_delay yX3_delay, Cond.initialized RX3, Cond.code yX3_delay cX3_delay 2 (some .long), Cond.fieldLink RX3 26 "EvenClock" "circuit" "LEvenClock$Circuit;", Cond.fieldLink RX3 19 "EvenClock" "tree" "LEvenClock$Tree;", Cond.fieldLink RX3 12 "EvenClock" "given" "LEvenClock$SinkRows;", Cond.fieldLink RX3 41 "EvenClock" "buffered" "I", Cond.methodLink RX3 127 yX3_requireTree, Cond.instanceMethod yX3_requireTree, Cond.selects RX3 yX3_requireTree yX3_requireTree, Cond.code yX3_requireTree cX3_requireTree 1 none, Cond.classLink RX3 190 "java/lang/IllegalStateException", Cond.initialized "java/lang/IllegalStateException", Cond.fieldLink RX3 37 "EvenClock" "built" "Z", Cond.methodLink RX3 142 yX3_requireSink, Cond.instanceMethod yX3_requireSink, Cond.selects RX3 yX3_requireSink yX3_requireSink, Cond.code yX3_requireSink cX3_requireSink 2 none, Cond.classLink RX3 130 "java/lang/IndexOutOfBoundsException", Cond.initialized "java/lang/IndexOutOfBoundsException"]
def wsL_delay_r2 : List Cond := [Cond.fieldLink RX3 150 "EvenClock$Tree" "leaves" "I", Cond.methodLink RX3 48 yX3_isWithin, Cond.static yX3_isWithin, Cond.code yX3_isWithin cX3_isWithin 3 (some .boolean), Cond.methodLink RX3 160 yX0_weigh, Cond.instanceMethod yX0_weigh, Cond.selects RX0 yX0_weigh yX0_weigh, Cond.initialized RX0, Cond.code yX0_weigh cX0_weigh 5 none, Cond.fieldLink RX0 48 "EvenClock$Tree" "leaves" "I", Cond.fieldLink RX0 53 "EvenClock$Tree" "nodes" "I", Cond.methodLink RX0 44 yX0_weighSinks, Cond.instanceMethod yX0_weighSinks, Cond.selects RX0 yX0_weighSinks yX0_weighSinks, Cond.code yX0_weighSinks cX0_weighSinks 4 none, Cond.fieldLink RX0 9 "EvenClock$Circuit" "bears" "[J", Cond.constantLong RX0 64 (1024), Cond.fieldLink RX0 66 "EvenClock$SinkRows" "load" "[I", Cond.fieldLink RX0 15 "EvenClock$Circuit" "shows" "[J", Cond.fieldLink RX0 18 "EvenClock$Circuit" "slackBelow" "[J", Cond.constantLong RX0 72 (1048576), Cond.fieldLink RX0 74 "EvenClock$SinkRows" "need" "[I", Cond.methodLink RX0 56 yX2_bitOf, Cond.instanceMethod yX2_bitOf]
def wsL_delay_r3 : List Cond := [Cond.selects RX2 yX2_bitOf yX2_bitOf, Cond.initialized RX2, Cond.code yX2_bitOf cX2_bitOf 2 (some .int), Cond.fieldLink RX2 48 "EvenClock$Tree" "leaves" "I", Cond.methodLink RX0 60 yX0_weighJoin, Cond.instanceMethod yX0_weighJoin, Cond.selects RX0 yX0_weighJoin yX0_weighJoin, Cond.code yX0_weighJoin cX0_weighJoin 6 none, Cond.fieldLink RX0 77 "EvenClock$Tree" "left" "[I", Cond.fieldLink RX0 80 "EvenClock$Tree" "right" "[I", Cond.methodLink RX0 90 Lib.MathLoose.min_long.x, Cond.static Lib.MathLoose.min_long.x, Cond.initialized "java/lang/Math", Cond.code Lib.MathLoose.min_long.x Lib.MathLoose.min_long.code 4 (some .long), Cond.fieldLink RX0 28 "EvenClock$Circuit" "input" "I", Cond.methodLink RX0 83 yX0_wireCapacity, Cond.instanceMethod yX0_wireCapacity, Cond.selects RX0 yX0_wireCapacity yX0_wireCapacity, Cond.code yX0_wireCapacity cX0_wireCapacity 3 (some .long), Cond.fieldLink RX0 25 "EvenClock$Circuit" "capacity" "I", Cond.fieldLink RX0 100 "EvenClock$Tree" "wire" "[I", Cond.methodLink RX0 87 yX0_slackAbove, Cond.instanceMethod yX0_slackAbove, Cond.selects RX0 yX0_slackAbove yX0_slackAbove]
def wsL_delay_r4 : List Cond := [Cond.code yX0_slackAbove cX0_slackAbove 3 (some .long), Cond.methodLink RX0 105 yX0_wireDelay, Cond.instanceMethod yX0_wireDelay, Cond.selects RX0 yX0_wireDelay yX0_wireDelay, Cond.code yX0_wireDelay cX0_wireDelay 3 (some .long), Cond.fieldLink RX0 21 "EvenClock$Circuit" "resistance" "I", Cond.constantLong RX0 103 (2), Cond.methodLink RX0 96 yX0_bufferDelay, Cond.instanceMethod yX0_bufferDelay, Cond.selects RX0 yX0_bufferDelay yX0_bufferDelay, Cond.code yX0_bufferDelay cX0_bufferDelay 2 (some .long), Cond.fieldLink RX0 34 "EvenClock$Circuit" "ownDelay" "I", Cond.fieldLink RX0 31 "EvenClock$Circuit" "drive" "I", Cond.methodLink RX3 171 yX0_delayTo, Cond.instanceMethod yX0_delayTo, Cond.selects RX0 yX0_delayTo yX0_delayTo, Cond.code yX0_delayTo cX0_delayTo 8 (some .long), Cond.fieldLink RX0 108 "EvenClock$Tree" "parent" "[I"]
def wsL_delay : List Cond := .codeWith yL_delay cL_delay 4 (some .int) [(0, 8, 11, 42), (0, 8, 14, 44)] :: ((wsL_delay_r1 ++ (wsL_delay_r2 ++ (wsL_delay_r3 ++ wsL_delay_r4))) ++ wsX30 ++ wsX20 ++ wsX00 ++ wsX10 ++ (vx_atS RX3 194 "java/lang/IllegalStateException" ["java/lang/RuntimeException", "java/lang/Exception"]).filter goodWord ++ (vx_atS RX3 134 "java/lang/IndexOutOfBoundsException" ["java/lang/RuntimeException", "java/lang/Exception"]).filter goodWord)
def wsL_slack_r1 : List Cond := [Cond.classLink RL 42 "java/lang/IllegalStateException", Cond.methodLink RL 68 yX3_slack, Cond.instanceMethod yX3_slack, Cond.selects RX3 yX3_slack yX3_slack, Cond.initialized RX3, Cond.code yX3_slack cX3_slack 1 (some .long), Cond.fieldLink RX3 26 "EvenClock" "circuit" "LEvenClock$Circuit;", Cond.fieldLink RX3 19 "EvenClock" "tree" "LEvenClock$Tree;", Cond.fieldLink RX3 12 "EvenClock" "given" "LEvenClock$SinkRows;", Cond.fieldLink RX3 41 "EvenClock" "buffered" "I", Cond.methodLink RX3 127 yX3_requireTree, Cond.instanceMethod yX3_requireTree, Cond.selects RX3 yX3_requireTree yX3_requireTree, Cond.code yX3_requireTree cX3_requireTree 1 none, Cond.classLink RX3 190 "java/lang/IllegalStateException", Cond.initialized "java/lang/IllegalStateException", Cond.fieldLink RX3 37 "EvenClock" "built" "Z", Cond.methodLink RX3 160 yX0_weigh, Cond.instanceMethod yX0_weigh, Cond.selects RX0 yX0_weigh yX0_weigh, Cond.initialized RX0, Cond.code yX0_weigh cX0_weigh 5 none, Cond.fieldLink RX0 48 "EvenClock$Tree" "leaves" "I", Cond.fieldLink RX0 53 "EvenClock$Tree" "nodes" "I"]
def wsL_slack_r2 : List Cond := [Cond.methodLink RX0 44 yX0_weighSinks, Cond.instanceMethod yX0_weighSinks, Cond.selects RX0 yX0_weighSinks yX0_weighSinks, Cond.code yX0_weighSinks cX0_weighSinks 4 none, Cond.fieldLink RX0 9 "EvenClock$Circuit" "bears" "[J", Cond.constantLong RX0 64 (1024), Cond.fieldLink RX0 66 "EvenClock$SinkRows" "load" "[I", Cond.fieldLink RX0 15 "EvenClock$Circuit" "shows" "[J", Cond.fieldLink RX0 18 "EvenClock$Circuit" "slackBelow" "[J", Cond.constantLong RX0 72 (1048576), Cond.fieldLink RX0 74 "EvenClock$SinkRows" "need" "[I", Cond.methodLink RX0 56 yX2_bitOf, Cond.instanceMethod yX2_bitOf, Cond.selects RX2 yX2_bitOf yX2_bitOf, Cond.initialized RX2, Cond.code yX2_bitOf cX2_bitOf 2 (some .int), Cond.fieldLink RX2 48 "EvenClock$Tree" "leaves" "I", Cond.methodLink RX0 60 yX0_weighJoin, Cond.instanceMethod yX0_weighJoin, Cond.selects RX0 yX0_weighJoin yX0_weighJoin, Cond.code yX0_weighJoin cX0_weighJoin 6 none, Cond.fieldLink RX0 77 "EvenClock$Tree" "left" "[I", Cond.fieldLink RX0 80 "EvenClock$Tree" "right" "[I", Cond.methodLink RX0 90 Lib.MathLoose.min_long.x]
def wsL_slack_r3 : List Cond := [Cond.static Lib.MathLoose.min_long.x, Cond.initialized "java/lang/Math", Cond.code Lib.MathLoose.min_long.x Lib.MathLoose.min_long.code 4 (some .long), Cond.fieldLink RX0 28 "EvenClock$Circuit" "input" "I", Cond.methodLink RX0 83 yX0_wireCapacity, Cond.instanceMethod yX0_wireCapacity, Cond.selects RX0 yX0_wireCapacity yX0_wireCapacity, Cond.code yX0_wireCapacity cX0_wireCapacity 3 (some .long), Cond.fieldLink RX0 25 "EvenClock$Circuit" "capacity" "I", Cond.fieldLink RX0 100 "EvenClock$Tree" "wire" "[I", Cond.methodLink RX0 87 yX0_slackAbove, Cond.instanceMethod yX0_slackAbove, Cond.selects RX0 yX0_slackAbove yX0_slackAbove, Cond.code yX0_slackAbove cX0_slackAbove 3 (some .long), Cond.methodLink RX0 105 yX0_wireDelay, Cond.instanceMethod yX0_wireDelay, Cond.selects RX0 yX0_wireDelay yX0_wireDelay, Cond.code yX0_wireDelay cX0_wireDelay 3 (some .long), Cond.fieldLink RX0 21 "EvenClock$Circuit" "resistance" "I", Cond.constantLong RX0 103 (2), Cond.methodLink RX0 96 yX0_bufferDelay, Cond.instanceMethod yX0_bufferDelay, Cond.selects RX0 yX0_bufferDelay yX0_bufferDelay, Cond.code yX0_bufferDelay cX0_bufferDelay 2 (some .long)]
def wsL_slack_r4 : List Cond := [Cond.fieldLink RX0 34 "EvenClock$Circuit" "ownDelay" "I", Cond.fieldLink RX0 31 "EvenClock$Circuit" "drive" "I", Cond.methodLink RX3 175 yX0_slackAtSource, Cond.instanceMethod yX0_slackAtSource, Cond.selects RX0 yX0_slackAtSource yX0_slackAtSource, Cond.code yX0_slackAtSource cX0_slackAtSource 2 (some .long)]
def wsL_slack : List Cond := .codeWith yL_slack cL_slack 3 (some .int) [(0, 7, 10, 42)] :: ((wsL_slack_r1 ++ (wsL_slack_r2 ++ (wsL_slack_r3 ++ wsL_slack_r4))) ++ wsX30 ++ wsX20 ++ wsX00 ++ wsX10 ++ (vx_atS RX3 194 "java/lang/IllegalStateException" ["java/lang/RuntimeException", "java/lang/Exception"]).filter goodWord)
def wsL_best_r1 : List Cond := [Cond.classLink RL 42 "java/lang/IllegalStateException", Cond.methodLink RL 72 yX3_best, Cond.instanceMethod yX3_best, Cond.selects RX3 yX3_best yX3_best, Cond.initialized RX3, Cond.code yX3_best cX3_best 1 (some .long), Cond.fieldLink RX3 26 "EvenClock" "circuit" "LEvenClock$Circuit;", Cond.fieldLink RX3 19 "EvenClock" "tree" "LEvenClock$Tree;", Cond.fieldLink RX3 12 "EvenClock" "given" "LEvenClock$SinkRows;", Cond.fieldLink RX3 183 "EvenClock$Circuit" "bestSlack" "J", Cond.methodLink RX3 127 yX3_requireTree, Cond.instanceMethod yX3_requireTree, Cond.selects RX3 yX3_requireTree yX3_requireTree, Cond.code yX3_requireTree cX3_requireTree 1 none, Cond.classLink RX3 190 "java/lang/IllegalStateException", Cond.initialized "java/lang/IllegalStateException", Cond.fieldLink RX3 37 "EvenClock" "built" "Z", Cond.methodLink RX3 179 yX0_findBest, Cond.instanceMethod yX0_findBest, Cond.selects RX0 yX0_findBest yX0_findBest, Cond.initialized RX0, Cond.code yX0_findBest cX0_findBest 3 none, Cond.fieldLink RX0 41 "EvenClock$Circuit" "bestSetting" "I", Cond.fieldLink RX0 48 "EvenClock$Tree" "leaves" "I"]
def wsL_best_r2 : List Cond := [Cond.methodLink RX0 44 yX0_weighSinks, Cond.instanceMethod yX0_weighSinks, Cond.selects RX0 yX0_weighSinks yX0_weighSinks, Cond.code yX0_weighSinks cX0_weighSinks 4 none, Cond.fieldLink RX0 9 "EvenClock$Circuit" "bears" "[J", Cond.constantLong RX0 64 (1024), Cond.fieldLink RX0 66 "EvenClock$SinkRows" "load" "[I", Cond.fieldLink RX0 15 "EvenClock$Circuit" "shows" "[J", Cond.fieldLink RX0 18 "EvenClock$Circuit" "slackBelow" "[J", Cond.constantLong RX0 72 (1048576), Cond.fieldLink RX0 74 "EvenClock$SinkRows" "need" "[I", Cond.methodLink RX0 111 yX0_tryFrom, Cond.static yX0_tryFrom, Cond.code yX0_tryFrom cX0_tryFrom 4 none, Cond.fieldLink RX0 53 "EvenClock$Tree" "nodes" "I", Cond.methodLink RX0 115 yX0_slackAtSource, Cond.instanceMethod yX0_slackAtSource, Cond.selects RX0 yX0_slackAtSource yX0_slackAtSource, Cond.code yX0_slackAtSource cX0_slackAtSource 2 (some .long), Cond.methodLink RX0 87 yX0_slackAbove, Cond.instanceMethod yX0_slackAbove, Cond.selects RX0 yX0_slackAbove yX0_slackAbove, Cond.code yX0_slackAbove cX0_slackAbove 3 (some .long), Cond.methodLink RX0 105 yX0_wireDelay]
def wsL_best_r3 : List Cond := [Cond.instanceMethod yX0_wireDelay, Cond.selects RX0 yX0_wireDelay yX0_wireDelay, Cond.code yX0_wireDelay cX0_wireDelay 3 (some .long), Cond.fieldLink RX0 21 "EvenClock$Circuit" "resistance" "I", Cond.fieldLink RX0 100 "EvenClock$Tree" "wire" "[I", Cond.constantLong RX0 103 (2), Cond.methodLink RX0 83 yX0_wireCapacity, Cond.instanceMethod yX0_wireCapacity, Cond.selects RX0 yX0_wireCapacity yX0_wireCapacity, Cond.code yX0_wireCapacity cX0_wireCapacity 3 (some .long), Cond.fieldLink RX0 25 "EvenClock$Circuit" "capacity" "I", Cond.methodLink RX0 119 yX0_keepIfBetter, Cond.instanceMethod yX0_keepIfBetter, Cond.selects RX0 yX0_keepIfBetter yX0_keepIfBetter, Cond.code yX0_keepIfBetter cX0_keepIfBetter 5 none, Cond.fieldLink RX0 37 "EvenClock$Circuit" "bestSlack" "J", Cond.methodLink RX0 60 yX0_weighJoin, Cond.instanceMethod yX0_weighJoin, Cond.selects RX0 yX0_weighJoin yX0_weighJoin, Cond.code yX0_weighJoin cX0_weighJoin 6 none, Cond.fieldLink RX0 77 "EvenClock$Tree" "left" "[I", Cond.fieldLink RX0 80 "EvenClock$Tree" "right" "[I", Cond.methodLink RX0 90 Lib.MathLoose.min_long.x, Cond.static Lib.MathLoose.min_long.x]
def wsL_best_r4 : List Cond := [Cond.initialized "java/lang/Math", Cond.code Lib.MathLoose.min_long.x Lib.MathLoose.min_long.code 4 (some .long), Cond.fieldLink RX0 28 "EvenClock$Circuit" "input" "I", Cond.methodLink RX0 96 yX0_bufferDelay, Cond.instanceMethod yX0_bufferDelay, Cond.selects RX0 yX0_bufferDelay yX0_bufferDelay, Cond.code yX0_bufferDelay cX0_bufferDelay 2 (some .long), Cond.fieldLink RX0 34 "EvenClock$Circuit" "ownDelay" "I", Cond.fieldLink RX0 31 "EvenClock$Circuit" "drive" "I", Cond.methodLink RX0 56 yX2_bitOf, Cond.instanceMethod yX2_bitOf, Cond.selects RX2 yX2_bitOf yX2_bitOf, Cond.initialized RX2, Cond.code yX2_bitOf cX2_bitOf 2 (some .int), Cond.fieldLink RX2 48 "EvenClock$Tree" "leaves" "I"]
def wsL_best : List Cond := .codeWith yL_best cL_best 3 (some .int) [(0, 7, 10, 42)] :: ((wsL_best_r1 ++ (wsL_best_r2 ++ (wsL_best_r3 ++ wsL_best_r4))) ++ wsX30 ++ wsX00 ++ wsX20 ++ wsX10 ++ (vx_atS RX3 194 "java/lang/IllegalStateException" ["java/lang/RuntimeException", "java/lang/Exception"]).filter goodWord)
def wsL_improve_r1 : List Cond := [Cond.classLink RL 42 "java/lang/IllegalStateException", Cond.methodLink RL 75 yX3_improve, Cond.instanceMethod yX3_improve, Cond.selects RX3 yX3_improve yX3_improve, Cond.initialized RX3, Cond.code yX3_improve cX3_improve 1 (some .int), Cond.fieldLink RX3 26 "EvenClock" "circuit" "LEvenClock$Circuit;", Cond.fieldLink RX3 19 "EvenClock" "tree" "LEvenClock$Tree;", Cond.fieldLink RX3 12 "EvenClock" "given" "LEvenClock$SinkRows;", Cond.fieldLink RX3 187 "EvenClock$Circuit" "bestSetting" "I", Cond.fieldLink RX3 41 "EvenClock" "buffered" "I", Cond.methodLink RX3 127 yX3_requireTree, Cond.instanceMethod yX3_requireTree, Cond.selects RX3 yX3_requireTree yX3_requireTree, Cond.code yX3_requireTree cX3_requireTree 1 none, Cond.classLink RX3 190 "java/lang/IllegalStateException", Cond.initialized "java/lang/IllegalStateException", Cond.fieldLink RX3 37 "EvenClock" "built" "Z", Cond.methodLink RX3 179 yX0_findBest, Cond.instanceMethod yX0_findBest, Cond.selects RX0 yX0_findBest yX0_findBest, Cond.initialized RX0, Cond.code yX0_findBest cX0_findBest 3 none, Cond.fieldLink RX0 41 "EvenClock$Circuit" "bestSetting" "I"]
def wsL_improve_r2 : List Cond := [Cond.fieldLink RX0 48 "EvenClock$Tree" "leaves" "I", Cond.methodLink RX0 44 yX0_weighSinks, Cond.instanceMethod yX0_weighSinks, Cond.selects RX0 yX0_weighSinks yX0_weighSinks, Cond.code yX0_weighSinks cX0_weighSinks 4 none, Cond.fieldLink RX0 9 "EvenClock$Circuit" "bears" "[J", Cond.constantLong RX0 64 (1024), Cond.fieldLink RX0 66 "EvenClock$SinkRows" "load" "[I", Cond.fieldLink RX0 15 "EvenClock$Circuit" "shows" "[J", Cond.fieldLink RX0 18 "EvenClock$Circuit" "slackBelow" "[J", Cond.constantLong RX0 72 (1048576), Cond.fieldLink RX0 74 "EvenClock$SinkRows" "need" "[I", Cond.methodLink RX0 111 yX0_tryFrom, Cond.static yX0_tryFrom, Cond.code yX0_tryFrom cX0_tryFrom 4 none, Cond.fieldLink RX0 53 "EvenClock$Tree" "nodes" "I", Cond.methodLink RX0 115 yX0_slackAtSource, Cond.instanceMethod yX0_slackAtSource, Cond.selects RX0 yX0_slackAtSource yX0_slackAtSource, Cond.code yX0_slackAtSource cX0_slackAtSource 2 (some .long), Cond.methodLink RX0 87 yX0_slackAbove, Cond.instanceMethod yX0_slackAbove, Cond.selects RX0 yX0_slackAbove yX0_slackAbove, Cond.code yX0_slackAbove cX0_slackAbove 3 (some .long)]
def wsL_improve_r3 : List Cond := [Cond.methodLink RX0 105 yX0_wireDelay, Cond.instanceMethod yX0_wireDelay, Cond.selects RX0 yX0_wireDelay yX0_wireDelay, Cond.code yX0_wireDelay cX0_wireDelay 3 (some .long), Cond.fieldLink RX0 21 "EvenClock$Circuit" "resistance" "I", Cond.fieldLink RX0 100 "EvenClock$Tree" "wire" "[I", Cond.constantLong RX0 103 (2), Cond.methodLink RX0 83 yX0_wireCapacity, Cond.instanceMethod yX0_wireCapacity, Cond.selects RX0 yX0_wireCapacity yX0_wireCapacity, Cond.code yX0_wireCapacity cX0_wireCapacity 3 (some .long), Cond.fieldLink RX0 25 "EvenClock$Circuit" "capacity" "I", Cond.methodLink RX0 119 yX0_keepIfBetter, Cond.instanceMethod yX0_keepIfBetter, Cond.selects RX0 yX0_keepIfBetter yX0_keepIfBetter, Cond.code yX0_keepIfBetter cX0_keepIfBetter 5 none, Cond.fieldLink RX0 37 "EvenClock$Circuit" "bestSlack" "J", Cond.methodLink RX0 60 yX0_weighJoin, Cond.instanceMethod yX0_weighJoin, Cond.selects RX0 yX0_weighJoin yX0_weighJoin, Cond.code yX0_weighJoin cX0_weighJoin 6 none, Cond.fieldLink RX0 77 "EvenClock$Tree" "left" "[I", Cond.fieldLink RX0 80 "EvenClock$Tree" "right" "[I", Cond.methodLink RX0 90 Lib.MathLoose.min_long.x]
def wsL_improve_r4 : List Cond := [Cond.static Lib.MathLoose.min_long.x, Cond.initialized "java/lang/Math", Cond.code Lib.MathLoose.min_long.x Lib.MathLoose.min_long.code 4 (some .long), Cond.fieldLink RX0 28 "EvenClock$Circuit" "input" "I", Cond.methodLink RX0 96 yX0_bufferDelay, Cond.instanceMethod yX0_bufferDelay, Cond.selects RX0 yX0_bufferDelay yX0_bufferDelay, Cond.code yX0_bufferDelay cX0_bufferDelay 2 (some .long), Cond.fieldLink RX0 34 "EvenClock$Circuit" "ownDelay" "I", Cond.fieldLink RX0 31 "EvenClock$Circuit" "drive" "I", Cond.methodLink RX0 56 yX2_bitOf, Cond.instanceMethod yX2_bitOf, Cond.selects RX2 yX2_bitOf yX2_bitOf, Cond.initialized RX2, Cond.code yX2_bitOf cX2_bitOf 2 (some .int), Cond.fieldLink RX2 48 "EvenClock$Tree" "leaves" "I"]
def wsL_improve : List Cond := .codeWith yL_improve cL_improve 3 (some .int) [(0, 8, 11, 42)] :: ((wsL_improve_r1 ++ (wsL_improve_r2 ++ (wsL_improve_r3 ++ wsL_improve_r4))) ++ wsX30 ++ wsX00 ++ wsX20 ++ wsX10 ++ (vx_atS RX3 194 "java/lang/IllegalStateException" ["java/lang/RuntimeException", "java/lang/Exception"]).filter goodWord)
def wsL_law0_r1 : List Cond := [Cond.classLink RL 8 RX3, Cond.instantiable RX3 7, Cond.initialized RX3, Cond.classLink RL 79 RX4, Cond.instantiable RX4 37, Cond.initialized RX4, Cond.arrayClass .long, Cond.methodLink RL 78 yX3_init, Cond.instanceMethod yX3_init, Cond.code yX3_init cX3_init 1 none, Cond.methodLink RX3 3 objectInit, Cond.instanceMethod objectInit, Cond.code objectInit ⟨#[0xb1]⟩ 1 none, Cond.classLink RX3 9 RX1, Cond.instantiable RX1 5, Cond.initialized RX1, Cond.fieldLink RX3 12 "EvenClock" "given" "LEvenClock$SinkRows;", Cond.classLink RX3 16 RX2, Cond.instantiable RX2 14, Cond.initialized RX2, Cond.fieldLink RX3 19 "EvenClock" "tree" "LEvenClock$Tree;", Cond.classLink RX3 23 RX0, Cond.instantiable RX0 10, Cond.initialized RX0]
def wsL_law0_r2 : List Cond := [Cond.fieldLink RX3 26 "EvenClock" "circuit" "LEvenClock$Circuit;", Cond.fieldLink RX3 30 "EvenClock" "sourceX" "I", Cond.fieldLink RX3 34 "EvenClock" "sourceY" "I", Cond.fieldLink RX3 37 "EvenClock" "built" "Z", Cond.fieldLink RX3 41 "EvenClock" "buffered" "I", Cond.instanceMethod yX1_init, Cond.code yX1_init cX1_init 1 none, Cond.methodLink RX1 3 objectInit, Cond.arrayClass .int, Cond.fieldLink RX1 9 "EvenClock$SinkRows" "x" "[I", Cond.fieldLink RX1 15 "EvenClock$SinkRows" "y" "[I", Cond.fieldLink RX1 18 "EvenClock$SinkRows" "load" "[I", Cond.fieldLink RX1 21 "EvenClock$SinkRows" "need" "[I", Cond.fieldLink RX1 24 "EvenClock$SinkRows" "count" "I", Cond.instanceMethod yX2_init, Cond.code yX2_init cX2_init 1 none, Cond.methodLink RX2 3 objectInit, Cond.fieldLink RX2 9 "EvenClock$Tree" "left" "[I", Cond.fieldLink RX2 15 "EvenClock$Tree" "right" "[I", Cond.fieldLink RX2 18 "EvenClock$Tree" "parent" "[I", Cond.fieldLink RX2 21 "EvenClock$Tree" "lowU" "[I", Cond.fieldLink RX2 24 "EvenClock$Tree" "highU" "[I", Cond.fieldLink RX2 27 "EvenClock$Tree" "lowV" "[I", Cond.fieldLink RX2 30 "EvenClock$Tree" "highV" "[I"]
def wsL_law0_r3 : List Cond := [Cond.fieldLink RX2 33 "EvenClock$Tree" "time" "[I", Cond.fieldLink RX2 36 "EvenClock$Tree" "wire" "[I", Cond.fieldLink RX2 39 "EvenClock$Tree" "u" "[I", Cond.fieldLink RX2 42 "EvenClock$Tree" "v" "[I", Cond.fieldLink RX2 45 "EvenClock$Tree" "row" "[I", Cond.fieldLink RX2 48 "EvenClock$Tree" "leaves" "I", Cond.fieldLink RX2 52 "EvenClock$Tree" "nodes" "I", Cond.instanceMethod yX0_init, Cond.code yX0_init cX0_init 1 none, Cond.methodLink RX0 3 objectInit, Cond.fieldLink RX0 9 "EvenClock$Circuit" "bears" "[J", Cond.fieldLink RX0 15 "EvenClock$Circuit" "shows" "[J", Cond.fieldLink RX0 18 "EvenClock$Circuit" "slackBelow" "[J", Cond.fieldLink RX0 21 "EvenClock$Circuit" "resistance" "I", Cond.fieldLink RX0 25 "EvenClock$Circuit" "capacity" "I", Cond.fieldLink RX0 28 "EvenClock$Circuit" "input" "I", Cond.fieldLink RX0 31 "EvenClock$Circuit" "drive" "I", Cond.fieldLink RX0 34 "EvenClock$Circuit" "ownDelay" "I", Cond.fieldLink RX0 37 "EvenClock$Circuit" "bestSlack" "J", Cond.fieldLink RX0 41 "EvenClock$Circuit" "bestSetting" "I", Cond.methodLink RL 81 yX4_init, Cond.instanceMethod yX4_init, Cond.code yX4_init cX4_init 1 none, Cond.methodLink RX4 1 objectInit]
def wsL_law0_r4 : List Cond := [Cond.fieldLink RX4 7 "EvenClockModel" "xs" "[I", Cond.fieldLink RX4 13 "EvenClockModel" "ys" "[I", Cond.fieldLink RX4 16 "EvenClockModel" "loads" "[I", Cond.fieldLink RX4 19 "EvenClockModel" "needs" "[I", Cond.fieldLink RX4 22 "EvenClockModel" "\x72" "I", Cond.fieldLink RX4 26 "EvenClockModel" "c" "I", Cond.fieldLink RX4 29 "EvenClockModel" "input" "I", Cond.fieldLink RX4 32 "EvenClockModel" "drive" "I", Cond.fieldLink RX4 35 "EvenClockModel" "left" "[I", Cond.fieldLink RX4 38 "EvenClockModel" "right" "[I", Cond.fieldLink RX4 41 "EvenClockModel" "parent" "[I", Cond.fieldLink RX4 44 "EvenClockModel" "u1" "[I", Cond.fieldLink RX4 47 "EvenClockModel" "u2" "[I", Cond.fieldLink RX4 50 "EvenClockModel" "v1" "[I", Cond.fieldLink RX4 53 "EvenClockModel" "v2" "[I", Cond.fieldLink RX4 56 "EvenClockModel" "time" "[I", Cond.fieldLink RX4 59 "EvenClockModel" "wire" "[I", Cond.fieldLink RX4 62 "EvenClockModel" "u" "[I", Cond.fieldLink RX4 65 "EvenClockModel" "v" "[I", Cond.arrayClass .boolean, Cond.fieldLink RX4 68 "EvenClockModel" "set" "[Z", Cond.fieldLink RX4 72 "EvenClockModel" "joined" "[Z", Cond.fieldLink RX4 75 "EvenClockModel" "row" "[I", Cond.fieldLink RX4 78 "EvenClockModel" "from" "[I"]
def wsL_law0_r5 : List Cond := [Cond.fieldLink RX4 81 "EvenClockModel" "to" "[I", Cond.fieldLink RX4 84 "EvenClockModel" "level" "[I", Cond.fieldLink RX4 87 "EvenClockModel" "stage" "[I", Cond.fieldLink RX4 90 "EvenClockModel" "half" "[I", Cond.fieldLink RX4 93 "EvenClockModel" "bears" "[J", Cond.fieldLink RX4 97 "EvenClockModel" "shows" "[J", Cond.methodLink RL 82 yL_sink, Cond.static yL_sink, Cond.initialized RL, Cond.codeWith yL_sink cL_sink 7 (some .int) [(0, 14, 17, 13), (0, 14, 21, 15)], Cond.classLink RL 13 "java/lang/IllegalArgumentException", Cond.classLink RL 15 "java/lang/UnsupportedOperationException", Cond.methodLink RL 7 yX3_sink, Cond.instanceMethod yX3_sink, Cond.selects RX3 yX3_sink yX3_sink, Cond.code yX3_sink cX3_sink 5 (some .int), Cond.classLink RX3 53 "java/lang/IllegalArgumentException", Cond.initialized "java/lang/IllegalArgumentException", Cond.classLink RX3 63 "java/lang/UnsupportedOperationException", Cond.initialized "java/lang/UnsupportedOperationException", Cond.constant RX3 52 (1000000000), Cond.fieldLink RX3 60 "EvenClock$SinkRows" "count" "I", Cond.methodLink RX3 44 yX3_isPlace, Cond.static yX3_isPlace]
def wsL_law0_r6 : List Cond := [Cond.code yX3_isPlace cX3_isPlace 2 (some .boolean), Cond.methodLink RX3 48 yX3_isWithin, Cond.static yX3_isWithin, Cond.code yX3_isWithin cX3_isWithin 3 (some .boolean), Cond.methodLink RX3 68 yX1_append, Cond.instanceMethod yX1_append, Cond.selects RX1 yX1_append yX1_append, Cond.code yX1_append cX1_append 6 (some .int), Cond.methodLink RL 87 yX4_sink, Cond.instanceMethod yX4_sink, Cond.selects RX4 yX4_sink yX4_sink, Cond.code yX4_sink cX4_sink 5 (some .int), Cond.constant RX4 111 (1000000000), Cond.fieldLink RX4 112 "EvenClockModel" "count" "I", Cond.fieldLink RX4 100 "EvenClockModel" "thrown" "I", Cond.fieldLink RX4 115 "EvenClockModel" "built" "Z", Cond.methodLink RX4 103 yX4_isPlace, Cond.static yX4_isPlace, Cond.code yX4_isPlace cX4_isPlace 1 (some .boolean), Cond.methodLink RX4 107 yX4_within, Cond.static yX4_within, Cond.code yX4_within cX4_within 3 (some .boolean), Cond.methodLink RL 88 yX4_thrown, Cond.instanceMethod yX4_thrown]
def wsL_law0_r7 : List Cond := [Cond.selects RX4 yX4_thrown yX4_thrown, Cond.code yX4_thrown cX4_thrown 1 (some .int), Cond.methodLink RL 91 yL_cut, Cond.static yL_cut, Cond.codeWith yL_cut cL_cut 3 (some .int) [(0, 5, 8, 13)], Cond.methodLink RL 17 yX3_cut, Cond.instanceMethod yX3_cut, Cond.selects RX3 yX3_cut yX3_cut, Cond.code yX3_cut cX3_cut 2 none, Cond.methodLink RL 94 yX4_cut, Cond.instanceMethod yX4_cut, Cond.selects RX4 yX4_cut yX4_cut, Cond.code yX4_cut cX4_cut 2 none, Cond.methodLink RL 95 yL_source, Cond.static yL_source, Cond.codeWith yL_source cL_source 4 (some .int) [(0, 6, 9, 13)], Cond.methodLink RL 21 yX3_source, Cond.instanceMethod yX3_source, Cond.selects RX3 yX3_source yX3_source, Cond.code yX3_source cX3_source 3 none, Cond.methodLink RL 98 yX4_source, Cond.instanceMethod yX4_source, Cond.selects RX4 yX4_source yX4_source, Cond.code yX4_source cX4_source 3 none]
def wsL_law0_r8 : List Cond := [Cond.fieldLink RX4 119 "EvenClockModel" "sourceX" "I", Cond.fieldLink RX4 122 "EvenClockModel" "sourceY" "I", Cond.methodLink RL 99 yL_wires, Cond.static yL_wires, Cond.codeWith yL_wires cL_wires 4 (some .int) [(0, 6, 9, 13)], Cond.methodLink RL 25 yX3_wires, Cond.instanceMethod yX3_wires, Cond.selects RX3 yX3_wires yX3_wires, Cond.code yX3_wires cX3_wires 3 none, Cond.fieldLink RX3 78 "EvenClock$Circuit" "resistance" "I", Cond.fieldLink RX3 81 "EvenClock$Circuit" "capacity" "I", Cond.methodLink RL 101 yX4_wires, Cond.instanceMethod yX4_wires, Cond.selects RX4 yX4_wires yX4_wires, Cond.code yX4_wires cX4_wires 3 none, Cond.methodLink RL 102 yL_buffer, Cond.static yL_buffer, Cond.codeWith yL_buffer cL_buffer 5 (some .int) [(0, 7, 10, 13)], Cond.methodLink RL 28 yX3_buffer, Cond.instanceMethod yX3_buffer, Cond.selects RX3 yX3_buffer yX3_buffer, Cond.code yX3_buffer cX3_buffer 4 none, Cond.constant RX3 84 (1000000), Cond.fieldLink RX3 87 "EvenClock$Circuit" "input" "I"]
def wsL_law0_r9 : List Cond := [Cond.fieldLink RX3 90 "EvenClock$Circuit" "drive" "I", Cond.fieldLink RX3 93 "EvenClock$Circuit" "ownDelay" "I", Cond.methodLink RL 105 yX4_buffer, Cond.instanceMethod yX4_buffer, Cond.selects RX4 yX4_buffer yX4_buffer, Cond.code yX4_buffer cX4_buffer 4 none, Cond.constant RX4 125 (1000000), Cond.fieldLink RX4 126 "EvenClockModel" "wait" "I", Cond.methodLink RL 106 yX3_sinks, Cond.instanceMethod yX3_sinks, Cond.selects RX3 yX3_sinks yX3_sinks, Cond.code yX3_sinks cX3_sinks 1 (some .int), Cond.methodLink RL 109 yX4_sinks, Cond.instanceMethod yX4_sinks, Cond.selects RX4 yX4_sinks yX4_sinks, Cond.code yX4_sinks cX4_sinks 1 (some .int), Cond.methodLink RL 110 yL_build, Cond.static yL_build, Cond.codeWith yL_build cL_build 4 (some .int) [(0, 9, 12, 13), (0, 9, 15, 36)], Cond.classLink RL 36 "java/util/NoSuchElementException", Cond.methodLink RL 32 yX3_build, Cond.instanceMethod yX3_build, Cond.selects RX3 yX3_build yX3_build, Cond.code yX3_build cX3_build 2 (some .int)]
def wsL_law0_r10 : List Cond := [Cond.classLink RX3 98 "java/util/NoSuchElementException", Cond.initialized "java/util/NoSuchElementException", Cond.fieldLink RX3 124 "EvenClock$Tree" "nodes" "I", Cond.methodLink RX3 103 yX2_plantSinks, Cond.instanceMethod yX2_plantSinks, Cond.selects RX2 yX2_plantSinks yX2_plantSinks, Cond.code yX2_plantSinks cX2_plantSinks 5 none, Cond.fieldLink RX2 55 "EvenClock$SinkRows" "count" "I", Cond.fieldLink RX2 60 "EvenClock$SinkRows" "x" "[I", Cond.fieldLink RX2 63 "EvenClock$SinkRows" "y" "[I", Cond.static yX3_placeU, Cond.code yX3_placeU cX3_placeU 2 (some .int), Cond.static yX3_placeV, Cond.code yX3_placeV cX3_placeV 2 (some .int), Cond.methodLink RX3 107 yX2_joinByDistance, Cond.instanceMethod yX2_joinByDistance, Cond.selects RX2 yX2_joinByDistance yX2_joinByDistance, Cond.code yX2_joinByDistance cX2_joinByDistance 2 none, Cond.methodLink RX2 73 yX2_joinNearestPair, Cond.instanceMethod yX2_joinNearestPair, Cond.selects RX2 yX2_joinNearestPair yX2_joinNearestPair, Cond.code yX2_joinNearestPair cX2_joinNearestPair 8 none, Cond.constant RX2 76 (2147483647), Cond.methodLink RX2 77 yX2_distanceOf]
def wsL_law0_r11 : List Cond := [Cond.instanceMethod yX2_distanceOf, Cond.selects RX2 yX2_distanceOf yX2_distanceOf, Cond.code yX2_distanceOf cX2_distanceOf 5 (some .int), Cond.methodLink RX2 99 Lib.Math.max.name, Cond.static Lib.Math.max.name, Cond.initialized "java/lang/Math", Cond.code Lib.Math.max.name Lib.Math.max.code 2 (some .int), Cond.methodLink RX2 95 yX2_gapOf, Cond.static yX2_gapOf, Cond.code yX2_gapOf cX2_gapOf 4 (some .int), Cond.methodLink RX2 80 yX2_joinTwo, Cond.instanceMethod yX2_joinTwo, Cond.selects RX2 yX2_joinTwo yX2_joinTwo, Cond.code yX2_joinTwo cX2_joinTwo 4 (some .int), Cond.methodLink RX2 108 Lib.Math.min.name, Cond.static Lib.Math.min.name, Cond.code Lib.Math.min.name Lib.Math.min.code 2 (some .int), Cond.methodLink RX2 104 yX2_setWires, Cond.instanceMethod yX2_setWires, Cond.selects RX2 yX2_setWires yX2_setWires, Cond.code yX2_setWires cX2_setWires 4 none, Cond.methodLink RX3 110 yX2_joinByCutting, Cond.instanceMethod yX2_joinByCutting, Cond.selects RX2 yX2_joinByCutting yX2_joinByCutting]
def wsL_law0_r12 : List Cond := [Cond.code yX2_joinByCutting cX2_joinByCutting 3 none, Cond.methodLink RX2 83 yX2_joinRow, Cond.static yX2_joinRow, Cond.code yX2_joinRow cX2_joinRow 8 (some .int), Cond.methodLink RX2 87 yX2_orderRow, Cond.instanceMethod yX2_orderRow, Cond.selects RX2 yX2_orderRow yX2_orderRow, Cond.code yX2_orderRow cX2_orderRow 8 none, Cond.methodLink RX2 91 yX1_isBefore, Cond.instanceMethod yX1_isBefore, Cond.selects RX1 yX1_isBefore yX1_isBefore, Cond.code yX1_isBefore cX1_isBefore 8 (some .boolean), Cond.methodLink RX3 113 yX3_placeU, Cond.methodLink RX3 117 yX3_placeV, Cond.methodLink RX3 120 yX2_choosePlaces, Cond.instanceMethod yX2_choosePlaces, Cond.selects RX2 yX2_choosePlaces yX2_choosePlaces, Cond.code yX2_choosePlaces cX2_choosePlaces 5 none, Cond.methodLink RX2 114 Lib.Math.abs.name, Cond.static Lib.Math.abs.name, Cond.code Lib.Math.abs.name Lib.Math.abs.code 1 (some .int), Cond.methodLink RX2 111 yX2_standNear, Cond.instanceMethod yX2_standNear, Cond.selects RX2 yX2_standNear yX2_standNear]
def wsL_law0_r13 : List Cond := [Cond.code yX2_standNear cX2_standNear 4 none, Cond.methodLink RL 113 yX4_build, Cond.instanceMethod yX4_build, Cond.selects RX4 yX4_build yX4_build, Cond.code yX4_build cX4_build 2 (some .int), Cond.fieldLink RX4 140 "EvenClockModel" "nodes" "I", Cond.methodLink RX4 172 yX4_begin, Cond.instanceMethod yX4_begin, Cond.selects RX4 yX4_begin yX4_begin, Cond.code yX4_begin cX4_begin 4 none, Cond.methodLink RX4 146 yX4_place, Cond.instanceMethod yX4_place, Cond.selects RX4 yX4_place yX4_place, Cond.code yX4_place cX4_place 6 none, Cond.methodLink RX4 175 yX4_cutAll, Cond.instanceMethod yX4_cutAll, Cond.selects RX4 yX4_cutAll yX4_cutAll, Cond.code yX4_cutAll cX4_cutAll 4 none, Cond.fieldLink RX4 157 "EvenClockModel" "top" "I", Cond.methodLink RX4 160 yX4_push, Cond.instanceMethod yX4_push, Cond.selects RX4 yX4_push yX4_push, Cond.code yX4_push cX4_push 4 none, Cond.methodLink RX4 164 yX4_sort]
def wsL_law0_r14 : List Cond := [Cond.instanceMethod yX4_sort, Cond.selects RX4 yX4_sort yX4_sort, Cond.code yX4_sort cX4_sort 7 none, Cond.methodLink RX4 153 yX4_isBefore, Cond.instanceMethod yX4_isBefore, Cond.selects RX4 yX4_isBefore yX4_isBefore, Cond.code yX4_isBefore cX4_isBefore 6 (some .boolean), Cond.methodLink RX4 150 yX4_join, Cond.instanceMethod yX4_join, Cond.selects RX4 yX4_join yX4_join, Cond.code yX4_join cX4_join 9 (some .int), Cond.methodLink RX4 137 yX4_distance, Cond.instanceMethod yX4_distance, Cond.selects RX4 yX4_distance yX4_distance, Cond.code yX4_distance cX4_distance 3 (some .int), Cond.methodLink RX4 133 yX4_gap, Cond.static yX4_gap, Cond.code yX4_gap cX4_gap 4 (some .int), Cond.methodLink RX4 129 yX4_greater, Cond.static yX4_greater, Cond.code yX4_greater cX4_greater 2 (some .int), Cond.methodLink RX4 143 yX4_lesser, Cond.static yX4_lesser, Cond.code yX4_lesser cX4_lesser 2 (some .int)]
def wsL_law0_r15 : List Cond := [Cond.methodLink RX4 178 yX4_joinNearest, Cond.instanceMethod yX4_joinNearest, Cond.selects RX4 yX4_joinNearest yX4_joinNearest, Cond.code yX4_joinNearest cX4_joinNearest 6 none, Cond.methodLink RX4 181 yX4_choose, Cond.instanceMethod yX4_choose, Cond.selects RX4 yX4_choose yX4_choose, Cond.code yX4_choose cX4_choose 8 none, Cond.methodLink RX4 168 yX4_nearest, Cond.static yX4_nearest, Cond.code yX4_nearest cX4_nearest 3 (some .int), Cond.methodLink RL 114 yL_node, Cond.static yL_node, Cond.codeWith yL_node cL_node 5 (some .int) [(0, 10, 13, 42), (0, 10, 17, 44)], Cond.classLink RL 42 "java/lang/IllegalStateException", Cond.classLink RL 44 "java/lang/IndexOutOfBoundsException", Cond.methodLink RL 38 yX3_node, Cond.instanceMethod yX3_node, Cond.selects RX3 yX3_node yX3_node, Cond.code yX3_node cX3_node 3 (some .int), Cond.classLink RX3 130 "java/lang/IndexOutOfBoundsException", Cond.initialized "java/lang/IndexOutOfBoundsException", Cond.methodLink RX3 127 yX3_requireTree, Cond.instanceMethod yX3_requireTree]
def wsL_law0_r16 : List Cond := [Cond.selects RX3 yX3_requireTree yX3_requireTree, Cond.code yX3_requireTree cX3_requireTree 1 none, Cond.classLink RX3 190 "java/lang/IllegalStateException", Cond.initialized "java/lang/IllegalStateException", Cond.methodLink RX3 135 yX2_partOf, Cond.instanceMethod yX2_partOf, Cond.selects RX2 yX2_partOf yX2_partOf, Cond.code yX2_partOf cX2_partOf 3 (some .int), Cond.methodLink RL 117 yX4_node, Cond.instanceMethod yX4_node, Cond.selects RX4 yX4_node yX4_node, Cond.code yX4_node cX4_node 3 (some .int), Cond.methodLink RX4 184 yX4_isNode, Cond.instanceMethod yX4_isNode, Cond.selects RX4 yX4_isNode yX4_isNode, Cond.code yX4_isNode cX4_isNode 2 (some .boolean), Cond.methodLink RL 118 yL_length, Cond.static yL_length, Cond.codeWith yL_length cL_length 3 (some .int) [(0, 8, 11, 42)], Cond.methodLink RL 46 yX3_length, Cond.instanceMethod yX3_length, Cond.selects RX3 yX3_length yX3_length, Cond.code yX3_length cX3_length 1 (some .int), Cond.methodLink RX3 138 yX2_wireSum]
def wsL_law0_r17 : List Cond := [Cond.instanceMethod yX2_wireSum, Cond.selects RX2 yX2_wireSum yX2_wireSum, Cond.code yX2_wireSum cX2_wireSum 3 (some .int), Cond.methodLink RL 121 yX4_length, Cond.instanceMethod yX4_length, Cond.selects RX4 yX4_length yX4_length, Cond.code yX4_length cX4_length 3 (some .int), Cond.methodLink RL 122 yL_depth, Cond.static yL_depth, Cond.codeWith yL_depth cL_depth 4 (some .int) [(0, 9, 12, 42), (0, 9, 15, 44)], Cond.methodLink RL 50 yX3_depth, Cond.instanceMethod yX3_depth, Cond.selects RX3 yX3_depth yX3_depth, Cond.code yX3_depth cX3_depth 2 (some .int), Cond.methodLink RX3 142 yX3_requireSink, Cond.instanceMethod yX3_requireSink, Cond.selects RX3 yX3_requireSink yX3_requireSink, Cond.code yX3_requireSink cX3_requireSink 2 none, Cond.fieldLink RX3 150 "EvenClock$Tree" "leaves" "I", Cond.methodLink RX3 146 yX2_joinsAbove, Cond.instanceMethod yX2_joinsAbove, Cond.selects RX2 yX2_joinsAbove yX2_joinsAbove, Cond.code yX2_joinsAbove cX2_joinsAbove 5 (some .int), Cond.methodLink RL 124 yX4_depth]
def wsL_law0_r18 : List Cond := [Cond.instanceMethod yX4_depth, Cond.selects RX4 yX4_depth yX4_depth, Cond.code yX4_depth cX4_depth 4 (some .int), Cond.methodLink RL 125 yL_set, Cond.static yL_set, Cond.codeWith yL_set cL_set 5 (some .int) [(0, 17, 20, 42), (0, 17, 24, 44)], Cond.methodLink RL 53 yX3_set, Cond.instanceMethod yX3_set, Cond.selects RX3 yX3_set yX3_set, Cond.code yX3_set cX3_set 5 (some .boolean), Cond.methodLink RX3 155 yX2_bitOf, Cond.instanceMethod yX2_bitOf, Cond.selects RX2 yX2_bitOf yX2_bitOf, Cond.code yX2_bitOf cX2_bitOf 2 (some .int), Cond.methodLink RL 128 yX4_set, Cond.instanceMethod yX4_set, Cond.selects RX4 yX4_set yX4_set, Cond.code yX4_set cX4_set 3 (some .boolean), Cond.methodLink RL 129 yL_setting, Cond.static yL_setting, Cond.codeWith yL_setting cL_setting 3 (some .int) [(0, 8, 11, 42)], Cond.methodLink RL 57 yX3_setting, Cond.instanceMethod yX3_setting, Cond.selects RX3 yX3_setting yX3_setting]
def wsL_law0_r19 : List Cond := [Cond.code yX3_setting cX3_setting 1 (some .int), Cond.methodLink RL 131 yX4_setting, Cond.instanceMethod yX4_setting, Cond.selects RX4 yX4_setting yX4_setting, Cond.code yX4_setting cX4_setting 1 (some .int), Cond.methodLink RX4 187 yX4_number, Cond.instanceMethod yX4_number, Cond.selects RX4 yX4_number yX4_number, Cond.code yX4_number cX4_number 3 (some .int), Cond.methodLink RL 132 yL_load, Cond.static yL_load, Cond.codeWith yL_load cL_load 5 (some .int) [(0, 9, 12, 42), (0, 9, 16, 44)], Cond.methodLink RL 60 yX3_load, Cond.instanceMethod yX3_load, Cond.selects RX3 yX3_load yX3_load, Cond.code yX3_load cX3_load 3 (some .long), Cond.fieldLink RX3 164 "EvenClock$Circuit" "shows" "[J", Cond.fieldLink RX3 168 "EvenClock$Circuit" "bears" "[J", Cond.methodLink RX3 160 yX0_weigh, Cond.instanceMethod yX0_weigh, Cond.selects RX0 yX0_weigh yX0_weigh, Cond.code yX0_weigh cX0_weigh 5 none, Cond.fieldLink RX0 48 "EvenClock$Tree" "leaves" "I", Cond.fieldLink RX0 53 "EvenClock$Tree" "nodes" "I"]
def wsL_law0_r20 : List Cond := [Cond.methodLink RX0 44 yX0_weighSinks, Cond.instanceMethod yX0_weighSinks, Cond.selects RX0 yX0_weighSinks yX0_weighSinks, Cond.code yX0_weighSinks cX0_weighSinks 4 none, Cond.constantLong RX0 64 (1024), Cond.fieldLink RX0 66 "EvenClock$SinkRows" "load" "[I", Cond.constantLong RX0 72 (1048576), Cond.fieldLink RX0 74 "EvenClock$SinkRows" "need" "[I", Cond.methodLink RX0 56 yX2_bitOf, Cond.methodLink RX0 60 yX0_weighJoin, Cond.instanceMethod yX0_weighJoin, Cond.selects RX0 yX0_weighJoin yX0_weighJoin, Cond.code yX0_weighJoin cX0_weighJoin 6 none, Cond.fieldLink RX0 77 "EvenClock$Tree" "left" "[I", Cond.fieldLink RX0 80 "EvenClock$Tree" "right" "[I", Cond.methodLink RX0 90 Lib.MathLoose.min_long.x, Cond.static Lib.MathLoose.min_long.x, Cond.code Lib.MathLoose.min_long.x Lib.MathLoose.min_long.code 4 (some .long), Cond.methodLink RX0 83 yX0_wireCapacity, Cond.instanceMethod yX0_wireCapacity, Cond.selects RX0 yX0_wireCapacity yX0_wireCapacity, Cond.code yX0_wireCapacity cX0_wireCapacity 3 (some .long), Cond.fieldLink RX0 100 "EvenClock$Tree" "wire" "[I", Cond.methodLink RX0 87 yX0_slackAbove]
def wsL_law0_r21 : List Cond := [Cond.instanceMethod yX0_slackAbove, Cond.selects RX0 yX0_slackAbove yX0_slackAbove, Cond.code yX0_slackAbove cX0_slackAbove 3 (some .long), Cond.methodLink RX0 105 yX0_wireDelay, Cond.instanceMethod yX0_wireDelay, Cond.selects RX0 yX0_wireDelay yX0_wireDelay, Cond.code yX0_wireDelay cX0_wireDelay 3 (some .long), Cond.constantLong RX0 103 (2), Cond.methodLink RX0 96 yX0_bufferDelay, Cond.instanceMethod yX0_bufferDelay, Cond.selects RX0 yX0_bufferDelay yX0_bufferDelay, Cond.code yX0_bufferDelay cX0_bufferDelay 2 (some .long), Cond.methodLink RL 134 yX4_load, Cond.instanceMethod yX4_load, Cond.selects RX4 yX4_load yX4_load, Cond.code yX4_load cX4_load 3 (some .long), Cond.methodLink RX4 193 yX4_weigh, Cond.instanceMethod yX4_weigh, Cond.selects RX4 yX4_weigh yX4_weigh, Cond.code yX4_weigh cX4_weigh 6 none, Cond.constantLong RX4 191 (1024), Cond.methodLink RL 135 yL_delay, Cond.static yL_delay, Cond.codeWith yL_delay cL_delay 4 (some .int) [(0, 8, 11, 42), (0, 8, 14, 44)]]
def wsL_law0_r22 : List Cond := [Cond.methodLink RL 64 yX3_delay, Cond.instanceMethod yX3_delay, Cond.selects RX3 yX3_delay yX3_delay, Cond.code yX3_delay cX3_delay 2 (some .long), Cond.methodLink RX3 171 yX0_delayTo, Cond.instanceMethod yX0_delayTo, Cond.selects RX0 yX0_delayTo yX0_delayTo, Cond.code yX0_delayTo cX0_delayTo 8 (some .long), Cond.fieldLink RX0 108 "EvenClock$Tree" "parent" "[I", Cond.methodLink RL 137 yX4_delay, Cond.instanceMethod yX4_delay, Cond.selects RX4 yX4_delay yX4_delay, Cond.code yX4_delay cX4_delay 2 (some .long), Cond.methodLink RX4 199 yX4_delayOf, Cond.instanceMethod yX4_delayOf, Cond.selects RX4 yX4_delayOf yX4_delayOf, Cond.code yX4_delayOf cX4_delayOf 9 (some .long), Cond.constantLong RX4 197 (2), Cond.methodLink RL 138 yL_slack, Cond.static yL_slack, Cond.codeWith yL_slack cL_slack 3 (some .int) [(0, 7, 10, 42)], Cond.methodLink RL 68 yX3_slack, Cond.instanceMethod yX3_slack, Cond.selects RX3 yX3_slack yX3_slack]
def wsL_law0_r23 : List Cond := [Cond.code yX3_slack cX3_slack 1 (some .long), Cond.methodLink RX3 175 yX0_slackAtSource, Cond.instanceMethod yX0_slackAtSource, Cond.selects RX0 yX0_slackAtSource yX0_slackAtSource, Cond.code yX0_slackAtSource cX0_slackAtSource 2 (some .long), Cond.methodLink RL 140 yX4_slack, Cond.instanceMethod yX4_slack, Cond.selects RX4 yX4_slack yX4_slack, Cond.code yX4_slack cX4_slack 1 (some .long), Cond.methodLink RX4 205 yX4_slackOf, Cond.instanceMethod yX4_slackOf, Cond.selects RX4 yX4_slackOf yX4_slackOf, Cond.code yX4_slackOf cX4_slackOf 7 (some .long), Cond.constantLong RX4 203 (1048576), Cond.methodLink RL 141 yL_best, Cond.static yL_best, Cond.codeWith yL_best cL_best 3 (some .int) [(0, 7, 10, 42)], Cond.methodLink RL 72 yX3_best, Cond.instanceMethod yX3_best, Cond.selects RX3 yX3_best yX3_best, Cond.code yX3_best cX3_best 1 (some .long), Cond.fieldLink RX3 183 "EvenClock$Circuit" "bestSlack" "J", Cond.methodLink RX3 179 yX0_findBest, Cond.instanceMethod yX0_findBest]
def wsL_law0_r24 : List Cond := [Cond.selects RX0 yX0_findBest yX0_findBest, Cond.code yX0_findBest cX0_findBest 3 none, Cond.methodLink RX0 111 yX0_tryFrom, Cond.static yX0_tryFrom, Cond.code yX0_tryFrom cX0_tryFrom 4 none, Cond.methodLink RX0 115 yX0_slackAtSource, Cond.methodLink RX0 119 yX0_keepIfBetter, Cond.instanceMethod yX0_keepIfBetter, Cond.selects RX0 yX0_keepIfBetter yX0_keepIfBetter, Cond.code yX0_keepIfBetter cX0_keepIfBetter 5 none, Cond.methodLink RL 143 yX4_best, Cond.instanceMethod yX4_best, Cond.selects RX4 yX4_best yX4_best, Cond.code yX4_best cX4_best 1 (some .long), Cond.methodLink RX4 209 yX4_bestSetting, Cond.instanceMethod yX4_bestSetting, Cond.selects RX4 yX4_bestSetting yX4_bestSetting, Cond.code yX4_bestSetting cX4_bestSetting 7 (some .int), Cond.methodLink RL 144 yL_improve, Cond.static yL_improve, Cond.codeWith yL_improve cL_improve 3 (some .int) [(0, 8, 11, 42)], Cond.methodLink RL 75 yX3_improve, Cond.instanceMethod yX3_improve, Cond.selects RX3 yX3_improve yX3_improve]
def wsL_law0_r25 : List Cond := [Cond.code yX3_improve cX3_improve 1 (some .int), Cond.fieldLink RX3 187 "EvenClock$Circuit" "bestSetting" "I", Cond.methodLink RL 146 yX4_improve, Cond.instanceMethod yX4_improve, Cond.selects RX4 yX4_improve yX4_improve, Cond.code yX4_improve cX4_improve 3 (some .int)]
def wsL_law0 : List Cond := (wsL_law0_r1 ++ (wsL_law0_r2 ++ (wsL_law0_r3 ++ (wsL_law0_r4 ++ (wsL_law0_r5 ++ (wsL_law0_r6 ++ (wsL_law0_r7 ++ (wsL_law0_r8 ++ (wsL_law0_r9 ++ (wsL_law0_r10 ++ (wsL_law0_r11 ++ (wsL_law0_r12 ++ (wsL_law0_r13 ++ (wsL_law0_r14 ++ (wsL_law0_r15 ++ (wsL_law0_r16 ++ (wsL_law0_r17 ++ (wsL_law0_r18 ++ (wsL_law0_r19 ++ (wsL_law0_r20 ++ (wsL_law0_r21 ++ (wsL_law0_r22 ++ (wsL_law0_r23 ++ (wsL_law0_r24 ++ wsL_law0_r25)))))))))))))))))))))))) ++ wsX30 ++ wsX40 ++ wsX10 ++ wsX20 ++ wsX00 ++ ([] : List Cond)
def wsL_law : List Cond := wsL_law0 ++ (vx_atS RX3 57 "java/lang/IllegalArgumentException" ["java/lang/RuntimeException", "java/lang/Exception"]).filter goodWord ++ (vx_atS RX3 67 "java/lang/UnsupportedOperationException" ["java/lang/RuntimeException", "java/lang/Exception"]).filter goodWord ++ (xn_atS RX3 102).filter goodWord ++ (vx_atS RX3 134 "java/lang/IndexOutOfBoundsException" ["java/lang/RuntimeException", "java/lang/Exception"]).filter goodWord ++ (vx_atS RX3 194 "java/lang/IllegalStateException" ["java/lang/RuntimeException", "java/lang/Exception"]).filter goodWord
end
section
theorem xw_ps {big : List Cond} (ws : List Cond) (ps : List Nat) (hp : ps.filterMap (fun i => big[i]?) = ws) : ∀ w ∈ ws, w ∈ big := by
  intro w hw
  rw [← hp] at hw
  obtain ⟨i, -, hi⟩ := List.mem_filterMap.mp hw
  exact List.mem_of_getElem? hi
set_option maxRecDepth 20000 in
theorem xw_wsL_law0_r1 : ∀ w ∈ wsL_law0_r1, w ∈ lw_tbl := xw_ps _ [47, 48, 33, 632, 633, 37, 187, 49, 50, 51, 52, 53, 54, 55, 56, 34, 188, 84, 85, 35, 189, 141, 142, 36] rfl
set_option maxRecDepth 20000 in
theorem xw_wsL_law0_r2 : ∀ w ∈ wsL_law0_r2, w ∈ lw_tbl := xw_ps _ [190, 191, 192, 193, 194, 58, 59, 60, 83, 61, 63, 65, 67, 69, 87, 88, 89, 90, 92, 94, 96, 97, 98, 99] rfl
set_option maxRecDepth 20000 in
theorem xw_wsL_law0_r3 : ∀ w ∈ wsL_law0_r3, w ∈ lw_tbl := xw_ps _ [100, 101, 103, 104, 105, 106, 109, 144, 145, 146, 147, 149, 151, 152, 154, 156, 158, 160, 162, 164, 634, 635, 636, 637] rfl
set_option maxRecDepth 20000 in
theorem xw_wsL_law0_r4 : ∀ w ∈ wsL_law0_r4, w ∈ lw_tbl := xw_ps _ [640, 641, 642, 643, 646, 647, 648, 649, 653, 654, 655, 656, 657, 658, 659, 660, 661, 662, 663, 750, 664, 665, 666, 668] rfl
set_option maxRecDepth 20000 in
theorem xw_wsL_law0_r5 : ∀ w ∈ wsL_law0_r5, w ∈ lw_tbl := xw_ps _ [669, 670, 671, 672, 673, 674, 214, 215, 32, 216, 217, 218, 219, 220, 221, 222, 230, 41, 300, 42, 229, 71, 223, 224] rfl
set_option maxRecDepth 20000 in
theorem xw_wsL_law0_r6 : ∀ w ∈ wsL_law0_r6, w ∈ lw_tbl := xw_ps _ [225, 226, 227, 228, 316, 317, 318, 319, 755, 756, 757, 758, 765, 639, 638, 651, 759, 760, 761, 762, 763, 764, 751, 752] rfl
set_option maxRecDepth 20000 in
theorem xw_wsL_law0_r7 : ∀ w ∈ wsL_law0_r7, w ∈ lw_tbl := xw_ps _ [753, 754, 320, 321, 322, 323, 324, 325, 326, 766, 767, 768, 769, 328, 329, 330, 331, 332, 333, 334, 770, 771, 772, 773] rfl
set_option maxRecDepth 20000 in
theorem xw_wsL_law0_r8 : ∀ w ∈ wsL_law0_r8, w ∈ lw_tbl := xw_ps _ [644, 645, 336, 337, 338, 339, 340, 341, 342, 153, 155, 774, 775, 776, 777, 344, 345, 346, 347, 348, 349, 350, 351, 157] rfl
set_option maxRecDepth 20000 in
theorem xw_wsL_law0_r9 : ∀ w ∈ wsL_law0_r9, w ∈ lw_tbl := xw_ps _ [159, 161, 778, 779, 780, 781, 782, 650, 210, 211, 212, 213, 783, 784, 785, 786, 353, 354, 355, 356, 357, 358, 359, 360] rfl
set_option maxRecDepth 20000 in
theorem xw_wsL_law0_r10 : ∀ w ∈ wsL_law0_r10, w ∈ lw_tbl := xw_ps _ [362, 43, 111, 378, 379, 380, 381, 70, 62, 64, 383, 384, 386, 387, 388, 389, 390, 391, 392, 394, 1, 395, 396, 397] rfl
set_option maxRecDepth 20000 in
theorem xw_wsL_law0_r11 : ∀ w ∈ wsL_law0_r11, w ∈ lw_tbl := xw_ps _ [399, 2, 400, 404, 405, 44, 406, 401, 402, 403, 407, 409, 3, 410, 415, 416, 417, 411, 413, 4, 414, 418, 419, 420] rfl
set_option maxRecDepth 20000 in
theorem xw_wsL_law0_r12 : ∀ w ∈ wsL_law0_r12, w ∈ lw_tbl := xw_ps _ [421, 422, 423, 424, 425, 427, 5, 428, 429, 430, 431, 432, 433, 434, 435, 436, 437, 438, 443, 444, 445, 439, 441, 6] rfl
set_option maxRecDepth 20000 in
theorem xw_wsL_law0_r13 : ∀ w ∈ wsL_law0_r13, w ∈ lw_tbl := xw_ps _ [442, 787, 788, 789, 790, 652, 791, 793, 16, 794, 795, 797, 17, 798, 799, 801, 18, 802, 667, 803, 805, 19, 806, 807] rfl
set_option maxRecDepth 20000 in
theorem xw_wsL_law0_r14 : ∀ w ∈ wsL_law0_r14, w ∈ lw_tbl := xw_ps _ [809, 20, 810, 811, 813, 21, 814, 815, 817, 22, 818, 819, 821, 23, 822, 823, 824, 825, 826, 827, 828, 829, 830, 831] rfl
set_option maxRecDepth 20000 in
theorem xw_wsL_law0_r15 : ∀ w ∈ wsL_law0_r15, w ∈ lw_tbl := xw_ps _ [832, 834, 24, 835, 836, 838, 25, 839, 840, 841, 842, 446, 447, 448, 449, 450, 451, 452, 453, 454, 475, 46, 455, 457] rfl
set_option maxRecDepth 20000 in
theorem xw_wsL_law0_r16 : ∀ w ∈ wsL_law0_r16, w ∈ lw_tbl := xw_ps _ [7, 458, 459, 45, 491, 492, 493, 494, 843, 844, 845, 846, 847, 849, 26, 850, 495, 496, 497, 498, 499, 500, 501, 502] rfl
set_option maxRecDepth 20000 in
theorem xw_wsL_law0_r17 : ∀ w ∈ wsL_law0_r17, w ∈ lw_tbl := xw_ps _ [503, 504, 505, 851, 852, 853, 854, 506, 507, 508, 509, 510, 511, 512, 513, 515, 8, 516, 108, 518, 519, 520, 521, 855] rfl
set_option maxRecDepth 20000 in
theorem xw_wsL_law0_r18 : ∀ w ∈ wsL_law0_r18, w ∈ lw_tbl := xw_ps _ [856, 857, 858, 522, 523, 524, 525, 526, 527, 528, 530, 531, 532, 533, 859, 860, 861, 862, 534, 535, 536, 537, 538, 539] rfl
set_option maxRecDepth 20000 in
theorem xw_wsL_law0_r19 : ∀ w ∈ wsL_law0_r19, w ∈ lw_tbl := xw_ps _ [540, 863, 864, 865, 866, 867, 869, 27, 870, 541, 542, 543, 544, 545, 546, 547, 150, 148, 549, 550, 551, 552, 107, 110] rfl
set_option maxRecDepth 20000 in
theorem xw_wsL_law0_r20 : ∀ w ∈ wsL_law0_r20, w ∈ lw_tbl := xw_ps _ [553, 555, 9, 556, 557, 66, 558, 68, 559, 560, 562, 10, 563, 91, 93, 577, 578, 579, 564, 566, 11, 567, 102, 568] rfl
set_option maxRecDepth 20000 in
theorem xw_wsL_law0_r21 : ∀ w ∈ wsL_law0_r21, w ∈ lw_tbl := xw_ps _ [570, 12, 571, 572, 574, 13, 575, 576, 580, 582, 14, 583, 871, 872, 873, 874, 875, 877, 28, 878, 879, 584, 585, 586] rfl
set_option maxRecDepth 20000 in
theorem xw_wsL_law0_r22 : ∀ w ∈ wsL_law0_r22, w ∈ lw_tbl := xw_ps _ [587, 588, 589, 590, 591, 592, 593, 594, 95, 880, 881, 882, 883, 884, 886, 29, 887, 888, 595, 596, 597, 598, 599, 600] rfl
set_option maxRecDepth 20000 in
theorem xw_wsL_law0_r23 : ∀ w ∈ wsL_law0_r23, w ∈ lw_tbl := xw_ps _ [601, 602, 603, 604, 605, 889, 890, 891, 892, 893, 895, 30, 896, 897, 606, 607, 608, 609, 610, 611, 612, 163, 613, 614] rfl
set_option maxRecDepth 20000 in
theorem xw_wsL_law0_r24 : ∀ w ∈ wsL_law0_r24, w ∈ lw_tbl := xw_ps _ [615, 616, 617, 618, 619, 620, 621, 623, 15, 624, 898, 899, 900, 901, 902, 904, 31, 905, 625, 626, 627, 628, 629, 630] rfl
set_option maxRecDepth 20000 in
theorem xw_wsL_law0_r25 : ∀ w ∈ wsL_law0_r25, w ∈ lw_tbl := xw_ps _ [631, 165, 906, 907, 908, 909] rfl
theorem xi0 : ∀ w ∈ wsX00, w ∈ lw_tbl := by decide +kernel
theorem xi1 : ∀ w ∈ wsX10, w ∈ lw_tbl := by decide +kernel
theorem xi2 : ∀ w ∈ wsX20, w ∈ lw_tbl := by decide +kernel
theorem xi3 : ∀ w ∈ wsX30, w ∈ lw_tbl := by decide +kernel
theorem xi4 : ∀ w ∈ wsX40, w ∈ lw_tbl := by decide +kernel
theorem wsL_law_in0 : ∀ w ∈ wsL_law0, w ∈ lw_tbl := fun w h => (List.mem_append.mp h).elim (fun h => (List.mem_append.mp h).elim (fun h => (List.mem_append.mp h).elim (fun h => (List.mem_append.mp h).elim (fun h => (List.mem_append.mp h).elim (fun h => (List.mem_append.mp h).elim (fun h => (List.mem_append.mp h).elim (fun h => xw_wsL_law0_r1 w h) (fun h => (List.mem_append.mp h).elim (fun h => xw_wsL_law0_r2 w h) (fun h => (List.mem_append.mp h).elim (fun h => xw_wsL_law0_r3 w h) (fun h => (List.mem_append.mp h).elim (fun h => xw_wsL_law0_r4 w h) (fun h => (List.mem_append.mp h).elim (fun h => xw_wsL_law0_r5 w h) (fun h => (List.mem_append.mp h).elim (fun h => xw_wsL_law0_r6 w h) (fun h => (List.mem_append.mp h).elim (fun h => xw_wsL_law0_r7 w h) (fun h => (List.mem_append.mp h).elim (fun h => xw_wsL_law0_r8 w h) (fun h => (List.mem_append.mp h).elim (fun h => xw_wsL_law0_r9 w h) (fun h => (List.mem_append.mp h).elim (fun h => xw_wsL_law0_r10 w h) (fun h => (List.mem_append.mp h).elim (fun h => xw_wsL_law0_r11 w h) (fun h => (List.mem_append.mp h).elim (fun h => xw_wsL_law0_r12 w h) (fun h => (List.mem_append.mp h).elim (fun h => xw_wsL_law0_r13 w h) (fun h => (List.mem_append.mp h).elim (fun h => xw_wsL_law0_r14 w h) (fun h => (List.mem_append.mp h).elim (fun h => xw_wsL_law0_r15 w h) (fun h => (List.mem_append.mp h).elim (fun h => xw_wsL_law0_r16 w h) (fun h => (List.mem_append.mp h).elim (fun h => xw_wsL_law0_r17 w h) (fun h => (List.mem_append.mp h).elim (fun h => xw_wsL_law0_r18 w h) (fun h => (List.mem_append.mp h).elim (fun h => xw_wsL_law0_r19 w h) (fun h => (List.mem_append.mp h).elim (fun h => xw_wsL_law0_r20 w h) (fun h => (List.mem_append.mp h).elim (fun h => xw_wsL_law0_r21 w h) (fun h => (List.mem_append.mp h).elim (fun h => xw_wsL_law0_r22 w h) (fun h => (List.mem_append.mp h).elim (fun h => xw_wsL_law0_r23 w h) (fun h => (List.mem_append.mp h).elim (fun h => xw_wsL_law0_r24 w h) (fun h => xw_wsL_law0_r25 w h))))))))))))))))))))))))) (fun h => xi3 w h)) (fun h => xi4 w h)) (fun h => xi1 w h)) (fun h => xi2 w h)) (fun h => xi0 w h)) (fun h => absurd h List.not_mem_nil)
theorem wsL_law_x0 : ∀ w ∈ (vx_atS RX3 57 "java/lang/IllegalArgumentException" ["java/lang/RuntimeException", "java/lang/Exception"]).filter goodWord, w ∈ lw_tbl := by decide +kernel
theorem wsL_law_x1 : ∀ w ∈ (vx_atS RX3 67 "java/lang/UnsupportedOperationException" ["java/lang/RuntimeException", "java/lang/Exception"]).filter goodWord, w ∈ lw_tbl := by decide +kernel
theorem wsL_law_x2 : ∀ w ∈ (xn_atS RX3 102).filter goodWord, w ∈ lw_tbl := by decide +kernel
theorem wsL_law_x3 : ∀ w ∈ (vx_atS RX3 134 "java/lang/IndexOutOfBoundsException" ["java/lang/RuntimeException", "java/lang/Exception"]).filter goodWord, w ∈ lw_tbl := by decide +kernel
theorem wsL_law_x4 : ∀ w ∈ (vx_atS RX3 194 "java/lang/IllegalStateException" ["java/lang/RuntimeException", "java/lang/Exception"]).filter goodWord, w ∈ lw_tbl := by decide +kernel
theorem wsL_law_in : ∀ w ∈ wsL_law, w ∈ lw_tbl := fun w h => (List.mem_append.mp h).elim (fun h => (List.mem_append.mp h).elim (fun h => (List.mem_append.mp h).elim (fun h => (List.mem_append.mp h).elim (fun h => (List.mem_append.mp h).elim (fun h => wsL_law_in0 w h) (fun h => wsL_law_x0 w h)) (fun h => wsL_law_x1 w h)) (fun h => wsL_law_x2 w h)) (fun h => wsL_law_x3 w h)) (fun h => wsL_law_x4 w h)
theorem inlX0 : ∀ w ∈ wsX00, w ∈ wsL_law := fun _ h => List.mem_append_left _ (List.mem_append_left _ (List.mem_append_left _ (List.mem_append_left _ (List.mem_append_left _ (List.mem_append_left _ (List.mem_append_right _ h))))))
theorem inX0 : ∀ w ∈ wsX00, w ∈ lw_tbl := fun w h => wsL_law_in w (inlX0 w h)
theorem inlX1 : ∀ w ∈ wsX10, w ∈ wsL_law := fun _ h => List.mem_append_left _ (List.mem_append_left _ (List.mem_append_left _ (List.mem_append_left _ (List.mem_append_left _ (List.mem_append_left _ (List.mem_append_left _ (List.mem_append_left _ (List.mem_append_right _ h))))))))
theorem inX1 : ∀ w ∈ wsX10, w ∈ lw_tbl := fun w h => wsL_law_in w (inlX1 w h)
theorem inlX2 : ∀ w ∈ wsX20, w ∈ wsL_law := fun _ h => List.mem_append_left _ (List.mem_append_left _ (List.mem_append_left _ (List.mem_append_left _ (List.mem_append_left _ (List.mem_append_left _ (List.mem_append_left _ (List.mem_append_right _ h)))))))
theorem inX2 : ∀ w ∈ wsX20, w ∈ lw_tbl := fun w h => wsL_law_in w (inlX2 w h)
theorem inlX3 : ∀ w ∈ wsX30, w ∈ wsL_law := fun _ h => List.mem_append_left _ (List.mem_append_left _ (List.mem_append_left _ (List.mem_append_left _ (List.mem_append_left _ (List.mem_append_left _ (List.mem_append_left _ (List.mem_append_left _ (List.mem_append_left _ (List.mem_append_left _ (List.mem_append_right _ h))))))))))
theorem inX3 : ∀ w ∈ wsX30, w ∈ lw_tbl := fun w h => wsL_law_in w (inlX3 w h)
theorem inlX4 : ∀ w ∈ wsX40, w ∈ wsL_law := fun _ h => List.mem_append_left _ (List.mem_append_left _ (List.mem_append_left _ (List.mem_append_left _ (List.mem_append_left _ (List.mem_append_left _ (List.mem_append_left _ (List.mem_append_left _ (List.mem_append_left _ (List.mem_append_right _ h)))))))))
theorem inX4 : ∀ w ∈ wsX40, w ∈ lw_tbl := fun w h => wsL_law_in w (inlX4 w h)
theorem inJx145de : ∀ w ∈ wsJx145de0, w ∈ lw_tbl := by decide +kernel
theorem inJ9 : ∀ w ∈ wsJ90, w ∈ lw_tbl := by decide +kernel
theorem inJ0 : ∀ w ∈ wsJ00, w ∈ lw_tbl := by decide +kernel
theorem dX0_init_0 : decode cX0_init 0 = .ok (.aload_n 0, 1) := by decide +kernel
theorem dX0_init_1 : decode cX0_init 1 = .ok (.invokespecial 3, 3) := by decide +kernel
theorem dX0_init_4 : decode cX0_init 4 = .ok (.aload_n 0, 1) := by decide +kernel
theorem dX0_init_5 : decode cX0_init 5 = .ok (.bipush 19, 2) := by decide +kernel
theorem dX0_init_7 : decode cX0_init 7 = .ok (.newarray .long, 2) := by decide +kernel
theorem dX0_init_9 : decode cX0_init 9 = .ok (.putfield 9, 3) := by decide +kernel
theorem dX0_init_12 : decode cX0_init 12 = .ok (.aload_n 0, 1) := by decide +kernel
theorem dX0_init_13 : decode cX0_init 13 = .ok (.bipush 19, 2) := by decide +kernel
theorem dX0_init_15 : decode cX0_init 15 = .ok (.newarray .long, 2) := by decide +kernel
theorem dX0_init_17 : decode cX0_init 17 = .ok (.putfield 15, 3) := by decide +kernel
theorem dX0_init_20 : decode cX0_init 20 = .ok (.aload_n 0, 1) := by decide +kernel
theorem dX0_init_21 : decode cX0_init 21 = .ok (.bipush 19, 2) := by decide +kernel
theorem dX0_init_23 : decode cX0_init 23 = .ok (.newarray .long, 2) := by decide +kernel
theorem dX0_init_25 : decode cX0_init 25 = .ok (.putfield 18, 3) := by decide +kernel
theorem dX0_init_28 : decode cX0_init 28 = .ok (.aload_n 0, 1) := by decide +kernel
theorem dX0_init_29 : decode cX0_init 29 = .ok (.iconst 1, 1) := by decide +kernel
theorem dX0_init_30 : decode cX0_init 30 = .ok (.putfield 21, 3) := by decide +kernel
theorem dX0_init_33 : decode cX0_init 33 = .ok (.aload_n 0, 1) := by decide +kernel
theorem dX0_init_34 : decode cX0_init 34 = .ok (.iconst 1, 1) := by decide +kernel
theorem dX0_init_35 : decode cX0_init 35 = .ok (.putfield 25, 3) := by decide +kernel
theorem dX0_init_38 : decode cX0_init 38 = .ok (.aload_n 0, 1) := by decide +kernel
theorem dX0_init_39 : decode cX0_init 39 = .ok (.iconst 1, 1) := by decide +kernel
theorem dX0_init_40 : decode cX0_init 40 = .ok (.putfield 28, 3) := by decide +kernel
theorem dX0_init_43 : decode cX0_init 43 = .ok (.aload_n 0, 1) := by decide +kernel
theorem dX0_init_44 : decode cX0_init 44 = .ok (.iconst 1, 1) := by decide +kernel
theorem dX0_init_45 : decode cX0_init 45 = .ok (.putfield 31, 3) := by decide +kernel
theorem dX0_init_48 : decode cX0_init 48 = .ok (.aload_n 0, 1) := by decide +kernel
theorem dX0_init_49 : decode cX0_init 49 = .ok (.iconst 0, 1) := by decide +kernel
theorem dX0_init_50 : decode cX0_init 50 = .ok (.putfield 34, 3) := by decide +kernel
theorem dX0_init_53 : decode cX0_init 53 = .ok (.aload_n 0, 1) := by decide +kernel
theorem dX0_init_54 : decode cX0_init 54 = .ok (.lconst 0, 1) := by decide +kernel
theorem dX0_init_55 : decode cX0_init 55 = .ok (.putfield 37, 3) := by decide +kernel
theorem dX0_init_58 : decode cX0_init 58 = .ok (.aload_n 0, 1) := by decide +kernel
theorem dX0_init_59 : decode cX0_init 59 = .ok (.iconst (-1), 1) := by decide +kernel
theorem dX0_init_60 : decode cX0_init 60 = .ok (.putfield 41, 3) := by decide +kernel
theorem dX0_init_63 : decode cX0_init 63 = .ok (.return_, 1) := by decide +kernel
end
section
set_option maxRecDepth 20000 in
theorem ggX0_weigh_X0_weighSinks : GoodIn wsX0_weigh wsX0_weighSinks := goodIn_r _ [7, 1, 8, 9, 10, 11, 12, 13, 14, 54, 55, 56, 57, 58, 59, 60, 61, 62, 63, 64, 65, 66, 67, 68, 69, 70, 71, 72, 73, 74, 75, 76, 77, 78, 79, 80, 81, 82] (by decide +kernel) (by decide +kernel)
set_option maxRecDepth 20000 in
theorem gX0_weigh_X0_weighSinks : GoodIn wsX0_weigh (wsV RX0 44 RX0 yX0_weighSinks wsX0_weighSinks) := goodIn_app (goodIn_of _ (by decide +kernel)) ggX0_weigh_X0_weighSinks
set_option maxRecDepth 20000 in
theorem ggX0_weigh_X2_bitOf : GoodIn wsX0_weigh wsX2_bitOf := goodIn_r _ [19, 20, 54, 55, 56, 57, 58, 59, 60, 61, 62, 63, 64, 65, 66, 67] (by decide +kernel) (by decide +kernel)
set_option maxRecDepth 20000 in
theorem gX0_weigh_X2_bitOf : GoodIn wsX0_weigh (wsV RX0 56 RX2 yX2_bitOf wsX2_bitOf) := goodIn_app (goodIn_of _ (by decide +kernel)) ggX0_weigh_X2_bitOf
set_option maxRecDepth 20000 in
theorem ggX0_weigh_X0_weighJoin : GoodIn wsX0_weigh wsX0_weighJoin := goodIn_r _ [24, 25, 26, 8, 11, 12, 27, 28, 29, 30, 9, 31, 32, 33, 34, 6, 35, 36, 37, 38, 39, 40, 41, 42, 43, 44, 45, 46, 47, 48, 49, 50, 51, 52, 53, 54, 55, 56, 57, 58, 59, 60, 61, 62, 63, 64, 65, 66, 67, 68, 69, 70, 71, 72, 73, 74, 75, 76, 77] (by decide +kernel) (by decide +kernel)
set_option maxRecDepth 20000 in
theorem gX0_weigh_X0_weighJoin : GoodIn wsX0_weigh (wsV RX0 60 RX0 yX0_weighJoin wsX0_weighJoin) := goodIn_app (goodIn_of _ (by decide +kernel)) ggX0_weigh_X0_weighJoin
theorem dX0_weigh_0 : decode cX0_weigh 0 = .ok (.aload_n 0, 1) := by decide +kernel
theorem dX0_weigh_1 : decode cX0_weigh 1 = .ok (.aload_n 1, 1) := by decide +kernel
theorem dX0_weigh_2 : decode cX0_weigh 2 = .ok (.aload_n 2, 1) := by decide +kernel
theorem dX0_weigh_3 : decode cX0_weigh 3 = .ok (.invokevirtual 44, 3) := by decide +kernel
theorem dX0_weigh_6 : decode cX0_weigh 6 = .ok (.aload_n 1, 1) := by decide +kernel
theorem dX0_weigh_7 : decode cX0_weigh 7 = .ok (.getfield 48, 3) := by decide +kernel
theorem dX0_weigh_10 : decode cX0_weigh 10 = .ok (.istore 4, 2) := by decide +kernel
theorem dX0_weigh_12 : decode cX0_weigh 12 = .ok (.iload 4, 2) := by decide +kernel
theorem dX0_weigh_14 : decode cX0_weigh 14 = .ok (.aload_n 1, 1) := by decide +kernel
theorem dX0_weigh_15 : decode cX0_weigh 15 = .ok (.getfield 53, 3) := by decide +kernel
theorem dX0_weigh_18 : decode cX0_weigh 18 = .ok (.if_icmp .ge 32, 3) := by decide +kernel
theorem dX0_weigh_21 : decode cX0_weigh 21 = .ok (.aload_n 0, 1) := by decide +kernel
theorem dX0_weigh_22 : decode cX0_weigh 22 = .ok (.aload_n 1, 1) := by decide +kernel
theorem dX0_weigh_23 : decode cX0_weigh 23 = .ok (.iload 4, 2) := by decide +kernel
theorem dX0_weigh_25 : decode cX0_weigh 25 = .ok (.iload_n 3, 1) := by decide +kernel
theorem dX0_weigh_26 : decode cX0_weigh 26 = .ok (.aload_n 1, 1) := by decide +kernel
theorem dX0_weigh_27 : decode cX0_weigh 27 = .ok (.iload 4, 2) := by decide +kernel
theorem dX0_weigh_29 : decode cX0_weigh 29 = .ok (.invokevirtual 56, 3) := by decide +kernel
theorem dX0_weigh_32 : decode cX0_weigh 32 = .ok (.iand, 1) := by decide +kernel
theorem dX0_weigh_33 : decode cX0_weigh 33 = .ok (.ifCond .eq 7, 3) := by decide +kernel
theorem dX0_weigh_36 : decode cX0_weigh 36 = .ok (.iconst 1, 1) := by decide +kernel
theorem dX0_weigh_37 : decode cX0_weigh 37 = .ok (.goto 4, 3) := by decide +kernel
theorem dX0_weigh_40 : decode cX0_weigh 40 = .ok (.iconst 0, 1) := by decide +kernel
theorem dX0_weigh_41 : decode cX0_weigh 41 = .ok (.invokevirtual 60, 3) := by decide +kernel
theorem dX0_weigh_44 : decode cX0_weigh 44 = .ok (.iinc 4 1, 3) := by decide +kernel
theorem dX0_weigh_47 : decode cX0_weigh 47 = .ok (.goto (-35), 3) := by decide +kernel
theorem dX0_weigh_50 : decode cX0_weigh 50 = .ok (.return_, 1) := by decide +kernel
theorem dX0_weighSinks_0 : decode cX0_weighSinks 0 = .ok (.iconst 0, 1) := by decide +kernel
theorem dX0_weighSinks_1 : decode cX0_weighSinks 1 = .ok (.istore_n 3, 1) := by decide +kernel
theorem dX0_weighSinks_2 : decode cX0_weighSinks 2 = .ok (.iload_n 3, 1) := by decide +kernel
theorem dX0_weighSinks_3 : decode cX0_weighSinks 3 = .ok (.aload_n 1, 1) := by decide +kernel
theorem dX0_weighSinks_4 : decode cX0_weighSinks 4 = .ok (.getfield 48, 3) := by decide +kernel
theorem dX0_weighSinks_7 : decode cX0_weighSinks 7 = .ok (.if_icmp .ge 55, 3) := by decide +kernel
theorem dX0_weighSinks_10 : decode cX0_weighSinks 10 = .ok (.aload_n 0, 1) := by decide +kernel
theorem dX0_weighSinks_11 : decode cX0_weighSinks 11 = .ok (.getfield 9, 3) := by decide +kernel
theorem dX0_weighSinks_14 : decode cX0_weighSinks 14 = .ok (.iload_n 3, 1) := by decide +kernel
theorem dX0_weighSinks_15 : decode cX0_weighSinks 15 = .ok (.ldc2_w 64, 3) := by decide +kernel
theorem dX0_weighSinks_18 : decode cX0_weighSinks 18 = .ok (.aload_n 2, 1) := by decide +kernel
theorem dX0_weighSinks_19 : decode cX0_weighSinks 19 = .ok (.getfield 66, 3) := by decide +kernel
theorem dX0_weighSinks_22 : decode cX0_weighSinks 22 = .ok (.iload_n 3, 1) := by decide +kernel
theorem dX0_weighSinks_23 : decode cX0_weighSinks 23 = .ok (.iaload, 1) := by decide +kernel
theorem dX0_weighSinks_24 : decode cX0_weighSinks 24 = .ok (.i2l, 1) := by decide +kernel
theorem dX0_weighSinks_25 : decode cX0_weighSinks 25 = .ok (.lmul, 1) := by decide +kernel
theorem dX0_weighSinks_26 : decode cX0_weighSinks 26 = .ok (.lastore, 1) := by decide +kernel
theorem dX0_weighSinks_27 : decode cX0_weighSinks 27 = .ok (.aload_n 0, 1) := by decide +kernel
theorem dX0_weighSinks_28 : decode cX0_weighSinks 28 = .ok (.getfield 15, 3) := by decide +kernel
theorem dX0_weighSinks_31 : decode cX0_weighSinks 31 = .ok (.iload_n 3, 1) := by decide +kernel
theorem dX0_weighSinks_32 : decode cX0_weighSinks 32 = .ok (.aload_n 0, 1) := by decide +kernel
theorem dX0_weighSinks_33 : decode cX0_weighSinks 33 = .ok (.getfield 9, 3) := by decide +kernel
theorem dX0_weighSinks_36 : decode cX0_weighSinks 36 = .ok (.iload_n 3, 1) := by decide +kernel
theorem dX0_weighSinks_37 : decode cX0_weighSinks 37 = .ok (.laload, 1) := by decide +kernel
theorem dX0_weighSinks_38 : decode cX0_weighSinks 38 = .ok (.lastore, 1) := by decide +kernel
theorem dX0_weighSinks_39 : decode cX0_weighSinks 39 = .ok (.aload_n 0, 1) := by decide +kernel
theorem dX0_weighSinks_40 : decode cX0_weighSinks 40 = .ok (.getfield 18, 3) := by decide +kernel
theorem dX0_weighSinks_43 : decode cX0_weighSinks 43 = .ok (.iload_n 3, 1) := by decide +kernel
theorem dX0_weighSinks_44 : decode cX0_weighSinks 44 = .ok (.ldc2_w 72, 3) := by decide +kernel
theorem dX0_weighSinks_47 : decode cX0_weighSinks 47 = .ok (.aload_n 2, 1) := by decide +kernel
theorem dX0_weighSinks_48 : decode cX0_weighSinks 48 = .ok (.getfield 74, 3) := by decide +kernel
theorem dX0_weighSinks_51 : decode cX0_weighSinks 51 = .ok (.iload_n 3, 1) := by decide +kernel
theorem dX0_weighSinks_52 : decode cX0_weighSinks 52 = .ok (.iaload, 1) := by decide +kernel
theorem dX0_weighSinks_53 : decode cX0_weighSinks 53 = .ok (.i2l, 1) := by decide +kernel
theorem dX0_weighSinks_54 : decode cX0_weighSinks 54 = .ok (.lmul, 1) := by decide +kernel
theorem dX0_weighSinks_55 : decode cX0_weighSinks 55 = .ok (.lastore, 1) := by decide +kernel
theorem dX0_weighSinks_56 : decode cX0_weighSinks 56 = .ok (.iinc 3 1, 3) := by decide +kernel
theorem dX0_weighSinks_59 : decode cX0_weighSinks 59 = .ok (.goto (-57), 3) := by decide +kernel
theorem dX0_weighSinks_62 : decode cX0_weighSinks 62 = .ok (.return_, 1) := by decide +kernel
set_option maxRecDepth 20000 in
theorem ggX0_weighJoin_X0_wireCapacity : GoodIn wsX0_weighJoin wsX0_wireCapacity := goodIn_r _ [16, 17, 18, 49, 50, 51, 52, 53, 54, 55, 56, 57, 58, 35, 36, 37, 38, 39, 40, 41, 42, 43, 44, 45, 46, 47, 48] (by decide +kernel) (by decide +kernel)
set_option maxRecDepth 20000 in
theorem gX0_weighJoin_X0_wireCapacity : GoodIn wsX0_weighJoin (wsV RX0 83 RX0 yX0_wireCapacity wsX0_wireCapacity) := goodIn_app (goodIn_of _ (by decide +kernel)) ggX0_weighJoin_X0_wireCapacity
set_option maxRecDepth 20000 in
theorem ggX0_weighJoin_X0_slackAbove : GoodIn wsX0_weighJoin wsX0_slackAbove := goodIn_r _ [22, 5, 23, 24, 25, 15, 26, 27, 18, 28, 4, 12, 13, 14, 16, 17, 49, 50, 51, 52, 53, 54, 55, 56, 57, 58, 35, 36, 37, 38, 39, 40, 41, 42, 43, 44, 45, 46, 47, 48] (by decide +kernel) (by decide +kernel)
set_option maxRecDepth 20000 in
theorem gX0_weighJoin_X0_slackAbove : GoodIn wsX0_weighJoin (wsV RX0 87 RX0 yX0_slackAbove wsX0_slackAbove) := goodIn_app (goodIn_of _ (by decide +kernel)) ggX0_weighJoin_X0_slackAbove
set_option maxRecDepth 20000 in
theorem ggX0_weighJoin_X0_bufferDelay : GoodIn wsX0_weighJoin wsX0_bufferDelay := goodIn_r _ [32, 33, 28, 34, 3, 49, 50, 51, 52, 53, 54, 55, 56, 57, 58] (by decide +kernel) (by decide +kernel)
set_option maxRecDepth 20000 in
theorem gX0_weighJoin_X0_bufferDelay : GoodIn wsX0_weighJoin (wsV RX0 96 RX0 yX0_bufferDelay wsX0_bufferDelay) := goodIn_app (goodIn_of _ (by decide +kernel)) ggX0_weighJoin_X0_bufferDelay
theorem dX0_weighJoin_0 : decode cX0_weighJoin 0 = .ok (.aload_n 1, 1) := by decide +kernel
theorem dX0_weighJoin_1 : decode cX0_weighJoin 1 = .ok (.getfield 77, 3) := by decide +kernel
theorem dX0_weighJoin_4 : decode cX0_weighJoin 4 = .ok (.iload_n 2, 1) := by decide +kernel
theorem dX0_weighJoin_5 : decode cX0_weighJoin 5 = .ok (.iaload, 1) := by decide +kernel
theorem dX0_weighJoin_6 : decode cX0_weighJoin 6 = .ok (.istore 4, 2) := by decide +kernel
theorem dX0_weighJoin_8 : decode cX0_weighJoin 8 = .ok (.aload_n 1, 1) := by decide +kernel
theorem dX0_weighJoin_9 : decode cX0_weighJoin 9 = .ok (.getfield 80, 3) := by decide +kernel
theorem dX0_weighJoin_12 : decode cX0_weighJoin 12 = .ok (.iload_n 2, 1) := by decide +kernel
theorem dX0_weighJoin_13 : decode cX0_weighJoin 13 = .ok (.iaload, 1) := by decide +kernel
theorem dX0_weighJoin_14 : decode cX0_weighJoin 14 = .ok (.istore 5, 2) := by decide +kernel
theorem dX0_weighJoin_16 : decode cX0_weighJoin 16 = .ok (.aload_n 0, 1) := by decide +kernel
theorem dX0_weighJoin_17 : decode cX0_weighJoin 17 = .ok (.getfield 9, 3) := by decide +kernel
theorem dX0_weighJoin_20 : decode cX0_weighJoin 20 = .ok (.iload_n 2, 1) := by decide +kernel
theorem dX0_weighJoin_21 : decode cX0_weighJoin 21 = .ok (.aload_n 0, 1) := by decide +kernel
theorem dX0_weighJoin_22 : decode cX0_weighJoin 22 = .ok (.getfield 15, 3) := by decide +kernel
theorem dX0_weighJoin_25 : decode cX0_weighJoin 25 = .ok (.iload 4, 2) := by decide +kernel
theorem dX0_weighJoin_27 : decode cX0_weighJoin 27 = .ok (.laload, 1) := by decide +kernel
theorem dX0_weighJoin_28 : decode cX0_weighJoin 28 = .ok (.aload_n 0, 1) := by decide +kernel
theorem dX0_weighJoin_29 : decode cX0_weighJoin 29 = .ok (.aload_n 1, 1) := by decide +kernel
theorem dX0_weighJoin_30 : decode cX0_weighJoin 30 = .ok (.iload 4, 2) := by decide +kernel
theorem dX0_weighJoin_32 : decode cX0_weighJoin 32 = .ok (.invokevirtual 83, 3) := by decide +kernel
theorem dX0_weighJoin_35 : decode cX0_weighJoin 35 = .ok (.ladd, 1) := by decide +kernel
theorem dX0_weighJoin_36 : decode cX0_weighJoin 36 = .ok (.aload_n 0, 1) := by decide +kernel
theorem dX0_weighJoin_37 : decode cX0_weighJoin 37 = .ok (.getfield 15, 3) := by decide +kernel
theorem dX0_weighJoin_40 : decode cX0_weighJoin 40 = .ok (.iload 5, 2) := by decide +kernel
theorem dX0_weighJoin_42 : decode cX0_weighJoin 42 = .ok (.laload, 1) := by decide +kernel
theorem dX0_weighJoin_43 : decode cX0_weighJoin 43 = .ok (.ladd, 1) := by decide +kernel
theorem dX0_weighJoin_44 : decode cX0_weighJoin 44 = .ok (.aload_n 0, 1) := by decide +kernel
theorem dX0_weighJoin_45 : decode cX0_weighJoin 45 = .ok (.aload_n 1, 1) := by decide +kernel
theorem dX0_weighJoin_46 : decode cX0_weighJoin 46 = .ok (.iload 5, 2) := by decide +kernel
theorem dX0_weighJoin_48 : decode cX0_weighJoin 48 = .ok (.invokevirtual 83, 3) := by decide +kernel
theorem dX0_weighJoin_51 : decode cX0_weighJoin 51 = .ok (.ladd, 1) := by decide +kernel
theorem dX0_weighJoin_52 : decode cX0_weighJoin 52 = .ok (.lastore, 1) := by decide +kernel
theorem dX0_weighJoin_53 : decode cX0_weighJoin 53 = .ok (.aload_n 0, 1) := by decide +kernel
theorem dX0_weighJoin_54 : decode cX0_weighJoin 54 = .ok (.getfield 15, 3) := by decide +kernel
theorem dX0_weighJoin_57 : decode cX0_weighJoin 57 = .ok (.iload_n 2, 1) := by decide +kernel
theorem dX0_weighJoin_58 : decode cX0_weighJoin 58 = .ok (.aload_n 0, 1) := by decide +kernel
theorem dX0_weighJoin_59 : decode cX0_weighJoin 59 = .ok (.getfield 9, 3) := by decide +kernel
theorem dX0_weighJoin_62 : decode cX0_weighJoin 62 = .ok (.iload_n 2, 1) := by decide +kernel
theorem dX0_weighJoin_63 : decode cX0_weighJoin 63 = .ok (.laload, 1) := by decide +kernel
theorem dX0_weighJoin_64 : decode cX0_weighJoin 64 = .ok (.lastore, 1) := by decide +kernel
theorem dX0_weighJoin_65 : decode cX0_weighJoin 65 = .ok (.aload_n 0, 1) := by decide +kernel
theorem dX0_weighJoin_66 : decode cX0_weighJoin 66 = .ok (.getfield 18, 3) := by decide +kernel
theorem dX0_weighJoin_69 : decode cX0_weighJoin 69 = .ok (.iload_n 2, 1) := by decide +kernel
theorem dX0_weighJoin_70 : decode cX0_weighJoin 70 = .ok (.aload_n 0, 1) := by decide +kernel
theorem dX0_weighJoin_71 : decode cX0_weighJoin 71 = .ok (.aload_n 1, 1) := by decide +kernel
theorem dX0_weighJoin_72 : decode cX0_weighJoin 72 = .ok (.iload 4, 2) := by decide +kernel
theorem dX0_weighJoin_74 : decode cX0_weighJoin 74 = .ok (.invokevirtual 87, 3) := by decide +kernel
theorem dX0_weighJoin_77 : decode cX0_weighJoin 77 = .ok (.aload_n 0, 1) := by decide +kernel
theorem dX0_weighJoin_78 : decode cX0_weighJoin 78 = .ok (.aload_n 1, 1) := by decide +kernel
theorem dX0_weighJoin_79 : decode cX0_weighJoin 79 = .ok (.iload 5, 2) := by decide +kernel
theorem dX0_weighJoin_81 : decode cX0_weighJoin 81 = .ok (.invokevirtual 87, 3) := by decide +kernel
theorem dX0_weighJoin_84 : decode cX0_weighJoin 84 = .ok (.invokestatic 90, 3) := by decide +kernel
theorem dX0_weighJoin_87 : decode cX0_weighJoin 87 = .ok (.lastore, 1) := by decide +kernel
theorem dX0_weighJoin_88 : decode cX0_weighJoin 88 = .ok (.iload_n 3, 1) := by decide +kernel
theorem dX0_weighJoin_89 : decode cX0_weighJoin 89 = .ok (.ifCond .eq 32, 3) := by decide +kernel
theorem dX0_weighJoin_92 : decode cX0_weighJoin 92 = .ok (.aload_n 0, 1) := by decide +kernel
theorem dX0_weighJoin_93 : decode cX0_weighJoin 93 = .ok (.getfield 15, 3) := by decide +kernel
theorem dX0_weighJoin_96 : decode cX0_weighJoin 96 = .ok (.iload_n 2, 1) := by decide +kernel
theorem dX0_weighJoin_97 : decode cX0_weighJoin 97 = .ok (.ldc2_w 64, 3) := by decide +kernel
theorem dX0_weighJoin_100 : decode cX0_weighJoin 100 = .ok (.aload_n 0, 1) := by decide +kernel
theorem dX0_weighJoin_101 : decode cX0_weighJoin 101 = .ok (.getfield 28, 3) := by decide +kernel
theorem dX0_weighJoin_104 : decode cX0_weighJoin 104 = .ok (.i2l, 1) := by decide +kernel
theorem dX0_weighJoin_105 : decode cX0_weighJoin 105 = .ok (.lmul, 1) := by decide +kernel
theorem dX0_weighJoin_106 : decode cX0_weighJoin 106 = .ok (.lastore, 1) := by decide +kernel
theorem dX0_weighJoin_107 : decode cX0_weighJoin 107 = .ok (.aload_n 0, 1) := by decide +kernel
theorem dX0_weighJoin_108 : decode cX0_weighJoin 108 = .ok (.getfield 18, 3) := by decide +kernel
theorem dX0_weighJoin_111 : decode cX0_weighJoin 111 = .ok (.iload_n 2, 1) := by decide +kernel
theorem dX0_weighJoin_112 : decode cX0_weighJoin 112 = .ok (.dup2, 1) := by decide +kernel
theorem dX0_weighJoin_113 : decode cX0_weighJoin 113 = .ok (.laload, 1) := by decide +kernel
theorem dX0_weighJoin_114 : decode cX0_weighJoin 114 = .ok (.aload_n 0, 1) := by decide +kernel
theorem dX0_weighJoin_115 : decode cX0_weighJoin 115 = .ok (.iload_n 2, 1) := by decide +kernel
theorem dX0_weighJoin_116 : decode cX0_weighJoin 116 = .ok (.invokevirtual 96, 3) := by decide +kernel
theorem dX0_weighJoin_119 : decode cX0_weighJoin 119 = .ok (.lsub, 1) := by decide +kernel
theorem dX0_weighJoin_120 : decode cX0_weighJoin 120 = .ok (.lastore, 1) := by decide +kernel
theorem dX0_weighJoin_121 : decode cX0_weighJoin 121 = .ok (.return_, 1) := by decide +kernel
theorem dX0_wireCapacity_0 : decode cX0_wireCapacity 0 = .ok (.aload_n 0, 1) := by decide +kernel
theorem dX0_wireCapacity_1 : decode cX0_wireCapacity 1 = .ok (.getfield 25, 3) := by decide +kernel
theorem dX0_wireCapacity_4 : decode cX0_wireCapacity 4 = .ok (.i2l, 1) := by decide +kernel
theorem dX0_wireCapacity_5 : decode cX0_wireCapacity 5 = .ok (.aload_n 1, 1) := by decide +kernel
theorem dX0_wireCapacity_6 : decode cX0_wireCapacity 6 = .ok (.getfield 100, 3) := by decide +kernel
theorem dX0_wireCapacity_9 : decode cX0_wireCapacity 9 = .ok (.iload_n 2, 1) := by decide +kernel
theorem dX0_wireCapacity_10 : decode cX0_wireCapacity 10 = .ok (.iaload, 1) := by decide +kernel
theorem dX0_wireCapacity_11 : decode cX0_wireCapacity 11 = .ok (.i2l, 1) := by decide +kernel
theorem dX0_wireCapacity_12 : decode cX0_wireCapacity 12 = .ok (.lmul, 1) := by decide +kernel
theorem dX0_wireCapacity_13 : decode cX0_wireCapacity 13 = .ok (.lreturn, 1) := by decide +kernel
set_option maxRecDepth 20000 in
theorem ggX0_wireDelay_X0_wireCapacity : GoodIn wsX0_wireDelay wsX0_wireCapacity := goodIn_r _ [9, 10, 2, 11, 12, 13, 14, 15, 16, 17, 18, 19, 20, 21, 22, 23, 24, 25, 26, 27, 28, 29, 30, 31, 32, 33, 34] (by decide +kernel) (by decide +kernel)
set_option maxRecDepth 20000 in
theorem gX0_wireDelay_X0_wireCapacity : GoodIn wsX0_wireDelay (wsV RX0 83 RX0 yX0_wireCapacity wsX0_wireCapacity) := goodIn_app (goodIn_of _ (by decide +kernel)) ggX0_wireDelay_X0_wireCapacity
theorem dX0_wireDelay_0 : decode cX0_wireDelay 0 = .ok (.aload_n 0, 1) := by decide +kernel
theorem dX0_wireDelay_1 : decode cX0_wireDelay 1 = .ok (.getfield 21, 3) := by decide +kernel
theorem dX0_wireDelay_4 : decode cX0_wireDelay 4 = .ok (.i2l, 1) := by decide +kernel
theorem dX0_wireDelay_5 : decode cX0_wireDelay 5 = .ok (.aload_n 1, 1) := by decide +kernel
theorem dX0_wireDelay_6 : decode cX0_wireDelay 6 = .ok (.getfield 100, 3) := by decide +kernel
theorem dX0_wireDelay_9 : decode cX0_wireDelay 9 = .ok (.iload_n 2, 1) := by decide +kernel
theorem dX0_wireDelay_10 : decode cX0_wireDelay 10 = .ok (.iaload, 1) := by decide +kernel
theorem dX0_wireDelay_11 : decode cX0_wireDelay 11 = .ok (.i2l, 1) := by decide +kernel
theorem dX0_wireDelay_12 : decode cX0_wireDelay 12 = .ok (.lmul, 1) := by decide +kernel
theorem dX0_wireDelay_13 : decode cX0_wireDelay 13 = .ok (.aload_n 0, 1) := by decide +kernel
theorem dX0_wireDelay_14 : decode cX0_wireDelay 14 = .ok (.aload_n 1, 1) := by decide +kernel
theorem dX0_wireDelay_15 : decode cX0_wireDelay 15 = .ok (.iload_n 2, 1) := by decide +kernel
theorem dX0_wireDelay_16 : decode cX0_wireDelay 16 = .ok (.invokevirtual 83, 3) := by decide +kernel
theorem dX0_wireDelay_19 : decode cX0_wireDelay 19 = .ok (.ldc2_w 103, 3) := by decide +kernel
theorem dX0_wireDelay_22 : decode cX0_wireDelay 22 = .ok (.aload_n 0, 1) := by decide +kernel
theorem dX0_wireDelay_23 : decode cX0_wireDelay 23 = .ok (.getfield 15, 3) := by decide +kernel
theorem dX0_wireDelay_26 : decode cX0_wireDelay 26 = .ok (.iload_n 2, 1) := by decide +kernel
theorem dX0_wireDelay_27 : decode cX0_wireDelay 27 = .ok (.laload, 1) := by decide +kernel
theorem dX0_wireDelay_28 : decode cX0_wireDelay 28 = .ok (.lmul, 1) := by decide +kernel
theorem dX0_wireDelay_29 : decode cX0_wireDelay 29 = .ok (.ladd, 1) := by decide +kernel
theorem dX0_wireDelay_30 : decode cX0_wireDelay 30 = .ok (.lmul, 1) := by decide +kernel
theorem dX0_wireDelay_31 : decode cX0_wireDelay 31 = .ok (.lreturn, 1) := by decide +kernel
theorem dX0_bufferDelay_0 : decode cX0_bufferDelay 0 = .ok (.aload_n 0, 1) := by decide +kernel
theorem dX0_bufferDelay_1 : decode cX0_bufferDelay 1 = .ok (.getfield 34, 3) := by decide +kernel
theorem dX0_bufferDelay_4 : decode cX0_bufferDelay 4 = .ok (.i2l, 1) := by decide +kernel
theorem dX0_bufferDelay_5 : decode cX0_bufferDelay 5 = .ok (.ldc2_w 103, 3) := by decide +kernel
theorem dX0_bufferDelay_8 : decode cX0_bufferDelay 8 = .ok (.aload_n 0, 1) := by decide +kernel
theorem dX0_bufferDelay_9 : decode cX0_bufferDelay 9 = .ok (.getfield 31, 3) := by decide +kernel
theorem dX0_bufferDelay_12 : decode cX0_bufferDelay 12 = .ok (.i2l, 1) := by decide +kernel
theorem dX0_bufferDelay_13 : decode cX0_bufferDelay 13 = .ok (.lmul, 1) := by decide +kernel
theorem dX0_bufferDelay_14 : decode cX0_bufferDelay 14 = .ok (.aload_n 0, 1) := by decide +kernel
theorem dX0_bufferDelay_15 : decode cX0_bufferDelay 15 = .ok (.getfield 9, 3) := by decide +kernel
theorem dX0_bufferDelay_18 : decode cX0_bufferDelay 18 = .ok (.iload_n 1, 1) := by decide +kernel
theorem dX0_bufferDelay_19 : decode cX0_bufferDelay 19 = .ok (.laload, 1) := by decide +kernel
theorem dX0_bufferDelay_20 : decode cX0_bufferDelay 20 = .ok (.lmul, 1) := by decide +kernel
theorem dX0_bufferDelay_21 : decode cX0_bufferDelay 21 = .ok (.ladd, 1) := by decide +kernel
theorem dX0_bufferDelay_22 : decode cX0_bufferDelay 22 = .ok (.lreturn, 1) := by decide +kernel
set_option maxRecDepth 20000 in
theorem ggX0_slackAbove_X0_wireDelay : GoodIn wsX0_slackAbove wsX0_wireDelay := goodIn_r _ [6, 7, 8, 9, 10, 11, 12, 13, 5, 14, 15, 16, 17, 18, 19, 20, 21, 22, 23, 24, 25, 26, 27, 28, 29, 30, 31, 32, 33, 34, 35, 36, 37, 38, 39] (by decide +kernel) (by decide +kernel)
set_option maxRecDepth 20000 in
theorem gX0_slackAbove_X0_wireDelay : GoodIn wsX0_slackAbove (wsV RX0 105 RX0 yX0_wireDelay wsX0_wireDelay) := goodIn_app (goodIn_of _ (by decide +kernel)) ggX0_slackAbove_X0_wireDelay
theorem dX0_slackAbove_0 : decode cX0_slackAbove 0 = .ok (.aload_n 0, 1) := by decide +kernel
theorem dX0_slackAbove_1 : decode cX0_slackAbove 1 = .ok (.getfield 18, 3) := by decide +kernel
theorem dX0_slackAbove_4 : decode cX0_slackAbove 4 = .ok (.iload_n 2, 1) := by decide +kernel
theorem dX0_slackAbove_5 : decode cX0_slackAbove 5 = .ok (.laload, 1) := by decide +kernel
theorem dX0_slackAbove_6 : decode cX0_slackAbove 6 = .ok (.aload_n 0, 1) := by decide +kernel
theorem dX0_slackAbove_7 : decode cX0_slackAbove 7 = .ok (.aload_n 1, 1) := by decide +kernel
theorem dX0_slackAbove_8 : decode cX0_slackAbove 8 = .ok (.iload_n 2, 1) := by decide +kernel
theorem dX0_slackAbove_9 : decode cX0_slackAbove 9 = .ok (.invokevirtual 105, 3) := by decide +kernel
theorem dX0_slackAbove_12 : decode cX0_slackAbove 12 = .ok (.lsub, 1) := by decide +kernel
theorem dX0_slackAbove_13 : decode cX0_slackAbove 13 = .ok (.lreturn, 1) := by decide +kernel
set_option maxRecDepth 20000 in
theorem ggX0_slackAtSource_X0_slackAbove : GoodIn wsX0_slackAtSource wsX0_slackAbove := goodIn_r _ [6, 7, 8, 9, 10, 5, 11, 12, 13, 14, 15, 16, 17, 18, 19, 20, 35, 36, 37, 38, 39, 40, 41, 42, 43, 44, 21, 22, 23, 24, 25, 26, 27, 28, 29, 30, 31, 32, 33, 34] (by decide +kernel) (by decide +kernel)
set_option maxRecDepth 20000 in
theorem gX0_slackAtSource_X0_slackAbove : GoodIn wsX0_slackAtSource (wsV RX0 87 RX0 yX0_slackAbove wsX0_slackAbove) := goodIn_app (goodIn_of _ (by decide +kernel)) ggX0_slackAtSource_X0_slackAbove
theorem dX0_slackAtSource_0 : decode cX0_slackAtSource 0 = .ok (.aload_n 0, 1) := by decide +kernel
theorem dX0_slackAtSource_1 : decode cX0_slackAtSource 1 = .ok (.aload_n 1, 1) := by decide +kernel
theorem dX0_slackAtSource_2 : decode cX0_slackAtSource 2 = .ok (.aload_n 1, 1) := by decide +kernel
theorem dX0_slackAtSource_3 : decode cX0_slackAtSource 3 = .ok (.getfield 53, 3) := by decide +kernel
theorem dX0_slackAtSource_6 : decode cX0_slackAtSource 6 = .ok (.iconst 1, 1) := by decide +kernel
theorem dX0_slackAtSource_7 : decode cX0_slackAtSource 7 = .ok (.isub, 1) := by decide +kernel
theorem dX0_slackAtSource_8 : decode cX0_slackAtSource 8 = .ok (.invokevirtual 87, 3) := by decide +kernel
theorem dX0_slackAtSource_11 : decode cX0_slackAtSource 11 = .ok (.lreturn, 1) := by decide +kernel
set_option maxRecDepth 20000 in
theorem ggX0_delayTo_X0_wireDelay : GoodIn wsX0_delayTo wsX0_wireDelay := goodIn_r _ [8, 9, 10, 11, 12, 13, 14, 15, 7, 16, 17, 45, 46, 47, 48, 49, 50, 51, 52, 53, 54, 31, 32, 33, 34, 35, 36, 37, 38, 39, 40, 41, 42, 43, 44] (by decide +kernel) (by decide +kernel)
set_option maxRecDepth 20000 in
theorem gX0_delayTo_X0_wireDelay : GoodIn wsX0_delayTo (wsV RX0 105 RX0 yX0_wireDelay wsX0_wireDelay) := goodIn_app (goodIn_of _ (by decide +kernel)) ggX0_delayTo_X0_wireDelay
set_option maxRecDepth 20000 in
theorem ggX0_delayTo_X2_bitOf : GoodIn wsX0_delayTo wsX2_bitOf := goodIn_r _ [22, 23, 31, 32, 33, 34, 35, 36, 37, 38, 39, 40, 41, 42, 43, 44] (by decide +kernel) (by decide +kernel)
set_option maxRecDepth 20000 in
theorem gX0_delayTo_X2_bitOf : GoodIn wsX0_delayTo (wsV RX0 56 RX2 yX2_bitOf wsX2_bitOf) := goodIn_app (goodIn_of _ (by decide +kernel)) ggX0_delayTo_X2_bitOf
set_option maxRecDepth 20000 in
theorem ggX0_delayTo_X0_bufferDelay : GoodIn wsX0_delayTo wsX0_bufferDelay := goodIn_r _ [27, 28, 11, 29, 30, 45, 46, 47, 48, 49, 50, 51, 52, 53, 54] (by decide +kernel) (by decide +kernel)
set_option maxRecDepth 20000 in
theorem gX0_delayTo_X0_bufferDelay : GoodIn wsX0_delayTo (wsV RX0 96 RX0 yX0_bufferDelay wsX0_bufferDelay) := goodIn_app (goodIn_of _ (by decide +kernel)) ggX0_delayTo_X0_bufferDelay
theorem dX0_delayTo_0 : decode cX0_delayTo 0 = .ok (.iload_n 2, 1) := by decide +kernel
theorem dX0_delayTo_1 : decode cX0_delayTo 1 = .ok (.istore 4, 2) := by decide +kernel
theorem dX0_delayTo_3 : decode cX0_delayTo 3 = .ok (.aload_n 0, 1) := by decide +kernel
theorem dX0_delayTo_4 : decode cX0_delayTo 4 = .ok (.aload_n 1, 1) := by decide +kernel
theorem dX0_delayTo_5 : decode cX0_delayTo 5 = .ok (.iload_n 2, 1) := by decide +kernel
theorem dX0_delayTo_6 : decode cX0_delayTo 6 = .ok (.invokevirtual 105, 3) := by decide +kernel
theorem dX0_delayTo_9 : decode cX0_delayTo 9 = .ok (.lstore 5, 2) := by decide +kernel
theorem dX0_delayTo_11 : decode cX0_delayTo 11 = .ok (.aload_n 1, 1) := by decide +kernel
theorem dX0_delayTo_12 : decode cX0_delayTo 12 = .ok (.getfield 48, 3) := by decide +kernel
theorem dX0_delayTo_15 : decode cX0_delayTo 15 = .ok (.istore 7, 2) := by decide +kernel
theorem dX0_delayTo_17 : decode cX0_delayTo 17 = .ok (.iload 7, 2) := by decide +kernel
theorem dX0_delayTo_19 : decode cX0_delayTo 19 = .ok (.aload_n 1, 1) := by decide +kernel
theorem dX0_delayTo_20 : decode cX0_delayTo 20 = .ok (.getfield 53, 3) := by decide +kernel
theorem dX0_delayTo_23 : decode cX0_delayTo 23 = .ok (.if_icmp .ge 63, 3) := by decide +kernel
theorem dX0_delayTo_26 : decode cX0_delayTo 26 = .ok (.aload_n 1, 1) := by decide +kernel
theorem dX0_delayTo_27 : decode cX0_delayTo 27 = .ok (.getfield 108, 3) := by decide +kernel
theorem dX0_delayTo_30 : decode cX0_delayTo 30 = .ok (.iload 4, 2) := by decide +kernel
theorem dX0_delayTo_32 : decode cX0_delayTo 32 = .ok (.iaload, 1) := by decide +kernel
theorem dX0_delayTo_33 : decode cX0_delayTo 33 = .ok (.iload 7, 2) := by decide +kernel
theorem dX0_delayTo_35 : decode cX0_delayTo 35 = .ok (.if_icmp .ne 45, 3) := by decide +kernel
theorem dX0_delayTo_38 : decode cX0_delayTo 38 = .ok (.iload 7, 2) := by decide +kernel
theorem dX0_delayTo_40 : decode cX0_delayTo 40 = .ok (.istore 4, 2) := by decide +kernel
theorem dX0_delayTo_42 : decode cX0_delayTo 42 = .ok (.lload 5, 2) := by decide +kernel
theorem dX0_delayTo_44 : decode cX0_delayTo 44 = .ok (.aload_n 0, 1) := by decide +kernel
theorem dX0_delayTo_45 : decode cX0_delayTo 45 = .ok (.aload_n 1, 1) := by decide +kernel
theorem dX0_delayTo_46 : decode cX0_delayTo 46 = .ok (.iload 7, 2) := by decide +kernel
theorem dX0_delayTo_48 : decode cX0_delayTo 48 = .ok (.invokevirtual 105, 3) := by decide +kernel
theorem dX0_delayTo_51 : decode cX0_delayTo 51 = .ok (.ladd, 1) := by decide +kernel
theorem dX0_delayTo_52 : decode cX0_delayTo 52 = .ok (.lstore 5, 2) := by decide +kernel
theorem dX0_delayTo_54 : decode cX0_delayTo 54 = .ok (.lload 5, 2) := by decide +kernel
theorem dX0_delayTo_56 : decode cX0_delayTo 56 = .ok (.iload_n 3, 1) := by decide +kernel
theorem dX0_delayTo_57 : decode cX0_delayTo 57 = .ok (.aload_n 1, 1) := by decide +kernel
theorem dX0_delayTo_58 : decode cX0_delayTo 58 = .ok (.iload 7, 2) := by decide +kernel
theorem dX0_delayTo_60 : decode cX0_delayTo 60 = .ok (.invokevirtual 56, 3) := by decide +kernel
theorem dX0_delayTo_63 : decode cX0_delayTo 63 = .ok (.iand, 1) := by decide +kernel
theorem dX0_delayTo_64 : decode cX0_delayTo 64 = .ok (.ifCond .eq 12, 3) := by decide +kernel
theorem dX0_delayTo_67 : decode cX0_delayTo 67 = .ok (.aload_n 0, 1) := by decide +kernel
theorem dX0_delayTo_68 : decode cX0_delayTo 68 = .ok (.iload 7, 2) := by decide +kernel
theorem dX0_delayTo_70 : decode cX0_delayTo 70 = .ok (.invokevirtual 96, 3) := by decide +kernel
theorem dX0_delayTo_73 : decode cX0_delayTo 73 = .ok (.goto 4, 3) := by decide +kernel
theorem dX0_delayTo_76 : decode cX0_delayTo 76 = .ok (.lconst 0, 1) := by decide +kernel
theorem dX0_delayTo_77 : decode cX0_delayTo 77 = .ok (.ladd, 1) := by decide +kernel
theorem dX0_delayTo_78 : decode cX0_delayTo 78 = .ok (.lstore 5, 2) := by decide +kernel
theorem dX0_delayTo_80 : decode cX0_delayTo 80 = .ok (.iinc 7 1, 3) := by decide +kernel
theorem dX0_delayTo_83 : decode cX0_delayTo 83 = .ok (.goto (-66), 3) := by decide +kernel
theorem dX0_delayTo_86 : decode cX0_delayTo 86 = .ok (.lload 5, 2) := by decide +kernel
theorem dX0_delayTo_88 : decode cX0_delayTo 88 = .ok (.lreturn, 1) := by decide +kernel
set_option maxRecDepth 20000 in
theorem ggX0_findBest_X0_weighSinks : GoodIn wsX0_findBest wsX0_weighSinks := goodIn_r _ [7, 2, 8, 9, 10, 11, 12, 13, 14, 77, 78, 79, 80, 81, 82, 83, 84, 85, 86, 87, 88, 89, 90, 67, 68, 69, 70, 71, 72, 73, 74, 75, 76, 91, 92, 93, 94, 95] (by decide +kernel) (by decide +kernel)
set_option maxRecDepth 20000 in
theorem gX0_findBest_X0_weighSinks : GoodIn wsX0_findBest (wsV RX0 44 RX0 yX0_weighSinks wsX0_weighSinks) := goodIn_app (goodIn_of _ (by decide +kernel)) ggX0_findBest_X0_weighSinks
set_option maxRecDepth 20000 in
theorem ggX0_findBest_X0_tryFrom : GoodIn wsX0_findBest wsX0_tryFrom := goodIn_r _ [17, 18, 19, 20, 21, 6, 22, 23, 24, 25, 26, 12, 27, 28, 29, 30, 31, 32, 33, 11, 34, 35, 36, 37, 38, 39, 40, 41, 42, 1, 43, 44, 45, 46, 47, 48, 49, 8, 50, 51, 52, 53, 9, 54, 55, 56, 57, 58, 59, 60, 15, 16, 61, 62, 63, 64, 65, 66, 77, 78, 79, 80, 81, 82, 83, 84, 85, 86, 87, 88, 89, 90, 67, 68, 69, 70, 71, 72, 73, 74, 75, 76] (by decide +kernel) (by decide +kernel)
set_option maxRecDepth 20000 in
theorem gX0_findBest_X0_tryFrom : GoodIn wsX0_findBest (va_wsS RX0 111 yX0_tryFrom wsX0_tryFrom) := goodIn_app (goodIn_of _ (by decide +kernel)) ggX0_findBest_X0_tryFrom
theorem dX0_findBest_0 : decode cX0_findBest 0 = .ok (.aload_n 0, 1) := by decide +kernel
theorem dX0_findBest_1 : decode cX0_findBest 1 = .ok (.iconst (-1), 1) := by decide +kernel
theorem dX0_findBest_2 : decode cX0_findBest 2 = .ok (.putfield 41, 3) := by decide +kernel
theorem dX0_findBest_5 : decode cX0_findBest 5 = .ok (.aload_n 0, 1) := by decide +kernel
theorem dX0_findBest_6 : decode cX0_findBest 6 = .ok (.aload_n 1, 1) := by decide +kernel
theorem dX0_findBest_7 : decode cX0_findBest 7 = .ok (.aload_n 2, 1) := by decide +kernel
theorem dX0_findBest_8 : decode cX0_findBest 8 = .ok (.invokevirtual 44, 3) := by decide +kernel
theorem dX0_findBest_11 : decode cX0_findBest 11 = .ok (.aload_n 0, 1) := by decide +kernel
theorem dX0_findBest_12 : decode cX0_findBest 12 = .ok (.aload_n 1, 1) := by decide +kernel
theorem dX0_findBest_13 : decode cX0_findBest 13 = .ok (.aload_n 1, 1) := by decide +kernel
theorem dX0_findBest_14 : decode cX0_findBest 14 = .ok (.getfield 48, 3) := by decide +kernel
theorem dX0_findBest_17 : decode cX0_findBest 17 = .ok (.iconst 0, 1) := by decide +kernel
theorem dX0_findBest_18 : decode cX0_findBest 18 = .ok (.invokestatic 111, 3) := by decide +kernel
theorem dX0_findBest_21 : decode cX0_findBest 21 = .ok (.return_, 1) := by decide +kernel
set_option maxRecDepth 20000 in
theorem ggX0_tryFrom_X0_slackAtSource : GoodIn wsX0_tryFrom wsX0_slackAtSource := goodIn_r _ [6, 1, 7, 8, 9, 5, 10, 11, 12, 13, 14, 15, 16, 17, 18, 19, 20, 21, 22, 23, 24, 58, 59, 60, 61, 62, 63, 64, 65, 66, 67, 68, 69, 70, 71, 72, 73, 74, 75, 76, 77, 78, 79, 80, 81] (by decide +kernel) (by decide +kernel)
set_option maxRecDepth 20000 in
theorem gX0_tryFrom_X0_slackAtSource : GoodIn wsX0_tryFrom (wsV RX0 115 RX0 yX0_slackAtSource wsX0_slackAtSource) := goodIn_app (goodIn_of _ (by decide +kernel)) ggX0_tryFrom_X0_slackAtSource
set_option maxRecDepth 20000 in
theorem ggX0_tryFrom_X0_keepIfBetter : GoodIn wsX0_tryFrom wsX0_keepIfBetter := goodIn_r _ [28, 29, 30, 72, 73, 74, 75, 76, 77, 78, 79, 80, 81] (by decide +kernel) (by decide +kernel)
set_option maxRecDepth 20000 in
theorem gX0_tryFrom_X0_keepIfBetter : GoodIn wsX0_tryFrom (wsV RX0 119 RX0 yX0_keepIfBetter wsX0_keepIfBetter) := goodIn_app (goodIn_of _ (by decide +kernel)) ggX0_tryFrom_X0_keepIfBetter
set_option maxRecDepth 20000 in
theorem ggX0_tryFrom_X0_weighJoin : GoodIn wsX0_tryFrom wsX0_weighJoin := goodIn_r _ [34, 35, 36, 37, 19, 11, 38, 39, 40, 41, 42, 43, 20, 21, 22, 5, 23, 24, 17, 7, 8, 9, 10, 12, 13, 14, 15, 16, 18, 44, 45, 46, 47, 48, 49, 58, 59, 60, 61, 62, 63, 64, 65, 66, 67, 68, 69, 70, 71, 72, 73, 74, 75, 76, 77, 78, 79, 80, 81] (by decide +kernel) (by decide +kernel)
set_option maxRecDepth 20000 in
theorem gX0_tryFrom_X0_weighJoin : GoodIn wsX0_tryFrom (wsV RX0 60 RX0 yX0_weighJoin wsX0_weighJoin) := goodIn_app (goodIn_of _ (by decide +kernel)) ggX0_tryFrom_X0_weighJoin
set_option maxRecDepth 20000 in
theorem ggX0_tryFrom_X0_tryFrom : GoodIn wsX0_tryFrom wsX0_tryFrom := goodIn_r _ [0, 1, 2, 3, 4, 5, 6, 7, 8, 9, 10, 11, 12, 13, 14, 15, 16, 17, 18, 19, 20, 21, 22, 23, 24, 25, 26, 27, 28, 29, 30, 31, 32, 33, 34, 35, 36, 37, 38, 39, 40, 41, 42, 43, 44, 45, 46, 47, 48, 49, 50, 51, 52, 53, 54, 55, 56, 57, 58, 59, 60, 61, 62, 63, 64, 65, 66, 67, 68, 69, 70, 71, 72, 73, 74, 75, 76, 77, 78, 79, 80, 81] (by decide +kernel) (by decide +kernel)
set_option maxRecDepth 20000 in
theorem gX0_tryFrom_X0_tryFrom : GoodIn wsX0_tryFrom (va_wsS RX0 111 yX0_tryFrom wsX0_tryFrom) := goodIn_app (goodIn_of _ (by decide +kernel)) ggX0_tryFrom_X0_tryFrom
set_option maxRecDepth 20000 in
theorem ggX0_tryFrom_X2_bitOf : GoodIn wsX0_tryFrom wsX2_bitOf := goodIn_r _ [56, 57, 58, 59, 60, 61, 62, 63, 64, 65, 66, 67, 68, 69, 70, 71] (by decide +kernel) (by decide +kernel)
set_option maxRecDepth 20000 in
theorem gX0_tryFrom_X2_bitOf : GoodIn wsX0_tryFrom (wsV RX0 56 RX2 yX2_bitOf wsX2_bitOf) := goodIn_app (goodIn_of _ (by decide +kernel)) ggX0_tryFrom_X2_bitOf
theorem dX0_tryFrom_0 : decode cX0_tryFrom 0 = .ok (.iload_n 2, 1) := by decide +kernel
theorem dX0_tryFrom_1 : decode cX0_tryFrom 1 = .ok (.aload_n 1, 1) := by decide +kernel
theorem dX0_tryFrom_2 : decode cX0_tryFrom 2 = .ok (.getfield 53, 3) := by decide +kernel
theorem dX0_tryFrom_5 : decode cX0_tryFrom 5 = .ok (.if_icmp .lt 14, 3) := by decide +kernel
theorem dX0_tryFrom_8 : decode cX0_tryFrom 8 = .ok (.aload_n 0, 1) := by decide +kernel
theorem dX0_tryFrom_9 : decode cX0_tryFrom 9 = .ok (.aload_n 0, 1) := by decide +kernel
theorem dX0_tryFrom_10 : decode cX0_tryFrom 10 = .ok (.aload_n 1, 1) := by decide +kernel
theorem dX0_tryFrom_11 : decode cX0_tryFrom 11 = .ok (.invokevirtual 115, 3) := by decide +kernel
theorem dX0_tryFrom_14 : decode cX0_tryFrom 14 = .ok (.iload_n 3, 1) := by decide +kernel
theorem dX0_tryFrom_15 : decode cX0_tryFrom 15 = .ok (.invokevirtual 119, 3) := by decide +kernel
theorem dX0_tryFrom_18 : decode cX0_tryFrom 18 = .ok (.return_, 1) := by decide +kernel
theorem dX0_tryFrom_19 : decode cX0_tryFrom 19 = .ok (.aload_n 0, 1) := by decide +kernel
theorem dX0_tryFrom_20 : decode cX0_tryFrom 20 = .ok (.aload_n 1, 1) := by decide +kernel
theorem dX0_tryFrom_21 : decode cX0_tryFrom 21 = .ok (.iload_n 2, 1) := by decide +kernel
theorem dX0_tryFrom_22 : decode cX0_tryFrom 22 = .ok (.iconst 0, 1) := by decide +kernel
theorem dX0_tryFrom_23 : decode cX0_tryFrom 23 = .ok (.invokevirtual 60, 3) := by decide +kernel
theorem dX0_tryFrom_26 : decode cX0_tryFrom 26 = .ok (.aload_n 0, 1) := by decide +kernel
theorem dX0_tryFrom_27 : decode cX0_tryFrom 27 = .ok (.aload_n 1, 1) := by decide +kernel
theorem dX0_tryFrom_28 : decode cX0_tryFrom 28 = .ok (.iload_n 2, 1) := by decide +kernel
theorem dX0_tryFrom_29 : decode cX0_tryFrom 29 = .ok (.iconst 1, 1) := by decide +kernel
theorem dX0_tryFrom_30 : decode cX0_tryFrom 30 = .ok (.iadd, 1) := by decide +kernel
theorem dX0_tryFrom_31 : decode cX0_tryFrom 31 = .ok (.iload_n 3, 1) := by decide +kernel
theorem dX0_tryFrom_32 : decode cX0_tryFrom 32 = .ok (.invokestatic 111, 3) := by decide +kernel
theorem dX0_tryFrom_35 : decode cX0_tryFrom 35 = .ok (.aload_n 0, 1) := by decide +kernel
theorem dX0_tryFrom_36 : decode cX0_tryFrom 36 = .ok (.aload_n 1, 1) := by decide +kernel
theorem dX0_tryFrom_37 : decode cX0_tryFrom 37 = .ok (.iload_n 2, 1) := by decide +kernel
theorem dX0_tryFrom_38 : decode cX0_tryFrom 38 = .ok (.iconst 1, 1) := by decide +kernel
theorem dX0_tryFrom_39 : decode cX0_tryFrom 39 = .ok (.invokevirtual 60, 3) := by decide +kernel
theorem dX0_tryFrom_42 : decode cX0_tryFrom 42 = .ok (.aload_n 0, 1) := by decide +kernel
theorem dX0_tryFrom_43 : decode cX0_tryFrom 43 = .ok (.aload_n 1, 1) := by decide +kernel
theorem dX0_tryFrom_44 : decode cX0_tryFrom 44 = .ok (.iload_n 2, 1) := by decide +kernel
theorem dX0_tryFrom_45 : decode cX0_tryFrom 45 = .ok (.iconst 1, 1) := by decide +kernel
theorem dX0_tryFrom_46 : decode cX0_tryFrom 46 = .ok (.iadd, 1) := by decide +kernel
theorem dX0_tryFrom_47 : decode cX0_tryFrom 47 = .ok (.iload_n 3, 1) := by decide +kernel
theorem dX0_tryFrom_48 : decode cX0_tryFrom 48 = .ok (.aload_n 1, 1) := by decide +kernel
theorem dX0_tryFrom_49 : decode cX0_tryFrom 49 = .ok (.iload_n 2, 1) := by decide +kernel
theorem dX0_tryFrom_50 : decode cX0_tryFrom 50 = .ok (.invokevirtual 56, 3) := by decide +kernel
theorem dX0_tryFrom_53 : decode cX0_tryFrom 53 = .ok (.ior, 1) := by decide +kernel
theorem dX0_tryFrom_54 : decode cX0_tryFrom 54 = .ok (.invokestatic 111, 3) := by decide +kernel
theorem dX0_tryFrom_57 : decode cX0_tryFrom 57 = .ok (.return_, 1) := by decide +kernel
theorem dX0_keepIfBetter_0 : decode cX0_keepIfBetter 0 = .ok (.aload_n 0, 1) := by decide +kernel
theorem dX0_keepIfBetter_1 : decode cX0_keepIfBetter 1 = .ok (.getfield 41, 3) := by decide +kernel
theorem dX0_keepIfBetter_4 : decode cX0_keepIfBetter 4 = .ok (.iconst (-1), 1) := by decide +kernel
theorem dX0_keepIfBetter_5 : decode cX0_keepIfBetter 5 = .ok (.if_icmp .eq 29, 3) := by decide +kernel
theorem dX0_keepIfBetter_8 : decode cX0_keepIfBetter 8 = .ok (.lload_n 1, 1) := by decide +kernel
theorem dX0_keepIfBetter_9 : decode cX0_keepIfBetter 9 = .ok (.aload_n 0, 1) := by decide +kernel
theorem dX0_keepIfBetter_10 : decode cX0_keepIfBetter 10 = .ok (.getfield 37, 3) := by decide +kernel
theorem dX0_keepIfBetter_13 : decode cX0_keepIfBetter 13 = .ok (.lcmp, 1) := by decide +kernel
theorem dX0_keepIfBetter_14 : decode cX0_keepIfBetter 14 = .ok (.ifCond .gt 20, 3) := by decide +kernel
theorem dX0_keepIfBetter_17 : decode cX0_keepIfBetter 17 = .ok (.lload_n 1, 1) := by decide +kernel
theorem dX0_keepIfBetter_18 : decode cX0_keepIfBetter 18 = .ok (.aload_n 0, 1) := by decide +kernel
theorem dX0_keepIfBetter_19 : decode cX0_keepIfBetter 19 = .ok (.getfield 37, 3) := by decide +kernel
theorem dX0_keepIfBetter_22 : decode cX0_keepIfBetter 22 = .ok (.lcmp, 1) := by decide +kernel
theorem dX0_keepIfBetter_23 : decode cX0_keepIfBetter 23 = .ok (.ifCond .ne 15, 3) := by decide +kernel
theorem dX0_keepIfBetter_26 : decode cX0_keepIfBetter 26 = .ok (.iload_n 3, 1) := by decide +kernel
theorem dX0_keepIfBetter_27 : decode cX0_keepIfBetter 27 = .ok (.aload_n 0, 1) := by decide +kernel
theorem dX0_keepIfBetter_28 : decode cX0_keepIfBetter 28 = .ok (.getfield 41, 3) := by decide +kernel
theorem dX0_keepIfBetter_31 : decode cX0_keepIfBetter 31 = .ok (.if_icmp .ge 7, 3) := by decide +kernel
theorem dX0_keepIfBetter_34 : decode cX0_keepIfBetter 34 = .ok (.iconst 1, 1) := by decide +kernel
theorem dX0_keepIfBetter_35 : decode cX0_keepIfBetter 35 = .ok (.goto 4, 3) := by decide +kernel
theorem dX0_keepIfBetter_38 : decode cX0_keepIfBetter 38 = .ok (.iconst 0, 1) := by decide +kernel
theorem dX0_keepIfBetter_39 : decode cX0_keepIfBetter 39 = .ok (.istore 4, 2) := by decide +kernel
theorem dX0_keepIfBetter_41 : decode cX0_keepIfBetter 41 = .ok (.iload 4, 2) := by decide +kernel
theorem dX0_keepIfBetter_43 : decode cX0_keepIfBetter 43 = .ok (.ifCond .eq 13, 3) := by decide +kernel
theorem dX0_keepIfBetter_46 : decode cX0_keepIfBetter 46 = .ok (.aload_n 0, 1) := by decide +kernel
theorem dX0_keepIfBetter_47 : decode cX0_keepIfBetter 47 = .ok (.lload_n 1, 1) := by decide +kernel
theorem dX0_keepIfBetter_48 : decode cX0_keepIfBetter 48 = .ok (.putfield 37, 3) := by decide +kernel
theorem dX0_keepIfBetter_51 : decode cX0_keepIfBetter 51 = .ok (.aload_n 0, 1) := by decide +kernel
theorem dX0_keepIfBetter_52 : decode cX0_keepIfBetter 52 = .ok (.iload_n 3, 1) := by decide +kernel
theorem dX0_keepIfBetter_53 : decode cX0_keepIfBetter 53 = .ok (.putfield 41, 3) := by decide +kernel
theorem dX0_keepIfBetter_56 : decode cX0_keepIfBetter 56 = .ok (.return_, 1) := by decide +kernel
theorem dX1_init_0 : decode cX1_init 0 = .ok (.aload_n 0, 1) := by decide +kernel
theorem dX1_init_1 : decode cX1_init 1 = .ok (.invokespecial 3, 3) := by decide +kernel
theorem dX1_init_4 : decode cX1_init 4 = .ok (.aload_n 0, 1) := by decide +kernel
theorem dX1_init_5 : decode cX1_init 5 = .ok (.bipush 10, 2) := by decide +kernel
theorem dX1_init_7 : decode cX1_init 7 = .ok (.newarray .int, 2) := by decide +kernel
theorem dX1_init_9 : decode cX1_init 9 = .ok (.putfield 9, 3) := by decide +kernel
theorem dX1_init_12 : decode cX1_init 12 = .ok (.aload_n 0, 1) := by decide +kernel
theorem dX1_init_13 : decode cX1_init 13 = .ok (.bipush 10, 2) := by decide +kernel
theorem dX1_init_15 : decode cX1_init 15 = .ok (.newarray .int, 2) := by decide +kernel
theorem dX1_init_17 : decode cX1_init 17 = .ok (.putfield 15, 3) := by decide +kernel
theorem dX1_init_20 : decode cX1_init 20 = .ok (.aload_n 0, 1) := by decide +kernel
theorem dX1_init_21 : decode cX1_init 21 = .ok (.bipush 10, 2) := by decide +kernel
theorem dX1_init_23 : decode cX1_init 23 = .ok (.newarray .int, 2) := by decide +kernel
theorem dX1_init_25 : decode cX1_init 25 = .ok (.putfield 18, 3) := by decide +kernel
theorem dX1_init_28 : decode cX1_init 28 = .ok (.aload_n 0, 1) := by decide +kernel
theorem dX1_init_29 : decode cX1_init 29 = .ok (.bipush 10, 2) := by decide +kernel
theorem dX1_init_31 : decode cX1_init 31 = .ok (.newarray .int, 2) := by decide +kernel
theorem dX1_init_33 : decode cX1_init 33 = .ok (.putfield 21, 3) := by decide +kernel
theorem dX1_init_36 : decode cX1_init 36 = .ok (.aload_n 0, 1) := by decide +kernel
theorem dX1_init_37 : decode cX1_init 37 = .ok (.iconst 0, 1) := by decide +kernel
theorem dX1_init_38 : decode cX1_init 38 = .ok (.putfield 24, 3) := by decide +kernel
theorem dX1_init_41 : decode cX1_init 41 = .ok (.return_, 1) := by decide +kernel
theorem dX1_append_0 : decode cX1_append 0 = .ok (.aload_n 0, 1) := by decide +kernel
theorem dX1_append_1 : decode cX1_append 1 = .ok (.getfield 24, 3) := by decide +kernel
theorem dX1_append_4 : decode cX1_append 4 = .ok (.istore 5, 2) := by decide +kernel
theorem dX1_append_6 : decode cX1_append 6 = .ok (.aload_n 0, 1) := by decide +kernel
theorem dX1_append_7 : decode cX1_append 7 = .ok (.getfield 9, 3) := by decide +kernel
theorem dX1_append_10 : decode cX1_append 10 = .ok (.iload 5, 2) := by decide +kernel
theorem dX1_append_12 : decode cX1_append 12 = .ok (.iload_n 1, 1) := by decide +kernel
theorem dX1_append_13 : decode cX1_append 13 = .ok (.iastore, 1) := by decide +kernel
theorem dX1_append_14 : decode cX1_append 14 = .ok (.aload_n 0, 1) := by decide +kernel
theorem dX1_append_15 : decode cX1_append 15 = .ok (.getfield 15, 3) := by decide +kernel
theorem dX1_append_18 : decode cX1_append 18 = .ok (.iload 5, 2) := by decide +kernel
theorem dX1_append_20 : decode cX1_append 20 = .ok (.iload_n 2, 1) := by decide +kernel
theorem dX1_append_21 : decode cX1_append 21 = .ok (.iastore, 1) := by decide +kernel
theorem dX1_append_22 : decode cX1_append 22 = .ok (.aload_n 0, 1) := by decide +kernel
theorem dX1_append_23 : decode cX1_append 23 = .ok (.getfield 18, 3) := by decide +kernel
theorem dX1_append_26 : decode cX1_append 26 = .ok (.iload 5, 2) := by decide +kernel
theorem dX1_append_28 : decode cX1_append 28 = .ok (.iload_n 3, 1) := by decide +kernel
theorem dX1_append_29 : decode cX1_append 29 = .ok (.iastore, 1) := by decide +kernel
theorem dX1_append_30 : decode cX1_append 30 = .ok (.aload_n 0, 1) := by decide +kernel
theorem dX1_append_31 : decode cX1_append 31 = .ok (.getfield 21, 3) := by decide +kernel
theorem dX1_append_34 : decode cX1_append 34 = .ok (.iload 5, 2) := by decide +kernel
theorem dX1_append_36 : decode cX1_append 36 = .ok (.iload 4, 2) := by decide +kernel
theorem dX1_append_38 : decode cX1_append 38 = .ok (.iastore, 1) := by decide +kernel
theorem dX1_append_39 : decode cX1_append 39 = .ok (.aload_n 0, 1) := by decide +kernel
theorem dX1_append_40 : decode cX1_append 40 = .ok (.iload 5, 2) := by decide +kernel
theorem dX1_append_42 : decode cX1_append 42 = .ok (.iconst 1, 1) := by decide +kernel
theorem dX1_append_43 : decode cX1_append 43 = .ok (.iadd, 1) := by decide +kernel
theorem dX1_append_44 : decode cX1_append 44 = .ok (.putfield 24, 3) := by decide +kernel
theorem dX1_append_47 : decode cX1_append 47 = .ok (.iload 5, 2) := by decide +kernel
theorem dX1_append_49 : decode cX1_append 49 = .ok (.ireturn, 1) := by decide +kernel
theorem dX1_isBefore_0 : decode cX1_isBefore 0 = .ok (.iload_n 3, 1) := by decide +kernel
theorem dX1_isBefore_1 : decode cX1_isBefore 1 = .ok (.ifCond .eq 12, 3) := by decide +kernel
theorem dX1_isBefore_4 : decode cX1_isBefore 4 = .ok (.aload_n 0, 1) := by decide +kernel
theorem dX1_isBefore_5 : decode cX1_isBefore 5 = .ok (.getfield 9, 3) := by decide +kernel
theorem dX1_isBefore_8 : decode cX1_isBefore 8 = .ok (.iload_n 1, 1) := by decide +kernel
theorem dX1_isBefore_9 : decode cX1_isBefore 9 = .ok (.iaload, 1) := by decide +kernel
theorem dX1_isBefore_10 : decode cX1_isBefore 10 = .ok (.goto 9, 3) := by decide +kernel
theorem dX1_isBefore_13 : decode cX1_isBefore 13 = .ok (.aload_n 0, 1) := by decide +kernel
theorem dX1_isBefore_14 : decode cX1_isBefore 14 = .ok (.getfield 15, 3) := by decide +kernel
theorem dX1_isBefore_17 : decode cX1_isBefore 17 = .ok (.iload_n 1, 1) := by decide +kernel
theorem dX1_isBefore_18 : decode cX1_isBefore 18 = .ok (.iaload, 1) := by decide +kernel
theorem dX1_isBefore_19 : decode cX1_isBefore 19 = .ok (.istore 4, 2) := by decide +kernel
theorem dX1_isBefore_21 : decode cX1_isBefore 21 = .ok (.iload_n 3, 1) := by decide +kernel
theorem dX1_isBefore_22 : decode cX1_isBefore 22 = .ok (.ifCond .eq 12, 3) := by decide +kernel
theorem dX1_isBefore_25 : decode cX1_isBefore 25 = .ok (.aload_n 0, 1) := by decide +kernel
theorem dX1_isBefore_26 : decode cX1_isBefore 26 = .ok (.getfield 9, 3) := by decide +kernel
theorem dX1_isBefore_29 : decode cX1_isBefore 29 = .ok (.iload_n 2, 1) := by decide +kernel
theorem dX1_isBefore_30 : decode cX1_isBefore 30 = .ok (.iaload, 1) := by decide +kernel
theorem dX1_isBefore_31 : decode cX1_isBefore 31 = .ok (.goto 9, 3) := by decide +kernel
theorem dX1_isBefore_34 : decode cX1_isBefore 34 = .ok (.aload_n 0, 1) := by decide +kernel
theorem dX1_isBefore_35 : decode cX1_isBefore 35 = .ok (.getfield 15, 3) := by decide +kernel
theorem dX1_isBefore_38 : decode cX1_isBefore 38 = .ok (.iload_n 2, 1) := by decide +kernel
theorem dX1_isBefore_39 : decode cX1_isBefore 39 = .ok (.iaload, 1) := by decide +kernel
theorem dX1_isBefore_40 : decode cX1_isBefore 40 = .ok (.istore 5, 2) := by decide +kernel
theorem dX1_isBefore_42 : decode cX1_isBefore 42 = .ok (.iload 4, 2) := by decide +kernel
theorem dX1_isBefore_44 : decode cX1_isBefore 44 = .ok (.iload 5, 2) := by decide +kernel
theorem dX1_isBefore_46 : decode cX1_isBefore 46 = .ok (.if_icmp .eq 16, 3) := by decide +kernel
theorem dX1_isBefore_49 : decode cX1_isBefore 49 = .ok (.iload 4, 2) := by decide +kernel
theorem dX1_isBefore_51 : decode cX1_isBefore 51 = .ok (.iload 5, 2) := by decide +kernel
theorem dX1_isBefore_53 : decode cX1_isBefore 53 = .ok (.if_icmp .ge 7, 3) := by decide +kernel
theorem dX1_isBefore_56 : decode cX1_isBefore 56 = .ok (.iconst 1, 1) := by decide +kernel
theorem dX1_isBefore_57 : decode cX1_isBefore 57 = .ok (.goto 4, 3) := by decide +kernel
theorem dX1_isBefore_60 : decode cX1_isBefore 60 = .ok (.iconst 0, 1) := by decide +kernel
theorem dX1_isBefore_61 : decode cX1_isBefore 61 = .ok (.ireturn, 1) := by decide +kernel
theorem dX1_isBefore_62 : decode cX1_isBefore 62 = .ok (.iload_n 3, 1) := by decide +kernel
theorem dX1_isBefore_63 : decode cX1_isBefore 63 = .ok (.ifCond .eq 12, 3) := by decide +kernel
theorem dX1_isBefore_66 : decode cX1_isBefore 66 = .ok (.aload_n 0, 1) := by decide +kernel
theorem dX1_isBefore_67 : decode cX1_isBefore 67 = .ok (.getfield 15, 3) := by decide +kernel
theorem dX1_isBefore_70 : decode cX1_isBefore 70 = .ok (.iload_n 1, 1) := by decide +kernel
theorem dX1_isBefore_71 : decode cX1_isBefore 71 = .ok (.iaload, 1) := by decide +kernel
theorem dX1_isBefore_72 : decode cX1_isBefore 72 = .ok (.goto 9, 3) := by decide +kernel
theorem dX1_isBefore_75 : decode cX1_isBefore 75 = .ok (.aload_n 0, 1) := by decide +kernel
theorem dX1_isBefore_76 : decode cX1_isBefore 76 = .ok (.getfield 9, 3) := by decide +kernel
theorem dX1_isBefore_79 : decode cX1_isBefore 79 = .ok (.iload_n 1, 1) := by decide +kernel
theorem dX1_isBefore_80 : decode cX1_isBefore 80 = .ok (.iaload, 1) := by decide +kernel
theorem dX1_isBefore_81 : decode cX1_isBefore 81 = .ok (.istore 6, 2) := by decide +kernel
theorem dX1_isBefore_83 : decode cX1_isBefore 83 = .ok (.iload_n 3, 1) := by decide +kernel
theorem dX1_isBefore_84 : decode cX1_isBefore 84 = .ok (.ifCond .eq 12, 3) := by decide +kernel
theorem dX1_isBefore_87 : decode cX1_isBefore 87 = .ok (.aload_n 0, 1) := by decide +kernel
theorem dX1_isBefore_88 : decode cX1_isBefore 88 = .ok (.getfield 15, 3) := by decide +kernel
theorem dX1_isBefore_91 : decode cX1_isBefore 91 = .ok (.iload_n 2, 1) := by decide +kernel
theorem dX1_isBefore_92 : decode cX1_isBefore 92 = .ok (.iaload, 1) := by decide +kernel
theorem dX1_isBefore_93 : decode cX1_isBefore 93 = .ok (.goto 9, 3) := by decide +kernel
theorem dX1_isBefore_96 : decode cX1_isBefore 96 = .ok (.aload_n 0, 1) := by decide +kernel
theorem dX1_isBefore_97 : decode cX1_isBefore 97 = .ok (.getfield 9, 3) := by decide +kernel
theorem dX1_isBefore_100 : decode cX1_isBefore 100 = .ok (.iload_n 2, 1) := by decide +kernel
theorem dX1_isBefore_101 : decode cX1_isBefore 101 = .ok (.iaload, 1) := by decide +kernel
theorem dX1_isBefore_102 : decode cX1_isBefore 102 = .ok (.istore 7, 2) := by decide +kernel
theorem dX1_isBefore_104 : decode cX1_isBefore 104 = .ok (.iload 6, 2) := by decide +kernel
theorem dX1_isBefore_106 : decode cX1_isBefore 106 = .ok (.iload 7, 2) := by decide +kernel
theorem dX1_isBefore_108 : decode cX1_isBefore 108 = .ok (.if_icmp .eq 18, 3) := by decide +kernel
theorem dX1_isBefore_111 : decode cX1_isBefore 111 = .ok (.iload 6, 2) := by decide +kernel
theorem dX1_isBefore_113 : decode cX1_isBefore 113 = .ok (.iload 7, 2) := by decide +kernel
theorem dX1_isBefore_115 : decode cX1_isBefore 115 = .ok (.if_icmp .ge 7, 3) := by decide +kernel
theorem dX1_isBefore_118 : decode cX1_isBefore 118 = .ok (.iconst 1, 1) := by decide +kernel
theorem dX1_isBefore_119 : decode cX1_isBefore 119 = .ok (.goto 17, 3) := by decide +kernel
theorem dX1_isBefore_122 : decode cX1_isBefore 122 = .ok (.iconst 0, 1) := by decide +kernel
theorem dX1_isBefore_123 : decode cX1_isBefore 123 = .ok (.goto 13, 3) := by decide +kernel
theorem dX1_isBefore_126 : decode cX1_isBefore 126 = .ok (.iload_n 1, 1) := by decide +kernel
theorem dX1_isBefore_127 : decode cX1_isBefore 127 = .ok (.iload_n 2, 1) := by decide +kernel
theorem dX1_isBefore_128 : decode cX1_isBefore 128 = .ok (.if_icmp .ge 7, 3) := by decide +kernel
theorem dX1_isBefore_131 : decode cX1_isBefore 131 = .ok (.iconst 1, 1) := by decide +kernel
theorem dX1_isBefore_132 : decode cX1_isBefore 132 = .ok (.goto 4, 3) := by decide +kernel
theorem dX1_isBefore_135 : decode cX1_isBefore 135 = .ok (.iconst 0, 1) := by decide +kernel
theorem dX1_isBefore_136 : decode cX1_isBefore 136 = .ok (.ireturn, 1) := by decide +kernel
theorem dX2_init_0 : decode cX2_init 0 = .ok (.aload_n 0, 1) := by decide +kernel
theorem dX2_init_1 : decode cX2_init 1 = .ok (.invokespecial 3, 3) := by decide +kernel
theorem dX2_init_4 : decode cX2_init 4 = .ok (.aload_n 0, 1) := by decide +kernel
theorem dX2_init_5 : decode cX2_init 5 = .ok (.bipush 19, 2) := by decide +kernel
theorem dX2_init_7 : decode cX2_init 7 = .ok (.newarray .int, 2) := by decide +kernel
theorem dX2_init_9 : decode cX2_init 9 = .ok (.putfield 9, 3) := by decide +kernel
theorem dX2_init_12 : decode cX2_init 12 = .ok (.aload_n 0, 1) := by decide +kernel
theorem dX2_init_13 : decode cX2_init 13 = .ok (.bipush 19, 2) := by decide +kernel
theorem dX2_init_15 : decode cX2_init 15 = .ok (.newarray .int, 2) := by decide +kernel
theorem dX2_init_17 : decode cX2_init 17 = .ok (.putfield 15, 3) := by decide +kernel
theorem dX2_init_20 : decode cX2_init 20 = .ok (.aload_n 0, 1) := by decide +kernel
theorem dX2_init_21 : decode cX2_init 21 = .ok (.bipush 19, 2) := by decide +kernel
theorem dX2_init_23 : decode cX2_init 23 = .ok (.newarray .int, 2) := by decide +kernel
theorem dX2_init_25 : decode cX2_init 25 = .ok (.putfield 18, 3) := by decide +kernel
theorem dX2_init_28 : decode cX2_init 28 = .ok (.aload_n 0, 1) := by decide +kernel
theorem dX2_init_29 : decode cX2_init 29 = .ok (.bipush 19, 2) := by decide +kernel
theorem dX2_init_31 : decode cX2_init 31 = .ok (.newarray .int, 2) := by decide +kernel
theorem dX2_init_33 : decode cX2_init 33 = .ok (.putfield 21, 3) := by decide +kernel
theorem dX2_init_36 : decode cX2_init 36 = .ok (.aload_n 0, 1) := by decide +kernel
theorem dX2_init_37 : decode cX2_init 37 = .ok (.bipush 19, 2) := by decide +kernel
theorem dX2_init_39 : decode cX2_init 39 = .ok (.newarray .int, 2) := by decide +kernel
theorem dX2_init_41 : decode cX2_init 41 = .ok (.putfield 24, 3) := by decide +kernel
theorem dX2_init_44 : decode cX2_init 44 = .ok (.aload_n 0, 1) := by decide +kernel
theorem dX2_init_45 : decode cX2_init 45 = .ok (.bipush 19, 2) := by decide +kernel
theorem dX2_init_47 : decode cX2_init 47 = .ok (.newarray .int, 2) := by decide +kernel
theorem dX2_init_49 : decode cX2_init 49 = .ok (.putfield 27, 3) := by decide +kernel
theorem dX2_init_52 : decode cX2_init 52 = .ok (.aload_n 0, 1) := by decide +kernel
theorem dX2_init_53 : decode cX2_init 53 = .ok (.bipush 19, 2) := by decide +kernel
theorem dX2_init_55 : decode cX2_init 55 = .ok (.newarray .int, 2) := by decide +kernel
theorem dX2_init_57 : decode cX2_init 57 = .ok (.putfield 30, 3) := by decide +kernel
theorem dX2_init_60 : decode cX2_init 60 = .ok (.aload_n 0, 1) := by decide +kernel
theorem dX2_init_61 : decode cX2_init 61 = .ok (.bipush 19, 2) := by decide +kernel
theorem dX2_init_63 : decode cX2_init 63 = .ok (.newarray .int, 2) := by decide +kernel
theorem dX2_init_65 : decode cX2_init 65 = .ok (.putfield 33, 3) := by decide +kernel
theorem dX2_init_68 : decode cX2_init 68 = .ok (.aload_n 0, 1) := by decide +kernel
theorem dX2_init_69 : decode cX2_init 69 = .ok (.bipush 19, 2) := by decide +kernel
theorem dX2_init_71 : decode cX2_init 71 = .ok (.newarray .int, 2) := by decide +kernel
theorem dX2_init_73 : decode cX2_init 73 = .ok (.putfield 36, 3) := by decide +kernel
theorem dX2_init_76 : decode cX2_init 76 = .ok (.aload_n 0, 1) := by decide +kernel
theorem dX2_init_77 : decode cX2_init 77 = .ok (.bipush 19, 2) := by decide +kernel
theorem dX2_init_79 : decode cX2_init 79 = .ok (.newarray .int, 2) := by decide +kernel
theorem dX2_init_81 : decode cX2_init 81 = .ok (.putfield 39, 3) := by decide +kernel
theorem dX2_init_84 : decode cX2_init 84 = .ok (.aload_n 0, 1) := by decide +kernel
theorem dX2_init_85 : decode cX2_init 85 = .ok (.bipush 19, 2) := by decide +kernel
theorem dX2_init_87 : decode cX2_init 87 = .ok (.newarray .int, 2) := by decide +kernel
theorem dX2_init_89 : decode cX2_init 89 = .ok (.putfield 42, 3) := by decide +kernel
theorem dX2_init_92 : decode cX2_init 92 = .ok (.aload_n 0, 1) := by decide +kernel
theorem dX2_init_93 : decode cX2_init 93 = .ok (.bipush 10, 2) := by decide +kernel
theorem dX2_init_95 : decode cX2_init 95 = .ok (.newarray .int, 2) := by decide +kernel
theorem dX2_init_97 : decode cX2_init 97 = .ok (.putfield 45, 3) := by decide +kernel
theorem dX2_init_100 : decode cX2_init 100 = .ok (.aload_n 0, 1) := by decide +kernel
theorem dX2_init_101 : decode cX2_init 101 = .ok (.iconst 0, 1) := by decide +kernel
theorem dX2_init_102 : decode cX2_init 102 = .ok (.putfield 48, 3) := by decide +kernel
theorem dX2_init_105 : decode cX2_init 105 = .ok (.aload_n 0, 1) := by decide +kernel
theorem dX2_init_106 : decode cX2_init 106 = .ok (.iconst 0, 1) := by decide +kernel
theorem dX2_init_107 : decode cX2_init 107 = .ok (.putfield 52, 3) := by decide +kernel
theorem dX2_init_110 : decode cX2_init 110 = .ok (.return_, 1) := by decide +kernel
set_option maxRecDepth 20000 in
theorem ggX2_plantSinks_X3_placeU : GoodIn wsX2_plantSinks wsX3_placeU := goodIn_r _ [16] (by decide +kernel) (by decide +kernel)
set_option maxRecDepth 20000 in
theorem gX2_plantSinks_X3_placeU_n66 : GoodIn wsX2_plantSinks (wsX3_placeU) := ggX2_plantSinks_X3_placeU
set_option maxRecDepth 20000 in
theorem ggX2_plantSinks_X3_placeV : GoodIn wsX2_plantSinks wsX3_placeV := goodIn_r _ [18] (by decide +kernel) (by decide +kernel)
set_option maxRecDepth 20000 in
theorem gX2_plantSinks_X3_placeV_n70 : GoodIn wsX2_plantSinks (wsX3_placeV) := ggX2_plantSinks_X3_placeV
theorem dX2_plantSinks_0 : decode cX2_plantSinks 0 = .ok (.aload_n 0, 1) := by decide +kernel
theorem dX2_plantSinks_1 : decode cX2_plantSinks 1 = .ok (.aload_n 1, 1) := by decide +kernel
theorem dX2_plantSinks_2 : decode cX2_plantSinks 2 = .ok (.getfield 55, 3) := by decide +kernel
theorem dX2_plantSinks_5 : decode cX2_plantSinks 5 = .ok (.putfield 48, 3) := by decide +kernel
theorem dX2_plantSinks_8 : decode cX2_plantSinks 8 = .ok (.aload_n 0, 1) := by decide +kernel
theorem dX2_plantSinks_9 : decode cX2_plantSinks 9 = .ok (.aload_n 0, 1) := by decide +kernel
theorem dX2_plantSinks_10 : decode cX2_plantSinks 10 = .ok (.getfield 48, 3) := by decide +kernel
theorem dX2_plantSinks_13 : decode cX2_plantSinks 13 = .ok (.putfield 52, 3) := by decide +kernel
theorem dX2_plantSinks_16 : decode cX2_plantSinks 16 = .ok (.iconst 0, 1) := by decide +kernel
theorem dX2_plantSinks_17 : decode cX2_plantSinks 17 = .ok (.istore_n 2, 1) := by decide +kernel
theorem dX2_plantSinks_18 : decode cX2_plantSinks 18 = .ok (.iload_n 2, 1) := by decide +kernel
theorem dX2_plantSinks_19 : decode cX2_plantSinks 19 = .ok (.aload_n 0, 1) := by decide +kernel
theorem dX2_plantSinks_20 : decode cX2_plantSinks 20 = .ok (.getfield 48, 3) := by decide +kernel
theorem dX2_plantSinks_23 : decode cX2_plantSinks 23 = .ok (.if_icmp .ge 100, 3) := by decide +kernel
theorem dX2_plantSinks_26 : decode cX2_plantSinks 26 = .ok (.aload_n 1, 1) := by decide +kernel
theorem dX2_plantSinks_27 : decode cX2_plantSinks 27 = .ok (.getfield 60, 3) := by decide +kernel
theorem dX2_plantSinks_30 : decode cX2_plantSinks 30 = .ok (.iload_n 2, 1) := by decide +kernel
theorem dX2_plantSinks_31 : decode cX2_plantSinks 31 = .ok (.iaload, 1) := by decide +kernel
theorem dX2_plantSinks_32 : decode cX2_plantSinks 32 = .ok (.aload_n 1, 1) := by decide +kernel
theorem dX2_plantSinks_33 : decode cX2_plantSinks 33 = .ok (.getfield 63, 3) := by decide +kernel
theorem dX2_plantSinks_36 : decode cX2_plantSinks 36 = .ok (.iload_n 2, 1) := by decide +kernel
theorem dX2_plantSinks_37 : decode cX2_plantSinks 37 = .ok (.iaload, 1) := by decide +kernel
theorem dX2_plantSinks_38 : decode cX2_plantSinks 38 = .ok (.invokestatic 66, 3) := by decide +kernel
theorem dX2_plantSinks_41 : decode cX2_plantSinks 41 = .ok (.istore_n 3, 1) := by decide +kernel
theorem dX2_plantSinks_42 : decode cX2_plantSinks 42 = .ok (.aload_n 1, 1) := by decide +kernel
theorem dX2_plantSinks_43 : decode cX2_plantSinks 43 = .ok (.getfield 60, 3) := by decide +kernel
theorem dX2_plantSinks_46 : decode cX2_plantSinks 46 = .ok (.iload_n 2, 1) := by decide +kernel
theorem dX2_plantSinks_47 : decode cX2_plantSinks 47 = .ok (.iaload, 1) := by decide +kernel
theorem dX2_plantSinks_48 : decode cX2_plantSinks 48 = .ok (.aload_n 1, 1) := by decide +kernel
theorem dX2_plantSinks_49 : decode cX2_plantSinks 49 = .ok (.getfield 63, 3) := by decide +kernel
theorem dX2_plantSinks_52 : decode cX2_plantSinks 52 = .ok (.iload_n 2, 1) := by decide +kernel
theorem dX2_plantSinks_53 : decode cX2_plantSinks 53 = .ok (.iaload, 1) := by decide +kernel
theorem dX2_plantSinks_54 : decode cX2_plantSinks 54 = .ok (.invokestatic 70, 3) := by decide +kernel
theorem dX2_plantSinks_57 : decode cX2_plantSinks 57 = .ok (.istore 4, 2) := by decide +kernel
theorem dX2_plantSinks_59 : decode cX2_plantSinks 59 = .ok (.aload_n 0, 1) := by decide +kernel
theorem dX2_plantSinks_60 : decode cX2_plantSinks 60 = .ok (.getfield 9, 3) := by decide +kernel
theorem dX2_plantSinks_63 : decode cX2_plantSinks 63 = .ok (.iload_n 2, 1) := by decide +kernel
theorem dX2_plantSinks_64 : decode cX2_plantSinks 64 = .ok (.iconst (-1), 1) := by decide +kernel
theorem dX2_plantSinks_65 : decode cX2_plantSinks 65 = .ok (.iastore, 1) := by decide +kernel
theorem dX2_plantSinks_66 : decode cX2_plantSinks 66 = .ok (.aload_n 0, 1) := by decide +kernel
theorem dX2_plantSinks_67 : decode cX2_plantSinks 67 = .ok (.getfield 15, 3) := by decide +kernel
theorem dX2_plantSinks_70 : decode cX2_plantSinks 70 = .ok (.iload_n 2, 1) := by decide +kernel
theorem dX2_plantSinks_71 : decode cX2_plantSinks 71 = .ok (.iconst (-1), 1) := by decide +kernel
theorem dX2_plantSinks_72 : decode cX2_plantSinks 72 = .ok (.iastore, 1) := by decide +kernel
theorem dX2_plantSinks_73 : decode cX2_plantSinks 73 = .ok (.aload_n 0, 1) := by decide +kernel
theorem dX2_plantSinks_74 : decode cX2_plantSinks 74 = .ok (.getfield 18, 3) := by decide +kernel
theorem dX2_plantSinks_77 : decode cX2_plantSinks 77 = .ok (.iload_n 2, 1) := by decide +kernel
theorem dX2_plantSinks_78 : decode cX2_plantSinks 78 = .ok (.iconst (-1), 1) := by decide +kernel
theorem dX2_plantSinks_79 : decode cX2_plantSinks 79 = .ok (.iastore, 1) := by decide +kernel
theorem dX2_plantSinks_80 : decode cX2_plantSinks 80 = .ok (.aload_n 0, 1) := by decide +kernel
theorem dX2_plantSinks_81 : decode cX2_plantSinks 81 = .ok (.getfield 21, 3) := by decide +kernel
theorem dX2_plantSinks_84 : decode cX2_plantSinks 84 = .ok (.iload_n 2, 1) := by decide +kernel
theorem dX2_plantSinks_85 : decode cX2_plantSinks 85 = .ok (.iload_n 3, 1) := by decide +kernel
theorem dX2_plantSinks_86 : decode cX2_plantSinks 86 = .ok (.iastore, 1) := by decide +kernel
theorem dX2_plantSinks_87 : decode cX2_plantSinks 87 = .ok (.aload_n 0, 1) := by decide +kernel
theorem dX2_plantSinks_88 : decode cX2_plantSinks 88 = .ok (.getfield 24, 3) := by decide +kernel
theorem dX2_plantSinks_91 : decode cX2_plantSinks 91 = .ok (.iload_n 2, 1) := by decide +kernel
theorem dX2_plantSinks_92 : decode cX2_plantSinks 92 = .ok (.iload_n 3, 1) := by decide +kernel
theorem dX2_plantSinks_93 : decode cX2_plantSinks 93 = .ok (.iastore, 1) := by decide +kernel
theorem dX2_plantSinks_94 : decode cX2_plantSinks 94 = .ok (.aload_n 0, 1) := by decide +kernel
theorem dX2_plantSinks_95 : decode cX2_plantSinks 95 = .ok (.getfield 27, 3) := by decide +kernel
theorem dX2_plantSinks_98 : decode cX2_plantSinks 98 = .ok (.iload_n 2, 1) := by decide +kernel
theorem dX2_plantSinks_99 : decode cX2_plantSinks 99 = .ok (.iload 4, 2) := by decide +kernel
theorem dX2_plantSinks_101 : decode cX2_plantSinks 101 = .ok (.iastore, 1) := by decide +kernel
theorem dX2_plantSinks_102 : decode cX2_plantSinks 102 = .ok (.aload_n 0, 1) := by decide +kernel
theorem dX2_plantSinks_103 : decode cX2_plantSinks 103 = .ok (.getfield 30, 3) := by decide +kernel
theorem dX2_plantSinks_106 : decode cX2_plantSinks 106 = .ok (.iload_n 2, 1) := by decide +kernel
theorem dX2_plantSinks_107 : decode cX2_plantSinks 107 = .ok (.iload 4, 2) := by decide +kernel
theorem dX2_plantSinks_109 : decode cX2_plantSinks 109 = .ok (.iastore, 1) := by decide +kernel
theorem dX2_plantSinks_110 : decode cX2_plantSinks 110 = .ok (.aload_n 0, 1) := by decide +kernel
theorem dX2_plantSinks_111 : decode cX2_plantSinks 111 = .ok (.getfield 33, 3) := by decide +kernel
theorem dX2_plantSinks_114 : decode cX2_plantSinks 114 = .ok (.iload_n 2, 1) := by decide +kernel
theorem dX2_plantSinks_115 : decode cX2_plantSinks 115 = .ok (.iconst 0, 1) := by decide +kernel
theorem dX2_plantSinks_116 : decode cX2_plantSinks 116 = .ok (.iastore, 1) := by decide +kernel
theorem dX2_plantSinks_117 : decode cX2_plantSinks 117 = .ok (.iinc 2 1, 3) := by decide +kernel
theorem dX2_plantSinks_120 : decode cX2_plantSinks 120 = .ok (.goto (-102), 3) := by decide +kernel
theorem dX2_plantSinks_123 : decode cX2_plantSinks 123 = .ok (.return_, 1) := by decide +kernel
set_option maxRecDepth 20000 in
theorem ggX2_joinByDistance_X2_joinNearestPair : GoodIn wsX2_joinByDistance wsX2_joinNearestPair := goodIn_r _ [6, 7, 8, 9, 10, 11, 12, 5, 13, 14, 15, 16, 17, 18, 19, 20, 21, 22, 23, 24, 25, 26, 27, 28, 29, 30, 31, 32, 33, 34, 35, 36, 37, 38, 39, 40, 41, 42, 43, 44, 45, 46, 47, 48, 49, 50, 51, 52, 53] (by decide +kernel) (by decide +kernel)
set_option maxRecDepth 20000 in
theorem gX2_joinByDistance_X2_joinNearestPair : GoodIn wsX2_joinByDistance (wsV RX2 73 RX2 yX2_joinNearestPair wsX2_joinNearestPair) := goodIn_app (goodIn_of _ (by decide +kernel)) ggX2_joinByDistance_X2_joinNearestPair
theorem dX2_joinByDistance_0 : decode cX2_joinByDistance 0 = .ok (.iconst 1, 1) := by decide +kernel
theorem dX2_joinByDistance_1 : decode cX2_joinByDistance 1 = .ok (.istore_n 1, 1) := by decide +kernel
theorem dX2_joinByDistance_2 : decode cX2_joinByDistance 2 = .ok (.iload_n 1, 1) := by decide +kernel
theorem dX2_joinByDistance_3 : decode cX2_joinByDistance 3 = .ok (.aload_n 0, 1) := by decide +kernel
theorem dX2_joinByDistance_4 : decode cX2_joinByDistance 4 = .ok (.getfield 48, 3) := by decide +kernel
theorem dX2_joinByDistance_7 : decode cX2_joinByDistance 7 = .ok (.if_icmp .ge 13, 3) := by decide +kernel
theorem dX2_joinByDistance_10 : decode cX2_joinByDistance 10 = .ok (.aload_n 0, 1) := by decide +kernel
theorem dX2_joinByDistance_11 : decode cX2_joinByDistance 11 = .ok (.invokevirtual 73, 3) := by decide +kernel
theorem dX2_joinByDistance_14 : decode cX2_joinByDistance 14 = .ok (.iinc 1 1, 3) := by decide +kernel
theorem dX2_joinByDistance_17 : decode cX2_joinByDistance 17 = .ok (.goto (-15), 3) := by decide +kernel
theorem dX2_joinByDistance_20 : decode cX2_joinByDistance 20 = .ok (.return_, 1) := by decide +kernel
set_option maxRecDepth 20000 in
theorem ggX2_joinNearestPair_X2_distanceOf : GoodIn wsX2_joinNearestPair wsX2_distanceOf := goodIn_r _ [8, 9, 10, 11, 12, 13, 14, 15, 16, 17, 18, 7, 19, 35, 36, 37, 38, 39, 40, 41, 42, 43, 44, 45, 46, 47, 48] (by decide +kernel) (by decide +kernel)
set_option maxRecDepth 20000 in
theorem gX2_joinNearestPair_X2_distanceOf : GoodIn wsX2_joinNearestPair (wsV RX2 77 RX2 yX2_distanceOf wsX2_distanceOf) := goodIn_app (goodIn_of _ (by decide +kernel)) ggX2_joinNearestPair_X2_distanceOf
set_option maxRecDepth 20000 in
theorem ggX2_joinNearestPair_X2_joinTwo : GoodIn wsX2_joinNearestPair wsX2_joinTwo := goodIn_r _ [23, 2, 24, 25, 3, 9, 26, 13, 14, 15, 16, 10, 27, 28, 29, 11, 12, 30, 4, 5, 6, 7, 8, 17, 18, 19, 31, 32, 33, 34, 35, 36, 37, 38, 39, 40, 41, 42, 43, 44, 45, 46, 47, 48] (by decide +kernel) (by decide +kernel)
set_option maxRecDepth 20000 in
theorem gX2_joinNearestPair_X2_joinTwo : GoodIn wsX2_joinNearestPair (wsV RX2 80 RX2 yX2_joinTwo wsX2_joinTwo) := goodIn_app (goodIn_of _ (by decide +kernel)) ggX2_joinNearestPair_X2_joinTwo
theorem dX2_joinNearestPair_0 : decode cX2_joinNearestPair 0 = .ok (.iconst (-1), 1) := by decide +kernel
theorem dX2_joinNearestPair_1 : decode cX2_joinNearestPair 1 = .ok (.istore_n 1, 1) := by decide +kernel
theorem dX2_joinNearestPair_2 : decode cX2_joinNearestPair 2 = .ok (.iconst (-1), 1) := by decide +kernel
theorem dX2_joinNearestPair_3 : decode cX2_joinNearestPair 3 = .ok (.istore_n 2, 1) := by decide +kernel
theorem dX2_joinNearestPair_4 : decode cX2_joinNearestPair 4 = .ok (.ldc 76, 2) := by decide +kernel
theorem dX2_joinNearestPair_6 : decode cX2_joinNearestPair 6 = .ok (.istore_n 3, 1) := by decide +kernel
theorem dX2_joinNearestPair_7 : decode cX2_joinNearestPair 7 = .ok (.iconst 0, 1) := by decide +kernel
theorem dX2_joinNearestPair_8 : decode cX2_joinNearestPair 8 = .ok (.istore 4, 2) := by decide +kernel
theorem dX2_joinNearestPair_10 : decode cX2_joinNearestPair 10 = .ok (.iload 4, 2) := by decide +kernel
theorem dX2_joinNearestPair_12 : decode cX2_joinNearestPair 12 = .ok (.aload_n 0, 1) := by decide +kernel
theorem dX2_joinNearestPair_13 : decode cX2_joinNearestPair 13 = .ok (.getfield 52, 3) := by decide +kernel
theorem dX2_joinNearestPair_16 : decode cX2_joinNearestPair 16 = .ok (.if_icmp .ge 94, 3) := by decide +kernel
theorem dX2_joinNearestPair_19 : decode cX2_joinNearestPair 19 = .ok (.iload 4, 2) := by decide +kernel
theorem dX2_joinNearestPair_21 : decode cX2_joinNearestPair 21 = .ok (.iconst 1, 1) := by decide +kernel
theorem dX2_joinNearestPair_22 : decode cX2_joinNearestPair 22 = .ok (.iadd, 1) := by decide +kernel
theorem dX2_joinNearestPair_23 : decode cX2_joinNearestPair 23 = .ok (.istore 5, 2) := by decide +kernel
theorem dX2_joinNearestPair_25 : decode cX2_joinNearestPair 25 = .ok (.iload 5, 2) := by decide +kernel
theorem dX2_joinNearestPair_27 : decode cX2_joinNearestPair 27 = .ok (.aload_n 0, 1) := by decide +kernel
theorem dX2_joinNearestPair_28 : decode cX2_joinNearestPair 28 = .ok (.getfield 52, 3) := by decide +kernel
theorem dX2_joinNearestPair_31 : decode cX2_joinNearestPair 31 = .ok (.if_icmp .ge 73, 3) := by decide +kernel
theorem dX2_joinNearestPair_34 : decode cX2_joinNearestPair 34 = .ok (.aload_n 0, 1) := by decide +kernel
theorem dX2_joinNearestPair_35 : decode cX2_joinNearestPair 35 = .ok (.getfield 18, 3) := by decide +kernel
theorem dX2_joinNearestPair_38 : decode cX2_joinNearestPair 38 = .ok (.iload 4, 2) := by decide +kernel
theorem dX2_joinNearestPair_40 : decode cX2_joinNearestPair 40 = .ok (.iaload, 1) := by decide +kernel
theorem dX2_joinNearestPair_41 : decode cX2_joinNearestPair 41 = .ok (.iconst (-1), 1) := by decide +kernel
theorem dX2_joinNearestPair_42 : decode cX2_joinNearestPair 42 = .ok (.if_icmp .ne 18, 3) := by decide +kernel
theorem dX2_joinNearestPair_45 : decode cX2_joinNearestPair 45 = .ok (.aload_n 0, 1) := by decide +kernel
theorem dX2_joinNearestPair_46 : decode cX2_joinNearestPair 46 = .ok (.getfield 18, 3) := by decide +kernel
theorem dX2_joinNearestPair_49 : decode cX2_joinNearestPair 49 = .ok (.iload 5, 2) := by decide +kernel
theorem dX2_joinNearestPair_51 : decode cX2_joinNearestPair 51 = .ok (.iaload, 1) := by decide +kernel
theorem dX2_joinNearestPair_52 : decode cX2_joinNearestPair 52 = .ok (.iconst (-1), 1) := by decide +kernel
theorem dX2_joinNearestPair_53 : decode cX2_joinNearestPair 53 = .ok (.if_icmp .ne 7, 3) := by decide +kernel
theorem dX2_joinNearestPair_56 : decode cX2_joinNearestPair 56 = .ok (.iconst 1, 1) := by decide +kernel
theorem dX2_joinNearestPair_57 : decode cX2_joinNearestPair 57 = .ok (.goto 4, 3) := by decide +kernel
theorem dX2_joinNearestPair_60 : decode cX2_joinNearestPair 60 = .ok (.iconst 0, 1) := by decide +kernel
theorem dX2_joinNearestPair_61 : decode cX2_joinNearestPair 61 = .ok (.istore 6, 2) := by decide +kernel
theorem dX2_joinNearestPair_63 : decode cX2_joinNearestPair 63 = .ok (.iload 6, 2) := by decide +kernel
theorem dX2_joinNearestPair_65 : decode cX2_joinNearestPair 65 = .ok (.ifCond .eq 14, 3) := by decide +kernel
theorem dX2_joinNearestPair_68 : decode cX2_joinNearestPair 68 = .ok (.aload_n 0, 1) := by decide +kernel
theorem dX2_joinNearestPair_69 : decode cX2_joinNearestPair 69 = .ok (.iload 4, 2) := by decide +kernel
theorem dX2_joinNearestPair_71 : decode cX2_joinNearestPair 71 = .ok (.iload 5, 2) := by decide +kernel
theorem dX2_joinNearestPair_73 : decode cX2_joinNearestPair 73 = .ok (.invokevirtual 77, 3) := by decide +kernel
theorem dX2_joinNearestPair_76 : decode cX2_joinNearestPair 76 = .ok (.goto 5, 3) := by decide +kernel
theorem dX2_joinNearestPair_79 : decode cX2_joinNearestPair 79 = .ok (.ldc 76, 2) := by decide +kernel
theorem dX2_joinNearestPair_81 : decode cX2_joinNearestPair 81 = .ok (.istore 7, 2) := by decide +kernel
theorem dX2_joinNearestPair_83 : decode cX2_joinNearestPair 83 = .ok (.iload 7, 2) := by decide +kernel
theorem dX2_joinNearestPair_85 : decode cX2_joinNearestPair 85 = .ok (.iload_n 3, 1) := by decide +kernel
theorem dX2_joinNearestPair_86 : decode cX2_joinNearestPair 86 = .ok (.if_icmp .ge 12, 3) := by decide +kernel
theorem dX2_joinNearestPair_89 : decode cX2_joinNearestPair 89 = .ok (.iload 7, 2) := by decide +kernel
theorem dX2_joinNearestPair_91 : decode cX2_joinNearestPair 91 = .ok (.istore_n 3, 1) := by decide +kernel
theorem dX2_joinNearestPair_92 : decode cX2_joinNearestPair 92 = .ok (.iload 4, 2) := by decide +kernel
theorem dX2_joinNearestPair_94 : decode cX2_joinNearestPair 94 = .ok (.istore_n 1, 1) := by decide +kernel
theorem dX2_joinNearestPair_95 : decode cX2_joinNearestPair 95 = .ok (.iload 5, 2) := by decide +kernel
theorem dX2_joinNearestPair_97 : decode cX2_joinNearestPair 97 = .ok (.istore_n 2, 1) := by decide +kernel
theorem dX2_joinNearestPair_98 : decode cX2_joinNearestPair 98 = .ok (.iinc 5 1, 3) := by decide +kernel
theorem dX2_joinNearestPair_101 : decode cX2_joinNearestPair 101 = .ok (.goto (-76), 3) := by decide +kernel
theorem dX2_joinNearestPair_104 : decode cX2_joinNearestPair 104 = .ok (.iinc 4 1, 3) := by decide +kernel
theorem dX2_joinNearestPair_107 : decode cX2_joinNearestPair 107 = .ok (.goto (-97), 3) := by decide +kernel
theorem dX2_joinNearestPair_110 : decode cX2_joinNearestPair 110 = .ok (.iload_n 1, 1) := by decide +kernel
theorem dX2_joinNearestPair_111 : decode cX2_joinNearestPair 111 = .ok (.iconst (-1), 1) := by decide +kernel
theorem dX2_joinNearestPair_112 : decode cX2_joinNearestPair 112 = .ok (.if_icmp .eq 10, 3) := by decide +kernel
theorem dX2_joinNearestPair_115 : decode cX2_joinNearestPair 115 = .ok (.aload_n 0, 1) := by decide +kernel
theorem dX2_joinNearestPair_116 : decode cX2_joinNearestPair 116 = .ok (.iload_n 1, 1) := by decide +kernel
theorem dX2_joinNearestPair_117 : decode cX2_joinNearestPair 117 = .ok (.iload_n 2, 1) := by decide +kernel
theorem dX2_joinNearestPair_118 : decode cX2_joinNearestPair 118 = .ok (.invokevirtual 80, 3) := by decide +kernel
theorem dX2_joinNearestPair_121 : decode cX2_joinNearestPair 121 = .ok (.pop, 1) := by decide +kernel
theorem dX2_joinNearestPair_122 : decode cX2_joinNearestPair 122 = .ok (.return_, 1) := by decide +kernel
set_option maxRecDepth 20000 in
theorem ggX2_joinByCutting_X2_joinRow : GoodIn wsX2_joinByCutting wsX2_joinRow := goodIn_r _ [6, 2, 7, 8, 9, 5, 10, 11, 12, 13, 14, 15, 16, 17, 3, 4, 18, 19, 20, 21, 22, 23, 24, 25, 26, 27, 28, 29, 30, 31, 32, 33, 34, 35, 36, 37, 38, 39, 40, 41, 42, 43, 44, 45, 46, 47, 48, 49, 50, 51, 52, 53, 54, 55, 56, 57, 58, 59, 60, 61, 62, 63, 64, 65, 66, 67, 68] (by decide +kernel) (by decide +kernel)
set_option maxRecDepth 20000 in
theorem gX2_joinByCutting_X2_joinRow : GoodIn wsX2_joinByCutting (va_wsS RX2 83 yX2_joinRow wsX2_joinRow) := goodIn_app (goodIn_of _ (by decide +kernel)) ggX2_joinByCutting_X2_joinRow
theorem dX2_joinByCutting_0 : decode cX2_joinByCutting 0 = .ok (.iconst 0, 1) := by decide +kernel
theorem dX2_joinByCutting_1 : decode cX2_joinByCutting 1 = .ok (.istore_n 2, 1) := by decide +kernel
theorem dX2_joinByCutting_2 : decode cX2_joinByCutting 2 = .ok (.iload_n 2, 1) := by decide +kernel
theorem dX2_joinByCutting_3 : decode cX2_joinByCutting 3 = .ok (.aload_n 0, 1) := by decide +kernel
theorem dX2_joinByCutting_4 : decode cX2_joinByCutting 4 = .ok (.getfield 48, 3) := by decide +kernel
theorem dX2_joinByCutting_7 : decode cX2_joinByCutting 7 = .ok (.if_icmp .ge 16, 3) := by decide +kernel
theorem dX2_joinByCutting_10 : decode cX2_joinByCutting 10 = .ok (.aload_n 0, 1) := by decide +kernel
theorem dX2_joinByCutting_11 : decode cX2_joinByCutting 11 = .ok (.getfield 45, 3) := by decide +kernel
theorem dX2_joinByCutting_14 : decode cX2_joinByCutting 14 = .ok (.iload_n 2, 1) := by decide +kernel
theorem dX2_joinByCutting_15 : decode cX2_joinByCutting 15 = .ok (.iload_n 2, 1) := by decide +kernel
theorem dX2_joinByCutting_16 : decode cX2_joinByCutting 16 = .ok (.iastore, 1) := by decide +kernel
theorem dX2_joinByCutting_17 : decode cX2_joinByCutting 17 = .ok (.iinc 2 1, 3) := by decide +kernel
theorem dX2_joinByCutting_20 : decode cX2_joinByCutting 20 = .ok (.goto (-18), 3) := by decide +kernel
theorem dX2_joinByCutting_23 : decode cX2_joinByCutting 23 = .ok (.aload_n 0, 1) := by decide +kernel
theorem dX2_joinByCutting_24 : decode cX2_joinByCutting 24 = .ok (.aload_n 1, 1) := by decide +kernel
theorem dX2_joinByCutting_25 : decode cX2_joinByCutting 25 = .ok (.iconst 0, 1) := by decide +kernel
theorem dX2_joinByCutting_26 : decode cX2_joinByCutting 26 = .ok (.aload_n 0, 1) := by decide +kernel
theorem dX2_joinByCutting_27 : decode cX2_joinByCutting 27 = .ok (.getfield 48, 3) := by decide +kernel
theorem dX2_joinByCutting_30 : decode cX2_joinByCutting 30 = .ok (.iconst 0, 1) := by decide +kernel
theorem dX2_joinByCutting_31 : decode cX2_joinByCutting 31 = .ok (.invokestatic 83, 3) := by decide +kernel
theorem dX2_joinByCutting_34 : decode cX2_joinByCutting 34 = .ok (.pop, 1) := by decide +kernel
theorem dX2_joinByCutting_35 : decode cX2_joinByCutting 35 = .ok (.return_, 1) := by decide +kernel
set_option maxRecDepth 20000 in
theorem ggX2_joinRow_X2_orderRow : GoodIn wsX2_joinRow wsX2_orderRow := goodIn_r _ [6, 1, 7, 8, 9, 10, 11, 12, 13, 48, 49, 50, 51, 52, 53, 54, 55, 56, 57, 58, 59, 60, 61, 62, 63, 64, 65, 66] (by decide +kernel) (by decide +kernel)
set_option maxRecDepth 20000 in
theorem gX2_joinRow_X2_orderRow : GoodIn wsX2_joinRow (wsV RX2 87 RX2 yX2_orderRow wsX2_orderRow) := goodIn_app (goodIn_of _ (by decide +kernel)) ggX2_joinRow_X2_orderRow
set_option maxRecDepth 20000 in
theorem ggX2_joinRow_X2_joinRow : GoodIn wsX2_joinRow wsX2_joinRow := goodIn_r _ [0, 1, 2, 3, 4, 5, 6, 7, 8, 9, 10, 11, 12, 13, 14, 15, 16, 17, 18, 19, 20, 21, 22, 23, 24, 25, 26, 27, 28, 29, 30, 31, 32, 33, 34, 35, 36, 37, 38, 39, 40, 41, 42, 43, 44, 45, 46, 47, 48, 49, 50, 51, 52, 53, 54, 55, 56, 57, 58, 59, 60, 61, 62, 63, 64, 65, 66] (by decide +kernel) (by decide +kernel)
set_option maxRecDepth 20000 in
theorem gX2_joinRow_X2_joinRow : GoodIn wsX2_joinRow (va_wsS RX2 83 yX2_joinRow wsX2_joinRow) := goodIn_app (goodIn_of _ (by decide +kernel)) ggX2_joinRow_X2_joinRow
set_option maxRecDepth 20000 in
theorem ggX2_joinRow_X2_joinTwo : GoodIn wsX2_joinRow wsX2_joinTwo := goodIn_r _ [19, 20, 21, 22, 23, 24, 25, 26, 27, 28, 29, 30, 31, 32, 33, 34, 35, 36, 37, 38, 39, 5, 40, 41, 42, 43, 44, 45, 46, 47, 48, 49, 50, 51, 52, 53, 54, 55, 56, 57, 58, 59, 60, 61] (by decide +kernel) (by decide +kernel)
set_option maxRecDepth 20000 in
theorem gX2_joinRow_X2_joinTwo : GoodIn wsX2_joinRow (wsV RX2 80 RX2 yX2_joinTwo wsX2_joinTwo) := goodIn_app (goodIn_of _ (by decide +kernel)) ggX2_joinRow_X2_joinTwo
theorem dX2_joinRow_0 : decode cX2_joinRow 0 = .ok (.iload_n 3, 1) := by decide +kernel
theorem dX2_joinRow_1 : decode cX2_joinRow 1 = .ok (.iload_n 2, 1) := by decide +kernel
theorem dX2_joinRow_2 : decode cX2_joinRow 2 = .ok (.isub, 1) := by decide +kernel
theorem dX2_joinRow_3 : decode cX2_joinRow 3 = .ok (.iconst 2, 1) := by decide +kernel
theorem dX2_joinRow_4 : decode cX2_joinRow 4 = .ok (.if_icmp .lt 10, 3) := by decide +kernel
theorem dX2_joinRow_7 : decode cX2_joinRow 7 = .ok (.iload 4, 2) := by decide +kernel
theorem dX2_joinRow_9 : decode cX2_joinRow 9 = .ok (.bipush 10, 2) := by decide +kernel
theorem dX2_joinRow_11 : decode cX2_joinRow 11 = .ok (.if_icmp .lt 10, 3) := by decide +kernel
theorem dX2_joinRow_14 : decode cX2_joinRow 14 = .ok (.aload_n 0, 1) := by decide +kernel
theorem dX2_joinRow_15 : decode cX2_joinRow 15 = .ok (.getfield 45, 3) := by decide +kernel
theorem dX2_joinRow_18 : decode cX2_joinRow 18 = .ok (.iload_n 2, 1) := by decide +kernel
theorem dX2_joinRow_19 : decode cX2_joinRow 19 = .ok (.iaload, 1) := by decide +kernel
theorem dX2_joinRow_20 : decode cX2_joinRow 20 = .ok (.ireturn, 1) := by decide +kernel
theorem dX2_joinRow_21 : decode cX2_joinRow 21 = .ok (.aload_n 0, 1) := by decide +kernel
theorem dX2_joinRow_22 : decode cX2_joinRow 22 = .ok (.aload_n 1, 1) := by decide +kernel
theorem dX2_joinRow_23 : decode cX2_joinRow 23 = .ok (.iload_n 2, 1) := by decide +kernel
theorem dX2_joinRow_24 : decode cX2_joinRow 24 = .ok (.iload_n 3, 1) := by decide +kernel
theorem dX2_joinRow_25 : decode cX2_joinRow 25 = .ok (.iload 4, 2) := by decide +kernel
theorem dX2_joinRow_27 : decode cX2_joinRow 27 = .ok (.iconst 2, 1) := by decide +kernel
theorem dX2_joinRow_28 : decode cX2_joinRow 28 = .ok (.irem, 1) := by decide +kernel
theorem dX2_joinRow_29 : decode cX2_joinRow 29 = .ok (.ifCond .ne 7, 3) := by decide +kernel
theorem dX2_joinRow_32 : decode cX2_joinRow 32 = .ok (.iconst 1, 1) := by decide +kernel
theorem dX2_joinRow_33 : decode cX2_joinRow 33 = .ok (.goto 4, 3) := by decide +kernel
theorem dX2_joinRow_36 : decode cX2_joinRow 36 = .ok (.iconst 0, 1) := by decide +kernel
theorem dX2_joinRow_37 : decode cX2_joinRow 37 = .ok (.invokevirtual 87, 3) := by decide +kernel
theorem dX2_joinRow_40 : decode cX2_joinRow 40 = .ok (.iload_n 2, 1) := by decide +kernel
theorem dX2_joinRow_41 : decode cX2_joinRow 41 = .ok (.iload_n 3, 1) := by decide +kernel
theorem dX2_joinRow_42 : decode cX2_joinRow 42 = .ok (.iload_n 2, 1) := by decide +kernel
theorem dX2_joinRow_43 : decode cX2_joinRow 43 = .ok (.isub, 1) := by decide +kernel
theorem dX2_joinRow_44 : decode cX2_joinRow 44 = .ok (.iconst 1, 1) := by decide +kernel
theorem dX2_joinRow_45 : decode cX2_joinRow 45 = .ok (.iadd, 1) := by decide +kernel
theorem dX2_joinRow_46 : decode cX2_joinRow 46 = .ok (.iconst 2, 1) := by decide +kernel
theorem dX2_joinRow_47 : decode cX2_joinRow 47 = .ok (.idiv, 1) := by decide +kernel
theorem dX2_joinRow_48 : decode cX2_joinRow 48 = .ok (.iadd, 1) := by decide +kernel
theorem dX2_joinRow_49 : decode cX2_joinRow 49 = .ok (.istore 5, 2) := by decide +kernel
theorem dX2_joinRow_51 : decode cX2_joinRow 51 = .ok (.aload_n 0, 1) := by decide +kernel
theorem dX2_joinRow_52 : decode cX2_joinRow 52 = .ok (.aload_n 1, 1) := by decide +kernel
theorem dX2_joinRow_53 : decode cX2_joinRow 53 = .ok (.iload_n 2, 1) := by decide +kernel
theorem dX2_joinRow_54 : decode cX2_joinRow 54 = .ok (.iload 5, 2) := by decide +kernel
theorem dX2_joinRow_56 : decode cX2_joinRow 56 = .ok (.iload 4, 2) := by decide +kernel
theorem dX2_joinRow_58 : decode cX2_joinRow 58 = .ok (.iconst 1, 1) := by decide +kernel
theorem dX2_joinRow_59 : decode cX2_joinRow 59 = .ok (.iadd, 1) := by decide +kernel
theorem dX2_joinRow_60 : decode cX2_joinRow 60 = .ok (.invokestatic 83, 3) := by decide +kernel
theorem dX2_joinRow_63 : decode cX2_joinRow 63 = .ok (.istore 6, 2) := by decide +kernel
theorem dX2_joinRow_65 : decode cX2_joinRow 65 = .ok (.aload_n 0, 1) := by decide +kernel
theorem dX2_joinRow_66 : decode cX2_joinRow 66 = .ok (.aload_n 1, 1) := by decide +kernel
theorem dX2_joinRow_67 : decode cX2_joinRow 67 = .ok (.iload 5, 2) := by decide +kernel
theorem dX2_joinRow_69 : decode cX2_joinRow 69 = .ok (.iload_n 3, 1) := by decide +kernel
theorem dX2_joinRow_70 : decode cX2_joinRow 70 = .ok (.iload 4, 2) := by decide +kernel
theorem dX2_joinRow_72 : decode cX2_joinRow 72 = .ok (.iconst 1, 1) := by decide +kernel
theorem dX2_joinRow_73 : decode cX2_joinRow 73 = .ok (.iadd, 1) := by decide +kernel
theorem dX2_joinRow_74 : decode cX2_joinRow 74 = .ok (.invokestatic 83, 3) := by decide +kernel
theorem dX2_joinRow_77 : decode cX2_joinRow 77 = .ok (.istore 7, 2) := by decide +kernel
theorem dX2_joinRow_79 : decode cX2_joinRow 79 = .ok (.aload_n 0, 1) := by decide +kernel
theorem dX2_joinRow_80 : decode cX2_joinRow 80 = .ok (.iload 6, 2) := by decide +kernel
theorem dX2_joinRow_82 : decode cX2_joinRow 82 = .ok (.iload 7, 2) := by decide +kernel
theorem dX2_joinRow_84 : decode cX2_joinRow 84 = .ok (.invokevirtual 80, 3) := by decide +kernel
theorem dX2_joinRow_87 : decode cX2_joinRow 87 = .ok (.ireturn, 1) := by decide +kernel
set_option maxRecDepth 20000 in
theorem ggX2_orderRow_X1_isBefore : GoodIn wsX2_orderRow wsX1_isBefore := goodIn_r _ [6, 7, 8, 23, 24, 25, 26, 27] (by decide +kernel) (by decide +kernel)
set_option maxRecDepth 20000 in
theorem gX2_orderRow_X1_isBefore : GoodIn wsX2_orderRow (wsV RX2 91 RX1 yX1_isBefore wsX1_isBefore) := goodIn_app (goodIn_of _ (by decide +kernel)) ggX2_orderRow_X1_isBefore
theorem dX2_orderRow_0 : decode cX2_orderRow 0 = .ok (.iload_n 2, 1) := by decide +kernel
theorem dX2_orderRow_1 : decode cX2_orderRow 1 = .ok (.iconst 1, 1) := by decide +kernel
theorem dX2_orderRow_2 : decode cX2_orderRow 2 = .ok (.iadd, 1) := by decide +kernel
theorem dX2_orderRow_3 : decode cX2_orderRow 3 = .ok (.istore 5, 2) := by decide +kernel
theorem dX2_orderRow_5 : decode cX2_orderRow 5 = .ok (.iload 5, 2) := by decide +kernel
theorem dX2_orderRow_7 : decode cX2_orderRow 7 = .ok (.iload_n 3, 1) := by decide +kernel
theorem dX2_orderRow_8 : decode cX2_orderRow 8 = .ok (.if_icmp .ge 79, 3) := by decide +kernel
theorem dX2_orderRow_11 : decode cX2_orderRow 11 = .ok (.aload_n 0, 1) := by decide +kernel
theorem dX2_orderRow_12 : decode cX2_orderRow 12 = .ok (.getfield 45, 3) := by decide +kernel
theorem dX2_orderRow_15 : decode cX2_orderRow 15 = .ok (.iload 5, 2) := by decide +kernel
theorem dX2_orderRow_17 : decode cX2_orderRow 17 = .ok (.iaload, 1) := by decide +kernel
theorem dX2_orderRow_18 : decode cX2_orderRow 18 = .ok (.istore 6, 2) := by decide +kernel
theorem dX2_orderRow_20 : decode cX2_orderRow 20 = .ok (.iload 5, 2) := by decide +kernel
theorem dX2_orderRow_22 : decode cX2_orderRow 22 = .ok (.istore 7, 2) := by decide +kernel
theorem dX2_orderRow_24 : decode cX2_orderRow 24 = .ok (.iload 7, 2) := by decide +kernel
theorem dX2_orderRow_26 : decode cX2_orderRow 26 = .ok (.iload_n 2, 1) := by decide +kernel
theorem dX2_orderRow_27 : decode cX2_orderRow 27 = .ok (.if_icmp .le 45, 3) := by decide +kernel
theorem dX2_orderRow_30 : decode cX2_orderRow 30 = .ok (.aload_n 1, 1) := by decide +kernel
theorem dX2_orderRow_31 : decode cX2_orderRow 31 = .ok (.iload 6, 2) := by decide +kernel
theorem dX2_orderRow_33 : decode cX2_orderRow 33 = .ok (.aload_n 0, 1) := by decide +kernel
theorem dX2_orderRow_34 : decode cX2_orderRow 34 = .ok (.getfield 45, 3) := by decide +kernel
theorem dX2_orderRow_37 : decode cX2_orderRow 37 = .ok (.iload 7, 2) := by decide +kernel
theorem dX2_orderRow_39 : decode cX2_orderRow 39 = .ok (.iconst 1, 1) := by decide +kernel
theorem dX2_orderRow_40 : decode cX2_orderRow 40 = .ok (.isub, 1) := by decide +kernel
theorem dX2_orderRow_41 : decode cX2_orderRow 41 = .ok (.iaload, 1) := by decide +kernel
theorem dX2_orderRow_42 : decode cX2_orderRow 42 = .ok (.iload 4, 2) := by decide +kernel
theorem dX2_orderRow_44 : decode cX2_orderRow 44 = .ok (.invokevirtual 91, 3) := by decide +kernel
theorem dX2_orderRow_47 : decode cX2_orderRow 47 = .ok (.ifCond .eq 25, 3) := by decide +kernel
theorem dX2_orderRow_50 : decode cX2_orderRow 50 = .ok (.aload_n 0, 1) := by decide +kernel
theorem dX2_orderRow_51 : decode cX2_orderRow 51 = .ok (.getfield 45, 3) := by decide +kernel
theorem dX2_orderRow_54 : decode cX2_orderRow 54 = .ok (.iload 7, 2) := by decide +kernel
theorem dX2_orderRow_56 : decode cX2_orderRow 56 = .ok (.aload_n 0, 1) := by decide +kernel
theorem dX2_orderRow_57 : decode cX2_orderRow 57 = .ok (.getfield 45, 3) := by decide +kernel
theorem dX2_orderRow_60 : decode cX2_orderRow 60 = .ok (.iload 7, 2) := by decide +kernel
theorem dX2_orderRow_62 : decode cX2_orderRow 62 = .ok (.iconst 1, 1) := by decide +kernel
theorem dX2_orderRow_63 : decode cX2_orderRow 63 = .ok (.isub, 1) := by decide +kernel
theorem dX2_orderRow_64 : decode cX2_orderRow 64 = .ok (.iaload, 1) := by decide +kernel
theorem dX2_orderRow_65 : decode cX2_orderRow 65 = .ok (.iastore, 1) := by decide +kernel
theorem dX2_orderRow_66 : decode cX2_orderRow 66 = .ok (.iinc 7 (-1), 3) := by decide +kernel
theorem dX2_orderRow_69 : decode cX2_orderRow 69 = .ok (.goto (-45), 3) := by decide +kernel
theorem dX2_orderRow_72 : decode cX2_orderRow 72 = .ok (.aload_n 0, 1) := by decide +kernel
theorem dX2_orderRow_73 : decode cX2_orderRow 73 = .ok (.getfield 45, 3) := by decide +kernel
theorem dX2_orderRow_76 : decode cX2_orderRow 76 = .ok (.iload 7, 2) := by decide +kernel
theorem dX2_orderRow_78 : decode cX2_orderRow 78 = .ok (.iload 6, 2) := by decide +kernel
theorem dX2_orderRow_80 : decode cX2_orderRow 80 = .ok (.iastore, 1) := by decide +kernel
theorem dX2_orderRow_81 : decode cX2_orderRow 81 = .ok (.iinc 5 1, 3) := by decide +kernel
theorem dX2_orderRow_84 : decode cX2_orderRow 84 = .ok (.goto (-79), 3) := by decide +kernel
theorem dX2_orderRow_87 : decode cX2_orderRow 87 = .ok (.return_, 1) := by decide +kernel
set_option maxRecDepth 20000 in
theorem ggX2_distanceOf_X2_gapOf : GoodIn wsX2_distanceOf wsX2_gapOf := goodIn_r _ [12, 5, 6, 7, 8] (by decide +kernel) (by decide +kernel)
set_option maxRecDepth 20000 in
theorem gX2_distanceOf_X2_gapOf : GoodIn wsX2_distanceOf (va_wsS RX2 95 yX2_gapOf wsX2_gapOf) := goodIn_app (goodIn_of _ (by decide +kernel)) ggX2_distanceOf_X2_gapOf
theorem dX2_distanceOf_0 : decode cX2_distanceOf 0 = .ok (.aload_n 0, 1) := by decide +kernel
theorem dX2_distanceOf_1 : decode cX2_distanceOf 1 = .ok (.getfield 21, 3) := by decide +kernel
theorem dX2_distanceOf_4 : decode cX2_distanceOf 4 = .ok (.iload_n 1, 1) := by decide +kernel
theorem dX2_distanceOf_5 : decode cX2_distanceOf 5 = .ok (.iaload, 1) := by decide +kernel
theorem dX2_distanceOf_6 : decode cX2_distanceOf 6 = .ok (.aload_n 0, 1) := by decide +kernel
theorem dX2_distanceOf_7 : decode cX2_distanceOf 7 = .ok (.getfield 24, 3) := by decide +kernel
theorem dX2_distanceOf_10 : decode cX2_distanceOf 10 = .ok (.iload_n 1, 1) := by decide +kernel
theorem dX2_distanceOf_11 : decode cX2_distanceOf 11 = .ok (.iaload, 1) := by decide +kernel
theorem dX2_distanceOf_12 : decode cX2_distanceOf 12 = .ok (.aload_n 0, 1) := by decide +kernel
theorem dX2_distanceOf_13 : decode cX2_distanceOf 13 = .ok (.getfield 21, 3) := by decide +kernel
theorem dX2_distanceOf_16 : decode cX2_distanceOf 16 = .ok (.iload_n 2, 1) := by decide +kernel
theorem dX2_distanceOf_17 : decode cX2_distanceOf 17 = .ok (.iaload, 1) := by decide +kernel
theorem dX2_distanceOf_18 : decode cX2_distanceOf 18 = .ok (.aload_n 0, 1) := by decide +kernel
theorem dX2_distanceOf_19 : decode cX2_distanceOf 19 = .ok (.getfield 24, 3) := by decide +kernel
theorem dX2_distanceOf_22 : decode cX2_distanceOf 22 = .ok (.iload_n 2, 1) := by decide +kernel
theorem dX2_distanceOf_23 : decode cX2_distanceOf 23 = .ok (.iaload, 1) := by decide +kernel
theorem dX2_distanceOf_24 : decode cX2_distanceOf 24 = .ok (.invokestatic 95, 3) := by decide +kernel
theorem dX2_distanceOf_27 : decode cX2_distanceOf 27 = .ok (.istore_n 3, 1) := by decide +kernel
theorem dX2_distanceOf_28 : decode cX2_distanceOf 28 = .ok (.aload_n 0, 1) := by decide +kernel
theorem dX2_distanceOf_29 : decode cX2_distanceOf 29 = .ok (.getfield 27, 3) := by decide +kernel
theorem dX2_distanceOf_32 : decode cX2_distanceOf 32 = .ok (.iload_n 1, 1) := by decide +kernel
theorem dX2_distanceOf_33 : decode cX2_distanceOf 33 = .ok (.iaload, 1) := by decide +kernel
theorem dX2_distanceOf_34 : decode cX2_distanceOf 34 = .ok (.aload_n 0, 1) := by decide +kernel
theorem dX2_distanceOf_35 : decode cX2_distanceOf 35 = .ok (.getfield 30, 3) := by decide +kernel
theorem dX2_distanceOf_38 : decode cX2_distanceOf 38 = .ok (.iload_n 1, 1) := by decide +kernel
theorem dX2_distanceOf_39 : decode cX2_distanceOf 39 = .ok (.iaload, 1) := by decide +kernel
theorem dX2_distanceOf_40 : decode cX2_distanceOf 40 = .ok (.aload_n 0, 1) := by decide +kernel
theorem dX2_distanceOf_41 : decode cX2_distanceOf 41 = .ok (.getfield 27, 3) := by decide +kernel
theorem dX2_distanceOf_44 : decode cX2_distanceOf 44 = .ok (.iload_n 2, 1) := by decide +kernel
theorem dX2_distanceOf_45 : decode cX2_distanceOf 45 = .ok (.iaload, 1) := by decide +kernel
theorem dX2_distanceOf_46 : decode cX2_distanceOf 46 = .ok (.aload_n 0, 1) := by decide +kernel
theorem dX2_distanceOf_47 : decode cX2_distanceOf 47 = .ok (.getfield 30, 3) := by decide +kernel
theorem dX2_distanceOf_50 : decode cX2_distanceOf 50 = .ok (.iload_n 2, 1) := by decide +kernel
theorem dX2_distanceOf_51 : decode cX2_distanceOf 51 = .ok (.iaload, 1) := by decide +kernel
theorem dX2_distanceOf_52 : decode cX2_distanceOf 52 = .ok (.invokestatic 95, 3) := by decide +kernel
theorem dX2_distanceOf_55 : decode cX2_distanceOf 55 = .ok (.istore 4, 2) := by decide +kernel
theorem dX2_distanceOf_57 : decode cX2_distanceOf 57 = .ok (.iload_n 3, 1) := by decide +kernel
theorem dX2_distanceOf_58 : decode cX2_distanceOf 58 = .ok (.iload 4, 2) := by decide +kernel
theorem dX2_distanceOf_60 : decode cX2_distanceOf 60 = .ok (.invokestatic 99, 3) := by decide +kernel
theorem dX2_distanceOf_63 : decode cX2_distanceOf 63 = .ok (.ireturn, 1) := by decide +kernel
theorem dX2_gapOf_0 : decode cX2_gapOf 0 = .ok (.iconst 0, 1) := by decide +kernel
theorem dX2_gapOf_1 : decode cX2_gapOf 1 = .ok (.iload_n 0, 1) := by decide +kernel
theorem dX2_gapOf_2 : decode cX2_gapOf 2 = .ok (.iload_n 3, 1) := by decide +kernel
theorem dX2_gapOf_3 : decode cX2_gapOf 3 = .ok (.isub, 1) := by decide +kernel
theorem dX2_gapOf_4 : decode cX2_gapOf 4 = .ok (.iload_n 2, 1) := by decide +kernel
theorem dX2_gapOf_5 : decode cX2_gapOf 5 = .ok (.iload_n 1, 1) := by decide +kernel
theorem dX2_gapOf_6 : decode cX2_gapOf 6 = .ok (.isub, 1) := by decide +kernel
theorem dX2_gapOf_7 : decode cX2_gapOf 7 = .ok (.invokestatic 99, 3) := by decide +kernel
theorem dX2_gapOf_10 : decode cX2_gapOf 10 = .ok (.invokestatic 99, 3) := by decide +kernel
theorem dX2_gapOf_13 : decode cX2_gapOf 13 = .ok (.ireturn, 1) := by decide +kernel
set_option maxRecDepth 20000 in
theorem ggX2_joinTwo_X2_distanceOf : GoodIn wsX2_joinTwo wsX2_distanceOf := goodIn_r _ [22, 5, 11, 15, 16, 7, 8, 9, 10, 23, 24, 21, 25, 30, 31, 32, 33, 34, 35, 36, 37, 38, 39, 40, 41, 42, 43] (by decide +kernel) (by decide +kernel)
set_option maxRecDepth 20000 in
theorem gX2_joinTwo_X2_distanceOf : GoodIn wsX2_joinTwo (wsV RX2 77 RX2 yX2_distanceOf wsX2_distanceOf) := goodIn_app (goodIn_of _ (by decide +kernel)) ggX2_joinTwo_X2_distanceOf
set_option maxRecDepth 20000 in
theorem ggX2_joinTwo_X2_setWires : GoodIn wsX2_joinTwo wsX2_setWires := goodIn_r _ [29, 17, 6, 30, 31, 32, 33, 34, 35, 36, 37, 38, 39, 40, 41, 42, 43] (by decide +kernel) (by decide +kernel)
end
section
set_option maxRecDepth 20000 in
theorem gX2_joinTwo_X2_setWires : GoodIn wsX2_joinTwo (wsV RX2 104 RX2 yX2_setWires wsX2_setWires) := goodIn_app (goodIn_of _ (by decide +kernel)) ggX2_joinTwo_X2_setWires
theorem dX2_joinTwo_0 : decode cX2_joinTwo 0 = .ok (.aload_n 0, 1) := by decide +kernel
theorem dX2_joinTwo_1 : decode cX2_joinTwo 1 = .ok (.getfield 52, 3) := by decide +kernel
theorem dX2_joinTwo_4 : decode cX2_joinTwo 4 = .ok (.istore_n 3, 1) := by decide +kernel
theorem dX2_joinTwo_5 : decode cX2_joinTwo 5 = .ok (.aload_n 0, 1) := by decide +kernel
theorem dX2_joinTwo_6 : decode cX2_joinTwo 6 = .ok (.iload_n 1, 1) := by decide +kernel
theorem dX2_joinTwo_7 : decode cX2_joinTwo 7 = .ok (.iload_n 2, 1) := by decide +kernel
theorem dX2_joinTwo_8 : decode cX2_joinTwo 8 = .ok (.aload_n 0, 1) := by decide +kernel
theorem dX2_joinTwo_9 : decode cX2_joinTwo 9 = .ok (.iload_n 1, 1) := by decide +kernel
theorem dX2_joinTwo_10 : decode cX2_joinTwo 10 = .ok (.iload_n 2, 1) := by decide +kernel
theorem dX2_joinTwo_11 : decode cX2_joinTwo 11 = .ok (.invokevirtual 77, 3) := by decide +kernel
theorem dX2_joinTwo_14 : decode cX2_joinTwo 14 = .ok (.invokevirtual 104, 3) := by decide +kernel
theorem dX2_joinTwo_17 : decode cX2_joinTwo 17 = .ok (.aload_n 0, 1) := by decide +kernel
theorem dX2_joinTwo_18 : decode cX2_joinTwo 18 = .ok (.getfield 9, 3) := by decide +kernel
theorem dX2_joinTwo_21 : decode cX2_joinTwo 21 = .ok (.iload_n 3, 1) := by decide +kernel
theorem dX2_joinTwo_22 : decode cX2_joinTwo 22 = .ok (.iload_n 1, 1) := by decide +kernel
theorem dX2_joinTwo_23 : decode cX2_joinTwo 23 = .ok (.iastore, 1) := by decide +kernel
theorem dX2_joinTwo_24 : decode cX2_joinTwo 24 = .ok (.aload_n 0, 1) := by decide +kernel
theorem dX2_joinTwo_25 : decode cX2_joinTwo 25 = .ok (.getfield 15, 3) := by decide +kernel
theorem dX2_joinTwo_28 : decode cX2_joinTwo 28 = .ok (.iload_n 3, 1) := by decide +kernel
theorem dX2_joinTwo_29 : decode cX2_joinTwo 29 = .ok (.iload_n 2, 1) := by decide +kernel
theorem dX2_joinTwo_30 : decode cX2_joinTwo 30 = .ok (.iastore, 1) := by decide +kernel
theorem dX2_joinTwo_31 : decode cX2_joinTwo 31 = .ok (.aload_n 0, 1) := by decide +kernel
theorem dX2_joinTwo_32 : decode cX2_joinTwo 32 = .ok (.getfield 18, 3) := by decide +kernel
theorem dX2_joinTwo_35 : decode cX2_joinTwo 35 = .ok (.iload_n 3, 1) := by decide +kernel
theorem dX2_joinTwo_36 : decode cX2_joinTwo 36 = .ok (.iconst (-1), 1) := by decide +kernel
theorem dX2_joinTwo_37 : decode cX2_joinTwo 37 = .ok (.iastore, 1) := by decide +kernel
theorem dX2_joinTwo_38 : decode cX2_joinTwo 38 = .ok (.aload_n 0, 1) := by decide +kernel
theorem dX2_joinTwo_39 : decode cX2_joinTwo 39 = .ok (.getfield 18, 3) := by decide +kernel
theorem dX2_joinTwo_42 : decode cX2_joinTwo 42 = .ok (.iload_n 1, 1) := by decide +kernel
theorem dX2_joinTwo_43 : decode cX2_joinTwo 43 = .ok (.iload_n 3, 1) := by decide +kernel
theorem dX2_joinTwo_44 : decode cX2_joinTwo 44 = .ok (.iastore, 1) := by decide +kernel
theorem dX2_joinTwo_45 : decode cX2_joinTwo 45 = .ok (.aload_n 0, 1) := by decide +kernel
theorem dX2_joinTwo_46 : decode cX2_joinTwo 46 = .ok (.getfield 18, 3) := by decide +kernel
theorem dX2_joinTwo_49 : decode cX2_joinTwo 49 = .ok (.iload_n 2, 1) := by decide +kernel
theorem dX2_joinTwo_50 : decode cX2_joinTwo 50 = .ok (.iload_n 3, 1) := by decide +kernel
theorem dX2_joinTwo_51 : decode cX2_joinTwo 51 = .ok (.iastore, 1) := by decide +kernel
theorem dX2_joinTwo_52 : decode cX2_joinTwo 52 = .ok (.aload_n 0, 1) := by decide +kernel
theorem dX2_joinTwo_53 : decode cX2_joinTwo 53 = .ok (.getfield 21, 3) := by decide +kernel
theorem dX2_joinTwo_56 : decode cX2_joinTwo 56 = .ok (.iload_n 3, 1) := by decide +kernel
theorem dX2_joinTwo_57 : decode cX2_joinTwo 57 = .ok (.aload_n 0, 1) := by decide +kernel
theorem dX2_joinTwo_58 : decode cX2_joinTwo 58 = .ok (.getfield 21, 3) := by decide +kernel
theorem dX2_joinTwo_61 : decode cX2_joinTwo 61 = .ok (.iload_n 1, 1) := by decide +kernel
theorem dX2_joinTwo_62 : decode cX2_joinTwo 62 = .ok (.iaload, 1) := by decide +kernel
theorem dX2_joinTwo_63 : decode cX2_joinTwo 63 = .ok (.aload_n 0, 1) := by decide +kernel
theorem dX2_joinTwo_64 : decode cX2_joinTwo 64 = .ok (.getfield 36, 3) := by decide +kernel
theorem dX2_joinTwo_67 : decode cX2_joinTwo 67 = .ok (.iload_n 1, 1) := by decide +kernel
theorem dX2_joinTwo_68 : decode cX2_joinTwo 68 = .ok (.iaload, 1) := by decide +kernel
theorem dX2_joinTwo_69 : decode cX2_joinTwo 69 = .ok (.isub, 1) := by decide +kernel
theorem dX2_joinTwo_70 : decode cX2_joinTwo 70 = .ok (.aload_n 0, 1) := by decide +kernel
theorem dX2_joinTwo_71 : decode cX2_joinTwo 71 = .ok (.getfield 21, 3) := by decide +kernel
theorem dX2_joinTwo_74 : decode cX2_joinTwo 74 = .ok (.iload_n 2, 1) := by decide +kernel
theorem dX2_joinTwo_75 : decode cX2_joinTwo 75 = .ok (.iaload, 1) := by decide +kernel
theorem dX2_joinTwo_76 : decode cX2_joinTwo 76 = .ok (.aload_n 0, 1) := by decide +kernel
theorem dX2_joinTwo_77 : decode cX2_joinTwo 77 = .ok (.getfield 36, 3) := by decide +kernel
theorem dX2_joinTwo_80 : decode cX2_joinTwo 80 = .ok (.iload_n 2, 1) := by decide +kernel
theorem dX2_joinTwo_81 : decode cX2_joinTwo 81 = .ok (.iaload, 1) := by decide +kernel
theorem dX2_joinTwo_82 : decode cX2_joinTwo 82 = .ok (.isub, 1) := by decide +kernel
theorem dX2_joinTwo_83 : decode cX2_joinTwo 83 = .ok (.invokestatic 99, 3) := by decide +kernel
theorem dX2_joinTwo_86 : decode cX2_joinTwo 86 = .ok (.iastore, 1) := by decide +kernel
theorem dX2_joinTwo_87 : decode cX2_joinTwo 87 = .ok (.aload_n 0, 1) := by decide +kernel
theorem dX2_joinTwo_88 : decode cX2_joinTwo 88 = .ok (.getfield 24, 3) := by decide +kernel
theorem dX2_joinTwo_91 : decode cX2_joinTwo 91 = .ok (.iload_n 3, 1) := by decide +kernel
theorem dX2_joinTwo_92 : decode cX2_joinTwo 92 = .ok (.aload_n 0, 1) := by decide +kernel
theorem dX2_joinTwo_93 : decode cX2_joinTwo 93 = .ok (.getfield 24, 3) := by decide +kernel
theorem dX2_joinTwo_96 : decode cX2_joinTwo 96 = .ok (.iload_n 1, 1) := by decide +kernel
theorem dX2_joinTwo_97 : decode cX2_joinTwo 97 = .ok (.iaload, 1) := by decide +kernel
theorem dX2_joinTwo_98 : decode cX2_joinTwo 98 = .ok (.aload_n 0, 1) := by decide +kernel
theorem dX2_joinTwo_99 : decode cX2_joinTwo 99 = .ok (.getfield 36, 3) := by decide +kernel
theorem dX2_joinTwo_102 : decode cX2_joinTwo 102 = .ok (.iload_n 1, 1) := by decide +kernel
theorem dX2_joinTwo_103 : decode cX2_joinTwo 103 = .ok (.iaload, 1) := by decide +kernel
theorem dX2_joinTwo_104 : decode cX2_joinTwo 104 = .ok (.iadd, 1) := by decide +kernel
theorem dX2_joinTwo_105 : decode cX2_joinTwo 105 = .ok (.aload_n 0, 1) := by decide +kernel
theorem dX2_joinTwo_106 : decode cX2_joinTwo 106 = .ok (.getfield 24, 3) := by decide +kernel
theorem dX2_joinTwo_109 : decode cX2_joinTwo 109 = .ok (.iload_n 2, 1) := by decide +kernel
theorem dX2_joinTwo_110 : decode cX2_joinTwo 110 = .ok (.iaload, 1) := by decide +kernel
theorem dX2_joinTwo_111 : decode cX2_joinTwo 111 = .ok (.aload_n 0, 1) := by decide +kernel
theorem dX2_joinTwo_112 : decode cX2_joinTwo 112 = .ok (.getfield 36, 3) := by decide +kernel
theorem dX2_joinTwo_115 : decode cX2_joinTwo 115 = .ok (.iload_n 2, 1) := by decide +kernel
theorem dX2_joinTwo_116 : decode cX2_joinTwo 116 = .ok (.iaload, 1) := by decide +kernel
theorem dX2_joinTwo_117 : decode cX2_joinTwo 117 = .ok (.iadd, 1) := by decide +kernel
theorem dX2_joinTwo_118 : decode cX2_joinTwo 118 = .ok (.invokestatic 108, 3) := by decide +kernel
theorem dX2_joinTwo_121 : decode cX2_joinTwo 121 = .ok (.iastore, 1) := by decide +kernel
theorem dX2_joinTwo_122 : decode cX2_joinTwo 122 = .ok (.aload_n 0, 1) := by decide +kernel
theorem dX2_joinTwo_123 : decode cX2_joinTwo 123 = .ok (.getfield 27, 3) := by decide +kernel
theorem dX2_joinTwo_126 : decode cX2_joinTwo 126 = .ok (.iload_n 3, 1) := by decide +kernel
theorem dX2_joinTwo_127 : decode cX2_joinTwo 127 = .ok (.aload_n 0, 1) := by decide +kernel
theorem dX2_joinTwo_128 : decode cX2_joinTwo 128 = .ok (.getfield 27, 3) := by decide +kernel
theorem dX2_joinTwo_131 : decode cX2_joinTwo 131 = .ok (.iload_n 1, 1) := by decide +kernel
theorem dX2_joinTwo_132 : decode cX2_joinTwo 132 = .ok (.iaload, 1) := by decide +kernel
theorem dX2_joinTwo_133 : decode cX2_joinTwo 133 = .ok (.aload_n 0, 1) := by decide +kernel
theorem dX2_joinTwo_134 : decode cX2_joinTwo 134 = .ok (.getfield 36, 3) := by decide +kernel
theorem dX2_joinTwo_137 : decode cX2_joinTwo 137 = .ok (.iload_n 1, 1) := by decide +kernel
theorem dX2_joinTwo_138 : decode cX2_joinTwo 138 = .ok (.iaload, 1) := by decide +kernel
theorem dX2_joinTwo_139 : decode cX2_joinTwo 139 = .ok (.isub, 1) := by decide +kernel
theorem dX2_joinTwo_140 : decode cX2_joinTwo 140 = .ok (.aload_n 0, 1) := by decide +kernel
theorem dX2_joinTwo_141 : decode cX2_joinTwo 141 = .ok (.getfield 27, 3) := by decide +kernel
theorem dX2_joinTwo_144 : decode cX2_joinTwo 144 = .ok (.iload_n 2, 1) := by decide +kernel
theorem dX2_joinTwo_145 : decode cX2_joinTwo 145 = .ok (.iaload, 1) := by decide +kernel
theorem dX2_joinTwo_146 : decode cX2_joinTwo 146 = .ok (.aload_n 0, 1) := by decide +kernel
theorem dX2_joinTwo_147 : decode cX2_joinTwo 147 = .ok (.getfield 36, 3) := by decide +kernel
theorem dX2_joinTwo_150 : decode cX2_joinTwo 150 = .ok (.iload_n 2, 1) := by decide +kernel
theorem dX2_joinTwo_151 : decode cX2_joinTwo 151 = .ok (.iaload, 1) := by decide +kernel
theorem dX2_joinTwo_152 : decode cX2_joinTwo 152 = .ok (.isub, 1) := by decide +kernel
theorem dX2_joinTwo_153 : decode cX2_joinTwo 153 = .ok (.invokestatic 99, 3) := by decide +kernel
theorem dX2_joinTwo_156 : decode cX2_joinTwo 156 = .ok (.iastore, 1) := by decide +kernel
theorem dX2_joinTwo_157 : decode cX2_joinTwo 157 = .ok (.aload_n 0, 1) := by decide +kernel
theorem dX2_joinTwo_158 : decode cX2_joinTwo 158 = .ok (.getfield 30, 3) := by decide +kernel
theorem dX2_joinTwo_161 : decode cX2_joinTwo 161 = .ok (.iload_n 3, 1) := by decide +kernel
theorem dX2_joinTwo_162 : decode cX2_joinTwo 162 = .ok (.aload_n 0, 1) := by decide +kernel
theorem dX2_joinTwo_163 : decode cX2_joinTwo 163 = .ok (.getfield 30, 3) := by decide +kernel
theorem dX2_joinTwo_166 : decode cX2_joinTwo 166 = .ok (.iload_n 1, 1) := by decide +kernel
theorem dX2_joinTwo_167 : decode cX2_joinTwo 167 = .ok (.iaload, 1) := by decide +kernel
theorem dX2_joinTwo_168 : decode cX2_joinTwo 168 = .ok (.aload_n 0, 1) := by decide +kernel
theorem dX2_joinTwo_169 : decode cX2_joinTwo 169 = .ok (.getfield 36, 3) := by decide +kernel
theorem dX2_joinTwo_172 : decode cX2_joinTwo 172 = .ok (.iload_n 1, 1) := by decide +kernel
theorem dX2_joinTwo_173 : decode cX2_joinTwo 173 = .ok (.iaload, 1) := by decide +kernel
theorem dX2_joinTwo_174 : decode cX2_joinTwo 174 = .ok (.iadd, 1) := by decide +kernel
theorem dX2_joinTwo_175 : decode cX2_joinTwo 175 = .ok (.aload_n 0, 1) := by decide +kernel
theorem dX2_joinTwo_176 : decode cX2_joinTwo 176 = .ok (.getfield 30, 3) := by decide +kernel
theorem dX2_joinTwo_179 : decode cX2_joinTwo 179 = .ok (.iload_n 2, 1) := by decide +kernel
theorem dX2_joinTwo_180 : decode cX2_joinTwo 180 = .ok (.iaload, 1) := by decide +kernel
theorem dX2_joinTwo_181 : decode cX2_joinTwo 181 = .ok (.aload_n 0, 1) := by decide +kernel
theorem dX2_joinTwo_182 : decode cX2_joinTwo 182 = .ok (.getfield 36, 3) := by decide +kernel
theorem dX2_joinTwo_185 : decode cX2_joinTwo 185 = .ok (.iload_n 2, 1) := by decide +kernel
theorem dX2_joinTwo_186 : decode cX2_joinTwo 186 = .ok (.iaload, 1) := by decide +kernel
theorem dX2_joinTwo_187 : decode cX2_joinTwo 187 = .ok (.iadd, 1) := by decide +kernel
theorem dX2_joinTwo_188 : decode cX2_joinTwo 188 = .ok (.invokestatic 108, 3) := by decide +kernel
theorem dX2_joinTwo_191 : decode cX2_joinTwo 191 = .ok (.iastore, 1) := by decide +kernel
theorem dX2_joinTwo_192 : decode cX2_joinTwo 192 = .ok (.aload_n 0, 1) := by decide +kernel
theorem dX2_joinTwo_193 : decode cX2_joinTwo 193 = .ok (.getfield 33, 3) := by decide +kernel
theorem dX2_joinTwo_196 : decode cX2_joinTwo 196 = .ok (.iload_n 3, 1) := by decide +kernel
theorem dX2_joinTwo_197 : decode cX2_joinTwo 197 = .ok (.aload_n 0, 1) := by decide +kernel
theorem dX2_joinTwo_198 : decode cX2_joinTwo 198 = .ok (.getfield 33, 3) := by decide +kernel
theorem dX2_joinTwo_201 : decode cX2_joinTwo 201 = .ok (.iload_n 1, 1) := by decide +kernel
theorem dX2_joinTwo_202 : decode cX2_joinTwo 202 = .ok (.iaload, 1) := by decide +kernel
theorem dX2_joinTwo_203 : decode cX2_joinTwo 203 = .ok (.aload_n 0, 1) := by decide +kernel
theorem dX2_joinTwo_204 : decode cX2_joinTwo 204 = .ok (.getfield 36, 3) := by decide +kernel
theorem dX2_joinTwo_207 : decode cX2_joinTwo 207 = .ok (.iload_n 1, 1) := by decide +kernel
theorem dX2_joinTwo_208 : decode cX2_joinTwo 208 = .ok (.iaload, 1) := by decide +kernel
theorem dX2_joinTwo_209 : decode cX2_joinTwo 209 = .ok (.iadd, 1) := by decide +kernel
theorem dX2_joinTwo_210 : decode cX2_joinTwo 210 = .ok (.iastore, 1) := by decide +kernel
theorem dX2_joinTwo_211 : decode cX2_joinTwo 211 = .ok (.aload_n 0, 1) := by decide +kernel
theorem dX2_joinTwo_212 : decode cX2_joinTwo 212 = .ok (.iload_n 3, 1) := by decide +kernel
theorem dX2_joinTwo_213 : decode cX2_joinTwo 213 = .ok (.iconst 1, 1) := by decide +kernel
theorem dX2_joinTwo_214 : decode cX2_joinTwo 214 = .ok (.iadd, 1) := by decide +kernel
theorem dX2_joinTwo_215 : decode cX2_joinTwo 215 = .ok (.putfield 52, 3) := by decide +kernel
theorem dX2_joinTwo_218 : decode cX2_joinTwo 218 = .ok (.iload_n 3, 1) := by decide +kernel
theorem dX2_joinTwo_219 : decode cX2_joinTwo 219 = .ok (.ireturn, 1) := by decide +kernel
theorem dX2_setWires_0 : decode cX2_setWires 0 = .ok (.aload_n 0, 1) := by decide +kernel
theorem dX2_setWires_1 : decode cX2_setWires 1 = .ok (.getfield 33, 3) := by decide +kernel
theorem dX2_setWires_4 : decode cX2_setWires 4 = .ok (.iload_n 1, 1) := by decide +kernel
theorem dX2_setWires_5 : decode cX2_setWires 5 = .ok (.iaload, 1) := by decide +kernel
theorem dX2_setWires_6 : decode cX2_setWires 6 = .ok (.iload_n 3, 1) := by decide +kernel
theorem dX2_setWires_7 : decode cX2_setWires 7 = .ok (.aload_n 0, 1) := by decide +kernel
theorem dX2_setWires_8 : decode cX2_setWires 8 = .ok (.getfield 33, 3) := by decide +kernel
theorem dX2_setWires_11 : decode cX2_setWires 11 = .ok (.iload_n 2, 1) := by decide +kernel
theorem dX2_setWires_12 : decode cX2_setWires 12 = .ok (.iaload, 1) := by decide +kernel
theorem dX2_setWires_13 : decode cX2_setWires 13 = .ok (.iadd, 1) := by decide +kernel
theorem dX2_setWires_14 : decode cX2_setWires 14 = .ok (.if_icmp .le 32, 3) := by decide +kernel
theorem dX2_setWires_17 : decode cX2_setWires 17 = .ok (.aload_n 0, 1) := by decide +kernel
theorem dX2_setWires_18 : decode cX2_setWires 18 = .ok (.getfield 36, 3) := by decide +kernel
theorem dX2_setWires_21 : decode cX2_setWires 21 = .ok (.iload_n 1, 1) := by decide +kernel
theorem dX2_setWires_22 : decode cX2_setWires 22 = .ok (.iconst 0, 1) := by decide +kernel
theorem dX2_setWires_23 : decode cX2_setWires 23 = .ok (.iastore, 1) := by decide +kernel
theorem dX2_setWires_24 : decode cX2_setWires 24 = .ok (.aload_n 0, 1) := by decide +kernel
theorem dX2_setWires_25 : decode cX2_setWires 25 = .ok (.getfield 36, 3) := by decide +kernel
theorem dX2_setWires_28 : decode cX2_setWires 28 = .ok (.iload_n 2, 1) := by decide +kernel
theorem dX2_setWires_29 : decode cX2_setWires 29 = .ok (.aload_n 0, 1) := by decide +kernel
theorem dX2_setWires_30 : decode cX2_setWires 30 = .ok (.getfield 33, 3) := by decide +kernel
theorem dX2_setWires_33 : decode cX2_setWires 33 = .ok (.iload_n 1, 1) := by decide +kernel
theorem dX2_setWires_34 : decode cX2_setWires 34 = .ok (.iaload, 1) := by decide +kernel
theorem dX2_setWires_35 : decode cX2_setWires 35 = .ok (.aload_n 0, 1) := by decide +kernel
theorem dX2_setWires_36 : decode cX2_setWires 36 = .ok (.getfield 33, 3) := by decide +kernel
theorem dX2_setWires_39 : decode cX2_setWires 39 = .ok (.iload_n 2, 1) := by decide +kernel
theorem dX2_setWires_40 : decode cX2_setWires 40 = .ok (.iaload, 1) := by decide +kernel
theorem dX2_setWires_41 : decode cX2_setWires 41 = .ok (.isub, 1) := by decide +kernel
theorem dX2_setWires_42 : decode cX2_setWires 42 = .ok (.iastore, 1) := by decide +kernel
theorem dX2_setWires_43 : decode cX2_setWires 43 = .ok (.goto 86, 3) := by decide +kernel
theorem dX2_setWires_46 : decode cX2_setWires 46 = .ok (.aload_n 0, 1) := by decide +kernel
theorem dX2_setWires_47 : decode cX2_setWires 47 = .ok (.getfield 33, 3) := by decide +kernel
theorem dX2_setWires_50 : decode cX2_setWires 50 = .ok (.iload_n 2, 1) := by decide +kernel
theorem dX2_setWires_51 : decode cX2_setWires 51 = .ok (.iaload, 1) := by decide +kernel
theorem dX2_setWires_52 : decode cX2_setWires 52 = .ok (.iload_n 3, 1) := by decide +kernel
theorem dX2_setWires_53 : decode cX2_setWires 53 = .ok (.aload_n 0, 1) := by decide +kernel
theorem dX2_setWires_54 : decode cX2_setWires 54 = .ok (.getfield 33, 3) := by decide +kernel
theorem dX2_setWires_57 : decode cX2_setWires 57 = .ok (.iload_n 1, 1) := by decide +kernel
theorem dX2_setWires_58 : decode cX2_setWires 58 = .ok (.iaload, 1) := by decide +kernel
theorem dX2_setWires_59 : decode cX2_setWires 59 = .ok (.iadd, 1) := by decide +kernel
theorem dX2_setWires_60 : decode cX2_setWires 60 = .ok (.if_icmp .le 32, 3) := by decide +kernel
theorem dX2_setWires_63 : decode cX2_setWires 63 = .ok (.aload_n 0, 1) := by decide +kernel
theorem dX2_setWires_64 : decode cX2_setWires 64 = .ok (.getfield 36, 3) := by decide +kernel
theorem dX2_setWires_67 : decode cX2_setWires 67 = .ok (.iload_n 1, 1) := by decide +kernel
theorem dX2_setWires_68 : decode cX2_setWires 68 = .ok (.aload_n 0, 1) := by decide +kernel
theorem dX2_setWires_69 : decode cX2_setWires 69 = .ok (.getfield 33, 3) := by decide +kernel
theorem dX2_setWires_72 : decode cX2_setWires 72 = .ok (.iload_n 2, 1) := by decide +kernel
theorem dX2_setWires_73 : decode cX2_setWires 73 = .ok (.iaload, 1) := by decide +kernel
theorem dX2_setWires_74 : decode cX2_setWires 74 = .ok (.aload_n 0, 1) := by decide +kernel
theorem dX2_setWires_75 : decode cX2_setWires 75 = .ok (.getfield 33, 3) := by decide +kernel
theorem dX2_setWires_78 : decode cX2_setWires 78 = .ok (.iload_n 1, 1) := by decide +kernel
theorem dX2_setWires_79 : decode cX2_setWires 79 = .ok (.iaload, 1) := by decide +kernel
theorem dX2_setWires_80 : decode cX2_setWires 80 = .ok (.isub, 1) := by decide +kernel
theorem dX2_setWires_81 : decode cX2_setWires 81 = .ok (.iastore, 1) := by decide +kernel
theorem dX2_setWires_82 : decode cX2_setWires 82 = .ok (.aload_n 0, 1) := by decide +kernel
theorem dX2_setWires_83 : decode cX2_setWires 83 = .ok (.getfield 36, 3) := by decide +kernel
theorem dX2_setWires_86 : decode cX2_setWires 86 = .ok (.iload_n 2, 1) := by decide +kernel
theorem dX2_setWires_87 : decode cX2_setWires 87 = .ok (.iconst 0, 1) := by decide +kernel
theorem dX2_setWires_88 : decode cX2_setWires 88 = .ok (.iastore, 1) := by decide +kernel
theorem dX2_setWires_89 : decode cX2_setWires 89 = .ok (.goto 40, 3) := by decide +kernel
theorem dX2_setWires_92 : decode cX2_setWires 92 = .ok (.aload_n 0, 1) := by decide +kernel
theorem dX2_setWires_93 : decode cX2_setWires 93 = .ok (.getfield 36, 3) := by decide +kernel
theorem dX2_setWires_96 : decode cX2_setWires 96 = .ok (.iload_n 1, 1) := by decide +kernel
theorem dX2_setWires_97 : decode cX2_setWires 97 = .ok (.iload_n 3, 1) := by decide +kernel
theorem dX2_setWires_98 : decode cX2_setWires 98 = .ok (.aload_n 0, 1) := by decide +kernel
theorem dX2_setWires_99 : decode cX2_setWires 99 = .ok (.getfield 33, 3) := by decide +kernel
theorem dX2_setWires_102 : decode cX2_setWires 102 = .ok (.iload_n 2, 1) := by decide +kernel
theorem dX2_setWires_103 : decode cX2_setWires 103 = .ok (.iaload, 1) := by decide +kernel
theorem dX2_setWires_104 : decode cX2_setWires 104 = .ok (.iadd, 1) := by decide +kernel
theorem dX2_setWires_105 : decode cX2_setWires 105 = .ok (.aload_n 0, 1) := by decide +kernel
theorem dX2_setWires_106 : decode cX2_setWires 106 = .ok (.getfield 33, 3) := by decide +kernel
theorem dX2_setWires_109 : decode cX2_setWires 109 = .ok (.iload_n 1, 1) := by decide +kernel
theorem dX2_setWires_110 : decode cX2_setWires 110 = .ok (.iaload, 1) := by decide +kernel
theorem dX2_setWires_111 : decode cX2_setWires 111 = .ok (.isub, 1) := by decide +kernel
theorem dX2_setWires_112 : decode cX2_setWires 112 = .ok (.iconst 2, 1) := by decide +kernel
theorem dX2_setWires_113 : decode cX2_setWires 113 = .ok (.idiv, 1) := by decide +kernel
theorem dX2_setWires_114 : decode cX2_setWires 114 = .ok (.iastore, 1) := by decide +kernel
theorem dX2_setWires_115 : decode cX2_setWires 115 = .ok (.aload_n 0, 1) := by decide +kernel
theorem dX2_setWires_116 : decode cX2_setWires 116 = .ok (.getfield 36, 3) := by decide +kernel
theorem dX2_setWires_119 : decode cX2_setWires 119 = .ok (.iload_n 2, 1) := by decide +kernel
theorem dX2_setWires_120 : decode cX2_setWires 120 = .ok (.iload_n 3, 1) := by decide +kernel
theorem dX2_setWires_121 : decode cX2_setWires 121 = .ok (.aload_n 0, 1) := by decide +kernel
theorem dX2_setWires_122 : decode cX2_setWires 122 = .ok (.getfield 36, 3) := by decide +kernel
theorem dX2_setWires_125 : decode cX2_setWires 125 = .ok (.iload_n 1, 1) := by decide +kernel
theorem dX2_setWires_126 : decode cX2_setWires 126 = .ok (.iaload, 1) := by decide +kernel
theorem dX2_setWires_127 : decode cX2_setWires 127 = .ok (.isub, 1) := by decide +kernel
theorem dX2_setWires_128 : decode cX2_setWires 128 = .ok (.iastore, 1) := by decide +kernel
theorem dX2_setWires_129 : decode cX2_setWires 129 = .ok (.return_, 1) := by decide +kernel
set_option maxRecDepth 20000 in
theorem ggX2_choosePlaces_X2_standNear : GoodIn wsX2_choosePlaces wsX2_standNear := goodIn_r _ [17, 3, 18, 19, 20, 21, 6, 22, 9, 10, 11, 8, 23, 24, 25, 26, 27, 28, 29, 30, 31, 32, 33, 34, 35, 36, 37, 38] (by decide +kernel) (by decide +kernel)
set_option maxRecDepth 20000 in
theorem gX2_choosePlaces_X2_standNear : GoodIn wsX2_choosePlaces (wsV RX2 111 RX2 yX2_standNear wsX2_standNear) := goodIn_app (goodIn_of _ (by decide +kernel)) ggX2_choosePlaces_X2_standNear
theorem dX2_choosePlaces_0 : decode cX2_choosePlaces 0 = .ok (.aload_n 0, 1) := by decide +kernel
theorem dX2_choosePlaces_1 : decode cX2_choosePlaces 1 = .ok (.getfield 52, 3) := by decide +kernel
theorem dX2_choosePlaces_4 : decode cX2_choosePlaces 4 = .ok (.iconst 1, 1) := by decide +kernel
theorem dX2_choosePlaces_5 : decode cX2_choosePlaces 5 = .ok (.isub, 1) := by decide +kernel
theorem dX2_choosePlaces_6 : decode cX2_choosePlaces 6 = .ok (.istore_n 3, 1) := by decide +kernel
theorem dX2_choosePlaces_7 : decode cX2_choosePlaces 7 = .ok (.aload_n 0, 1) := by decide +kernel
theorem dX2_choosePlaces_8 : decode cX2_choosePlaces 8 = .ok (.iload_n 3, 1) := by decide +kernel
theorem dX2_choosePlaces_9 : decode cX2_choosePlaces 9 = .ok (.iload_n 1, 1) := by decide +kernel
theorem dX2_choosePlaces_10 : decode cX2_choosePlaces 10 = .ok (.iload_n 2, 1) := by decide +kernel
theorem dX2_choosePlaces_11 : decode cX2_choosePlaces 11 = .ok (.invokevirtual 111, 3) := by decide +kernel
theorem dX2_choosePlaces_14 : decode cX2_choosePlaces 14 = .ok (.aload_n 0, 1) := by decide +kernel
theorem dX2_choosePlaces_15 : decode cX2_choosePlaces 15 = .ok (.getfield 36, 3) := by decide +kernel
theorem dX2_choosePlaces_18 : decode cX2_choosePlaces 18 = .ok (.iload_n 3, 1) := by decide +kernel
theorem dX2_choosePlaces_19 : decode cX2_choosePlaces 19 = .ok (.aload_n 0, 1) := by decide +kernel
theorem dX2_choosePlaces_20 : decode cX2_choosePlaces 20 = .ok (.getfield 39, 3) := by decide +kernel
theorem dX2_choosePlaces_23 : decode cX2_choosePlaces 23 = .ok (.iload_n 3, 1) := by decide +kernel
theorem dX2_choosePlaces_24 : decode cX2_choosePlaces 24 = .ok (.iaload, 1) := by decide +kernel
theorem dX2_choosePlaces_25 : decode cX2_choosePlaces 25 = .ok (.iload_n 1, 1) := by decide +kernel
theorem dX2_choosePlaces_26 : decode cX2_choosePlaces 26 = .ok (.isub, 1) := by decide +kernel
theorem dX2_choosePlaces_27 : decode cX2_choosePlaces 27 = .ok (.invokestatic 114, 3) := by decide +kernel
theorem dX2_choosePlaces_30 : decode cX2_choosePlaces 30 = .ok (.aload_n 0, 1) := by decide +kernel
theorem dX2_choosePlaces_31 : decode cX2_choosePlaces 31 = .ok (.getfield 42, 3) := by decide +kernel
theorem dX2_choosePlaces_34 : decode cX2_choosePlaces 34 = .ok (.iload_n 3, 1) := by decide +kernel
theorem dX2_choosePlaces_35 : decode cX2_choosePlaces 35 = .ok (.iaload, 1) := by decide +kernel
theorem dX2_choosePlaces_36 : decode cX2_choosePlaces 36 = .ok (.iload_n 2, 1) := by decide +kernel
theorem dX2_choosePlaces_37 : decode cX2_choosePlaces 37 = .ok (.isub, 1) := by decide +kernel
theorem dX2_choosePlaces_38 : decode cX2_choosePlaces 38 = .ok (.invokestatic 114, 3) := by decide +kernel
theorem dX2_choosePlaces_41 : decode cX2_choosePlaces 41 = .ok (.invokestatic 99, 3) := by decide +kernel
theorem dX2_choosePlaces_44 : decode cX2_choosePlaces 44 = .ok (.iastore, 1) := by decide +kernel
theorem dX2_choosePlaces_45 : decode cX2_choosePlaces 45 = .ok (.iload_n 3, 1) := by decide +kernel
theorem dX2_choosePlaces_46 : decode cX2_choosePlaces 46 = .ok (.iconst 1, 1) := by decide +kernel
theorem dX2_choosePlaces_47 : decode cX2_choosePlaces 47 = .ok (.isub, 1) := by decide +kernel
theorem dX2_choosePlaces_48 : decode cX2_choosePlaces 48 = .ok (.istore 4, 2) := by decide +kernel
theorem dX2_choosePlaces_50 : decode cX2_choosePlaces 50 = .ok (.iload 4, 2) := by decide +kernel
theorem dX2_choosePlaces_52 : decode cX2_choosePlaces 52 = .ok (.ifCond .lt 39, 3) := by decide +kernel
theorem dX2_choosePlaces_55 : decode cX2_choosePlaces 55 = .ok (.aload_n 0, 1) := by decide +kernel
theorem dX2_choosePlaces_56 : decode cX2_choosePlaces 56 = .ok (.iload 4, 2) := by decide +kernel
theorem dX2_choosePlaces_58 : decode cX2_choosePlaces 58 = .ok (.aload_n 0, 1) := by decide +kernel
theorem dX2_choosePlaces_59 : decode cX2_choosePlaces 59 = .ok (.getfield 39, 3) := by decide +kernel
theorem dX2_choosePlaces_62 : decode cX2_choosePlaces 62 = .ok (.aload_n 0, 1) := by decide +kernel
theorem dX2_choosePlaces_63 : decode cX2_choosePlaces 63 = .ok (.getfield 18, 3) := by decide +kernel
theorem dX2_choosePlaces_66 : decode cX2_choosePlaces 66 = .ok (.iload 4, 2) := by decide +kernel
theorem dX2_choosePlaces_68 : decode cX2_choosePlaces 68 = .ok (.iaload, 1) := by decide +kernel
theorem dX2_choosePlaces_69 : decode cX2_choosePlaces 69 = .ok (.iaload, 1) := by decide +kernel
theorem dX2_choosePlaces_70 : decode cX2_choosePlaces 70 = .ok (.aload_n 0, 1) := by decide +kernel
theorem dX2_choosePlaces_71 : decode cX2_choosePlaces 71 = .ok (.getfield 42, 3) := by decide +kernel
theorem dX2_choosePlaces_74 : decode cX2_choosePlaces 74 = .ok (.aload_n 0, 1) := by decide +kernel
theorem dX2_choosePlaces_75 : decode cX2_choosePlaces 75 = .ok (.getfield 18, 3) := by decide +kernel
theorem dX2_choosePlaces_78 : decode cX2_choosePlaces 78 = .ok (.iload 4, 2) := by decide +kernel
theorem dX2_choosePlaces_80 : decode cX2_choosePlaces 80 = .ok (.iaload, 1) := by decide +kernel
theorem dX2_choosePlaces_81 : decode cX2_choosePlaces 81 = .ok (.iaload, 1) := by decide +kernel
theorem dX2_choosePlaces_82 : decode cX2_choosePlaces 82 = .ok (.invokevirtual 111, 3) := by decide +kernel
theorem dX2_choosePlaces_85 : decode cX2_choosePlaces 85 = .ok (.iinc 4 (-1), 3) := by decide +kernel
theorem dX2_choosePlaces_88 : decode cX2_choosePlaces 88 = .ok (.goto (-38), 3) := by decide +kernel
theorem dX2_choosePlaces_91 : decode cX2_choosePlaces 91 = .ok (.return_, 1) := by decide +kernel
theorem dX2_standNear_0 : decode cX2_standNear 0 = .ok (.aload_n 0, 1) := by decide +kernel
theorem dX2_standNear_1 : decode cX2_standNear 1 = .ok (.getfield 39, 3) := by decide +kernel
theorem dX2_standNear_4 : decode cX2_standNear 4 = .ok (.iload_n 1, 1) := by decide +kernel
theorem dX2_standNear_5 : decode cX2_standNear 5 = .ok (.aload_n 0, 1) := by decide +kernel
theorem dX2_standNear_6 : decode cX2_standNear 6 = .ok (.getfield 21, 3) := by decide +kernel
theorem dX2_standNear_9 : decode cX2_standNear 9 = .ok (.iload_n 1, 1) := by decide +kernel
theorem dX2_standNear_10 : decode cX2_standNear 10 = .ok (.iaload, 1) := by decide +kernel
theorem dX2_standNear_11 : decode cX2_standNear 11 = .ok (.aload_n 0, 1) := by decide +kernel
theorem dX2_standNear_12 : decode cX2_standNear 12 = .ok (.getfield 24, 3) := by decide +kernel
theorem dX2_standNear_15 : decode cX2_standNear 15 = .ok (.iload_n 1, 1) := by decide +kernel
theorem dX2_standNear_16 : decode cX2_standNear 16 = .ok (.iaload, 1) := by decide +kernel
theorem dX2_standNear_17 : decode cX2_standNear 17 = .ok (.iload_n 2, 1) := by decide +kernel
theorem dX2_standNear_18 : decode cX2_standNear 18 = .ok (.invokestatic 108, 3) := by decide +kernel
theorem dX2_standNear_21 : decode cX2_standNear 21 = .ok (.invokestatic 99, 3) := by decide +kernel
theorem dX2_standNear_24 : decode cX2_standNear 24 = .ok (.iastore, 1) := by decide +kernel
theorem dX2_standNear_25 : decode cX2_standNear 25 = .ok (.aload_n 0, 1) := by decide +kernel
theorem dX2_standNear_26 : decode cX2_standNear 26 = .ok (.getfield 42, 3) := by decide +kernel
theorem dX2_standNear_29 : decode cX2_standNear 29 = .ok (.iload_n 1, 1) := by decide +kernel
theorem dX2_standNear_30 : decode cX2_standNear 30 = .ok (.aload_n 0, 1) := by decide +kernel
theorem dX2_standNear_31 : decode cX2_standNear 31 = .ok (.getfield 27, 3) := by decide +kernel
theorem dX2_standNear_34 : decode cX2_standNear 34 = .ok (.iload_n 1, 1) := by decide +kernel
theorem dX2_standNear_35 : decode cX2_standNear 35 = .ok (.iaload, 1) := by decide +kernel
theorem dX2_standNear_36 : decode cX2_standNear 36 = .ok (.aload_n 0, 1) := by decide +kernel
theorem dX2_standNear_37 : decode cX2_standNear 37 = .ok (.getfield 30, 3) := by decide +kernel
theorem dX2_standNear_40 : decode cX2_standNear 40 = .ok (.iload_n 1, 1) := by decide +kernel
theorem dX2_standNear_41 : decode cX2_standNear 41 = .ok (.iaload, 1) := by decide +kernel
theorem dX2_standNear_42 : decode cX2_standNear 42 = .ok (.iload_n 3, 1) := by decide +kernel
theorem dX2_standNear_43 : decode cX2_standNear 43 = .ok (.invokestatic 108, 3) := by decide +kernel
theorem dX2_standNear_46 : decode cX2_standNear 46 = .ok (.invokestatic 99, 3) := by decide +kernel
theorem dX2_standNear_49 : decode cX2_standNear 49 = .ok (.iastore, 1) := by decide +kernel
theorem dX2_standNear_50 : decode cX2_standNear 50 = .ok (.return_, 1) := by decide +kernel
theorem dX2_partOf_0 : decode cX2_partOf 0 = .ok (.iload_n 2, 1) := by decide +kernel
theorem dX2_partOf_1 : decode cX2_partOf 1 = .ok (.tableswitch 125 0 9 #[55, 62, 69, 76, 83, 90, 97, 104, 111, 118], 55) := by decide +kernel
theorem dX2_partOf_56 : decode cX2_partOf 56 = .ok (.aload_n 0, 1) := by decide +kernel
theorem dX2_partOf_57 : decode cX2_partOf 57 = .ok (.getfield 9, 3) := by decide +kernel
theorem dX2_partOf_60 : decode cX2_partOf 60 = .ok (.iload_n 1, 1) := by decide +kernel
theorem dX2_partOf_61 : decode cX2_partOf 61 = .ok (.iaload, 1) := by decide +kernel
theorem dX2_partOf_62 : decode cX2_partOf 62 = .ok (.ireturn, 1) := by decide +kernel
theorem dX2_partOf_63 : decode cX2_partOf 63 = .ok (.aload_n 0, 1) := by decide +kernel
theorem dX2_partOf_64 : decode cX2_partOf 64 = .ok (.getfield 15, 3) := by decide +kernel
theorem dX2_partOf_67 : decode cX2_partOf 67 = .ok (.iload_n 1, 1) := by decide +kernel
theorem dX2_partOf_68 : decode cX2_partOf 68 = .ok (.iaload, 1) := by decide +kernel
theorem dX2_partOf_69 : decode cX2_partOf 69 = .ok (.ireturn, 1) := by decide +kernel
theorem dX2_partOf_70 : decode cX2_partOf 70 = .ok (.aload_n 0, 1) := by decide +kernel
theorem dX2_partOf_71 : decode cX2_partOf 71 = .ok (.getfield 18, 3) := by decide +kernel
theorem dX2_partOf_74 : decode cX2_partOf 74 = .ok (.iload_n 1, 1) := by decide +kernel
theorem dX2_partOf_75 : decode cX2_partOf 75 = .ok (.iaload, 1) := by decide +kernel
theorem dX2_partOf_76 : decode cX2_partOf 76 = .ok (.ireturn, 1) := by decide +kernel
theorem dX2_partOf_77 : decode cX2_partOf 77 = .ok (.aload_n 0, 1) := by decide +kernel
theorem dX2_partOf_78 : decode cX2_partOf 78 = .ok (.getfield 21, 3) := by decide +kernel
theorem dX2_partOf_81 : decode cX2_partOf 81 = .ok (.iload_n 1, 1) := by decide +kernel
theorem dX2_partOf_82 : decode cX2_partOf 82 = .ok (.iaload, 1) := by decide +kernel
theorem dX2_partOf_83 : decode cX2_partOf 83 = .ok (.ireturn, 1) := by decide +kernel
theorem dX2_partOf_84 : decode cX2_partOf 84 = .ok (.aload_n 0, 1) := by decide +kernel
theorem dX2_partOf_85 : decode cX2_partOf 85 = .ok (.getfield 24, 3) := by decide +kernel
theorem dX2_partOf_88 : decode cX2_partOf 88 = .ok (.iload_n 1, 1) := by decide +kernel
theorem dX2_partOf_89 : decode cX2_partOf 89 = .ok (.iaload, 1) := by decide +kernel
theorem dX2_partOf_90 : decode cX2_partOf 90 = .ok (.ireturn, 1) := by decide +kernel
theorem dX2_partOf_91 : decode cX2_partOf 91 = .ok (.aload_n 0, 1) := by decide +kernel
theorem dX2_partOf_92 : decode cX2_partOf 92 = .ok (.getfield 27, 3) := by decide +kernel
theorem dX2_partOf_95 : decode cX2_partOf 95 = .ok (.iload_n 1, 1) := by decide +kernel
theorem dX2_partOf_96 : decode cX2_partOf 96 = .ok (.iaload, 1) := by decide +kernel
theorem dX2_partOf_97 : decode cX2_partOf 97 = .ok (.ireturn, 1) := by decide +kernel
theorem dX2_partOf_98 : decode cX2_partOf 98 = .ok (.aload_n 0, 1) := by decide +kernel
theorem dX2_partOf_99 : decode cX2_partOf 99 = .ok (.getfield 30, 3) := by decide +kernel
theorem dX2_partOf_102 : decode cX2_partOf 102 = .ok (.iload_n 1, 1) := by decide +kernel
theorem dX2_partOf_103 : decode cX2_partOf 103 = .ok (.iaload, 1) := by decide +kernel
theorem dX2_partOf_104 : decode cX2_partOf 104 = .ok (.ireturn, 1) := by decide +kernel
theorem dX2_partOf_105 : decode cX2_partOf 105 = .ok (.aload_n 0, 1) := by decide +kernel
theorem dX2_partOf_106 : decode cX2_partOf 106 = .ok (.getfield 33, 3) := by decide +kernel
theorem dX2_partOf_109 : decode cX2_partOf 109 = .ok (.iload_n 1, 1) := by decide +kernel
theorem dX2_partOf_110 : decode cX2_partOf 110 = .ok (.iaload, 1) := by decide +kernel
theorem dX2_partOf_111 : decode cX2_partOf 111 = .ok (.ireturn, 1) := by decide +kernel
theorem dX2_partOf_112 : decode cX2_partOf 112 = .ok (.aload_n 0, 1) := by decide +kernel
theorem dX2_partOf_113 : decode cX2_partOf 113 = .ok (.getfield 36, 3) := by decide +kernel
theorem dX2_partOf_116 : decode cX2_partOf 116 = .ok (.iload_n 1, 1) := by decide +kernel
theorem dX2_partOf_117 : decode cX2_partOf 117 = .ok (.iaload, 1) := by decide +kernel
theorem dX2_partOf_118 : decode cX2_partOf 118 = .ok (.ireturn, 1) := by decide +kernel
theorem dX2_partOf_119 : decode cX2_partOf 119 = .ok (.aload_n 0, 1) := by decide +kernel
theorem dX2_partOf_120 : decode cX2_partOf 120 = .ok (.getfield 39, 3) := by decide +kernel
theorem dX2_partOf_123 : decode cX2_partOf 123 = .ok (.iload_n 1, 1) := by decide +kernel
theorem dX2_partOf_124 : decode cX2_partOf 124 = .ok (.iaload, 1) := by decide +kernel
theorem dX2_partOf_125 : decode cX2_partOf 125 = .ok (.ireturn, 1) := by decide +kernel
theorem dX2_partOf_126 : decode cX2_partOf 126 = .ok (.aload_n 0, 1) := by decide +kernel
theorem dX2_partOf_127 : decode cX2_partOf 127 = .ok (.getfield 42, 3) := by decide +kernel
theorem dX2_partOf_130 : decode cX2_partOf 130 = .ok (.iload_n 1, 1) := by decide +kernel
theorem dX2_partOf_131 : decode cX2_partOf 131 = .ok (.iaload, 1) := by decide +kernel
theorem dX2_partOf_132 : decode cX2_partOf 132 = .ok (.ireturn, 1) := by decide +kernel
theorem dX2_wireSum_0 : decode cX2_wireSum 0 = .ok (.iconst 0, 1) := by decide +kernel
theorem dX2_wireSum_1 : decode cX2_wireSum 1 = .ok (.istore_n 1, 1) := by decide +kernel
theorem dX2_wireSum_2 : decode cX2_wireSum 2 = .ok (.iconst 0, 1) := by decide +kernel
theorem dX2_wireSum_3 : decode cX2_wireSum 3 = .ok (.istore_n 2, 1) := by decide +kernel
theorem dX2_wireSum_4 : decode cX2_wireSum 4 = .ok (.iload_n 2, 1) := by decide +kernel
theorem dX2_wireSum_5 : decode cX2_wireSum 5 = .ok (.aload_n 0, 1) := by decide +kernel
theorem dX2_wireSum_6 : decode cX2_wireSum 6 = .ok (.getfield 52, 3) := by decide +kernel
theorem dX2_wireSum_9 : decode cX2_wireSum 9 = .ok (.if_icmp .ge 18, 3) := by decide +kernel
theorem dX2_wireSum_12 : decode cX2_wireSum 12 = .ok (.iload_n 1, 1) := by decide +kernel
theorem dX2_wireSum_13 : decode cX2_wireSum 13 = .ok (.aload_n 0, 1) := by decide +kernel
theorem dX2_wireSum_14 : decode cX2_wireSum 14 = .ok (.getfield 36, 3) := by decide +kernel
theorem dX2_wireSum_17 : decode cX2_wireSum 17 = .ok (.iload_n 2, 1) := by decide +kernel
theorem dX2_wireSum_18 : decode cX2_wireSum 18 = .ok (.iaload, 1) := by decide +kernel
theorem dX2_wireSum_19 : decode cX2_wireSum 19 = .ok (.iadd, 1) := by decide +kernel
theorem dX2_wireSum_20 : decode cX2_wireSum 20 = .ok (.istore_n 1, 1) := by decide +kernel
theorem dX2_wireSum_21 : decode cX2_wireSum 21 = .ok (.iinc 2 1, 3) := by decide +kernel
theorem dX2_wireSum_24 : decode cX2_wireSum 24 = .ok (.goto (-20), 3) := by decide +kernel
theorem dX2_wireSum_27 : decode cX2_wireSum 27 = .ok (.iload_n 1, 1) := by decide +kernel
theorem dX2_wireSum_28 : decode cX2_wireSum 28 = .ok (.ireturn, 1) := by decide +kernel
theorem dX2_joinsAbove_0 : decode cX2_joinsAbove 0 = .ok (.iload_n 1, 1) := by decide +kernel
theorem dX2_joinsAbove_1 : decode cX2_joinsAbove 1 = .ok (.istore_n 2, 1) := by decide +kernel
theorem dX2_joinsAbove_2 : decode cX2_joinsAbove 2 = .ok (.iconst 0, 1) := by decide +kernel
theorem dX2_joinsAbove_3 : decode cX2_joinsAbove 3 = .ok (.istore_n 3, 1) := by decide +kernel
theorem dX2_joinsAbove_4 : decode cX2_joinsAbove 4 = .ok (.aload_n 0, 1) := by decide +kernel
theorem dX2_joinsAbove_5 : decode cX2_joinsAbove 5 = .ok (.getfield 48, 3) := by decide +kernel
theorem dX2_joinsAbove_8 : decode cX2_joinsAbove 8 = .ok (.istore 4, 2) := by decide +kernel
theorem dX2_joinsAbove_10 : decode cX2_joinsAbove 10 = .ok (.iload 4, 2) := by decide +kernel
theorem dX2_joinsAbove_12 : decode cX2_joinsAbove 12 = .ok (.aload_n 0, 1) := by decide +kernel
theorem dX2_joinsAbove_13 : decode cX2_joinsAbove 13 = .ok (.getfield 52, 3) := by decide +kernel
theorem dX2_joinsAbove_16 : decode cX2_joinsAbove 16 = .ok (.if_icmp .ge 26, 3) := by decide +kernel
theorem dX2_joinsAbove_19 : decode cX2_joinsAbove 19 = .ok (.aload_n 0, 1) := by decide +kernel
theorem dX2_joinsAbove_20 : decode cX2_joinsAbove 20 = .ok (.getfield 18, 3) := by decide +kernel
theorem dX2_joinsAbove_23 : decode cX2_joinsAbove 23 = .ok (.iload_n 2, 1) := by decide +kernel
theorem dX2_joinsAbove_24 : decode cX2_joinsAbove 24 = .ok (.iaload, 1) := by decide +kernel
theorem dX2_joinsAbove_25 : decode cX2_joinsAbove 25 = .ok (.iload 4, 2) := by decide +kernel
theorem dX2_joinsAbove_27 : decode cX2_joinsAbove 27 = .ok (.if_icmp .ne 9, 3) := by decide +kernel
theorem dX2_joinsAbove_30 : decode cX2_joinsAbove 30 = .ok (.iload 4, 2) := by decide +kernel
theorem dX2_joinsAbove_32 : decode cX2_joinsAbove 32 = .ok (.istore_n 2, 1) := by decide +kernel
theorem dX2_joinsAbove_33 : decode cX2_joinsAbove 33 = .ok (.iinc 3 1, 3) := by decide +kernel
theorem dX2_joinsAbove_36 : decode cX2_joinsAbove 36 = .ok (.iinc 4 1, 3) := by decide +kernel
theorem dX2_joinsAbove_39 : decode cX2_joinsAbove 39 = .ok (.goto (-29), 3) := by decide +kernel
theorem dX2_joinsAbove_42 : decode cX2_joinsAbove 42 = .ok (.iload_n 3, 1) := by decide +kernel
theorem dX2_joinsAbove_43 : decode cX2_joinsAbove 43 = .ok (.ireturn, 1) := by decide +kernel
theorem dX2_bitOf_0 : decode cX2_bitOf 0 = .ok (.iconst 1, 1) := by decide +kernel
theorem dX2_bitOf_1 : decode cX2_bitOf 1 = .ok (.iload_n 1, 1) := by decide +kernel
theorem dX2_bitOf_2 : decode cX2_bitOf 2 = .ok (.aload_n 0, 1) := by decide +kernel
theorem dX2_bitOf_3 : decode cX2_bitOf 3 = .ok (.getfield 48, 3) := by decide +kernel
theorem dX2_bitOf_6 : decode cX2_bitOf 6 = .ok (.isub, 1) := by decide +kernel
theorem dX2_bitOf_7 : decode cX2_bitOf 7 = .ok (.ishl, 1) := by decide +kernel
theorem dX2_bitOf_8 : decode cX2_bitOf 8 = .ok (.ireturn, 1) := by decide +kernel
set_option maxRecDepth 20000 in
theorem ggX3_init_X1_init : GoodIn wsX3_init wsX1_init := goodIn_r _ [21, 22, 2, 3, 23, 24, 25, 26, 27, 28, 60, 61, 62, 63, 64] (by decide +kernel) (by decide +kernel)
set_option maxRecDepth 20000 in
theorem gX3_init_X1_init_n11 : GoodIn wsX3_init (wsX1_init) := ggX3_init_X1_init
set_option maxRecDepth 20000 in
theorem ggX3_init_X2_init : GoodIn wsX3_init wsX2_init := goodIn_r _ [30, 31, 2, 3, 23, 32, 33, 34, 35, 36, 37, 38, 39, 40, 41, 42, 43, 44, 45, 72, 73, 74, 75, 76, 77, 78, 79, 80, 81, 82, 83, 84, 85] (by decide +kernel) (by decide +kernel)
set_option maxRecDepth 20000 in
theorem gX3_init_X2_init_n18 : GoodIn wsX3_init (wsX2_init) := ggX3_init_X2_init
set_option maxRecDepth 20000 in
theorem ggX3_init_X0_init : GoodIn wsX3_init wsX0_init := goodIn_r _ [47, 48, 2, 3, 49, 50, 51, 52, 53, 54, 55, 56, 57, 58, 59, 86, 87, 88, 89, 90, 91, 92, 93, 94, 95] (by decide +kernel) (by decide +kernel)
set_option maxRecDepth 20000 in
theorem gX3_init_X0_init_n25 : GoodIn wsX3_init (wsX0_init) := ggX3_init_X0_init
theorem dX3_init_0 : decode cX3_init 0 = .ok (.aload_n 0, 1) := by decide +kernel
theorem dX3_init_1 : decode cX3_init 1 = .ok (.invokespecial 3, 3) := by decide +kernel
theorem dX3_init_4 : decode cX3_init 4 = .ok (.aload_n 0, 1) := by decide +kernel
theorem dX3_init_5 : decode cX3_init 5 = .ok (.new 9, 3) := by decide +kernel
theorem dX3_init_8 : decode cX3_init 8 = .ok (.dup, 1) := by decide +kernel
theorem dX3_init_9 : decode cX3_init 9 = .ok (.invokespecial 11, 3) := by decide +kernel
theorem dX3_init_12 : decode cX3_init 12 = .ok (.putfield 12, 3) := by decide +kernel
theorem dX3_init_15 : decode cX3_init 15 = .ok (.aload_n 0, 1) := by decide +kernel
theorem dX3_init_16 : decode cX3_init 16 = .ok (.new 16, 3) := by decide +kernel
theorem dX3_init_19 : decode cX3_init 19 = .ok (.dup, 1) := by decide +kernel
theorem dX3_init_20 : decode cX3_init 20 = .ok (.invokespecial 18, 3) := by decide +kernel
theorem dX3_init_23 : decode cX3_init 23 = .ok (.putfield 19, 3) := by decide +kernel
theorem dX3_init_26 : decode cX3_init 26 = .ok (.aload_n 0, 1) := by decide +kernel
theorem dX3_init_27 : decode cX3_init 27 = .ok (.new 23, 3) := by decide +kernel
theorem dX3_init_30 : decode cX3_init 30 = .ok (.dup, 1) := by decide +kernel
theorem dX3_init_31 : decode cX3_init 31 = .ok (.invokespecial 25, 3) := by decide +kernel
theorem dX3_init_34 : decode cX3_init 34 = .ok (.putfield 26, 3) := by decide +kernel
theorem dX3_init_37 : decode cX3_init 37 = .ok (.aload_n 0, 1) := by decide +kernel
theorem dX3_init_38 : decode cX3_init 38 = .ok (.iconst 0, 1) := by decide +kernel
theorem dX3_init_39 : decode cX3_init 39 = .ok (.putfield 30, 3) := by decide +kernel
theorem dX3_init_42 : decode cX3_init 42 = .ok (.aload_n 0, 1) := by decide +kernel
theorem dX3_init_43 : decode cX3_init 43 = .ok (.iconst 0, 1) := by decide +kernel
theorem dX3_init_44 : decode cX3_init 44 = .ok (.putfield 34, 3) := by decide +kernel
theorem dX3_init_47 : decode cX3_init 47 = .ok (.aload_n 0, 1) := by decide +kernel
theorem dX3_init_48 : decode cX3_init 48 = .ok (.iconst 0, 1) := by decide +kernel
theorem dX3_init_49 : decode cX3_init 49 = .ok (.putfield 37, 3) := by decide +kernel
theorem dX3_init_52 : decode cX3_init 52 = .ok (.aload_n 0, 1) := by decide +kernel
theorem dX3_init_53 : decode cX3_init 53 = .ok (.iconst 0, 1) := by decide +kernel
theorem dX3_init_54 : decode cX3_init 54 = .ok (.putfield 41, 3) := by decide +kernel
theorem dX3_init_57 : decode cX3_init 57 = .ok (.return_, 1) := by decide +kernel
set_option maxRecDepth 20000 in
theorem ggX3_sink_X3_isPlace : GoodIn wsX3_sink wsX3_isPlace := goodIn_r _ [12, 13, 14, 11, 15] (by decide +kernel) (by decide +kernel)
set_option maxRecDepth 20000 in
theorem gX3_sink_X3_isPlace : GoodIn wsX3_sink (va_wsS RX3 44 yX3_isPlace wsX3_isPlace) := goodIn_app (goodIn_of _ (by decide +kernel)) ggX3_sink_X3_isPlace
set_option maxRecDepth 20000 in
theorem ggX3_sink_X3_isWithin : GoodIn wsX3_sink wsX3_isWithin := goodIn_r _ [15] (by decide +kernel) (by decide +kernel)
set_option maxRecDepth 20000 in
theorem gX3_sink_X3_isWithin : GoodIn wsX3_sink (va_wsS RX3 48 yX3_isWithin wsX3_isWithin) := goodIn_app (goodIn_of _ (by decide +kernel)) ggX3_sink_X3_isWithin
set_option maxRecDepth 20000 in
theorem ggX3_sink_X1_append : GoodIn wsX3_sink wsX1_append := goodIn_r _ [20, 21, 22, 23, 24, 25, 33, 34, 35, 36, 37] (by decide +kernel) (by decide +kernel)
set_option maxRecDepth 20000 in
theorem gX3_sink_X1_append : GoodIn wsX3_sink (wsV RX3 68 RX1 yX1_append wsX1_append) := goodIn_app (goodIn_of _ (by decide +kernel)) ggX3_sink_X1_append
theorem dX3_sink_0 : decode cX3_sink 0 = .ok (.iload_n 1, 1) := by decide +kernel
theorem dX3_sink_1 : decode cX3_sink 1 = .ok (.iload_n 2, 1) := by decide +kernel
theorem dX3_sink_2 : decode cX3_sink 2 = .ok (.invokestatic 44, 3) := by decide +kernel
theorem dX3_sink_5 : decode cX3_sink 5 = .ok (.ifCond .eq 24, 3) := by decide +kernel
theorem dX3_sink_8 : decode cX3_sink 8 = .ok (.iload_n 3, 1) := by decide +kernel
theorem dX3_sink_9 : decode cX3_sink 9 = .ok (.iconst 1, 1) := by decide +kernel
theorem dX3_sink_10 : decode cX3_sink 10 = .ok (.bipush 100, 2) := by decide +kernel
theorem dX3_sink_12 : decode cX3_sink 12 = .ok (.invokestatic 48, 3) := by decide +kernel
theorem dX3_sink_15 : decode cX3_sink 15 = .ok (.ifCond .eq 14, 3) := by decide +kernel
theorem dX3_sink_18 : decode cX3_sink 18 = .ok (.iload 4, 2) := by decide +kernel
theorem dX3_sink_20 : decode cX3_sink 20 = .ok (.iconst 0, 1) := by decide +kernel
theorem dX3_sink_21 : decode cX3_sink 21 = .ok (.ldc 52, 2) := by decide +kernel
theorem dX3_sink_23 : decode cX3_sink 23 = .ok (.invokestatic 48, 3) := by decide +kernel
theorem dX3_sink_26 : decode cX3_sink 26 = .ok (.ifCond .ne 13, 3) := by decide +kernel
theorem dX3_sink_29 : decode cX3_sink 29 = .ok (.new 53, 3) := by decide +kernel
theorem dX3_sink_32 : decode cX3_sink 32 = .ok (.dup, 1) := by decide +kernel
theorem dX3_sink_33 : decode cX3_sink 33 = .ok (.ldc 55, 2) := by decide +kernel
theorem dX3_sink_35 : decode cX3_sink 35 = .ok (.invokespecial 57, 3) := by decide +kernel
theorem dX3_sink_38 : decode cX3_sink 38 = .ok (.athrow, 1) := by decide +kernel
theorem dX3_sink_39 : decode cX3_sink 39 = .ok (.aload_n 0, 1) := by decide +kernel
theorem dX3_sink_40 : decode cX3_sink 40 = .ok (.getfield 12, 3) := by decide +kernel
theorem dX3_sink_43 : decode cX3_sink 43 = .ok (.getfield 60, 3) := by decide +kernel
theorem dX3_sink_46 : decode cX3_sink 46 = .ok (.bipush 10, 2) := by decide +kernel
theorem dX3_sink_48 : decode cX3_sink 48 = .ok (.if_icmp .lt 13, 3) := by decide +kernel
theorem dX3_sink_51 : decode cX3_sink 51 = .ok (.new 63, 3) := by decide +kernel
theorem dX3_sink_54 : decode cX3_sink 54 = .ok (.dup, 1) := by decide +kernel
theorem dX3_sink_55 : decode cX3_sink 55 = .ok (.ldc 65, 2) := by decide +kernel
theorem dX3_sink_57 : decode cX3_sink 57 = .ok (.invokespecial 67, 3) := by decide +kernel
theorem dX3_sink_60 : decode cX3_sink 60 = .ok (.athrow, 1) := by decide +kernel
theorem dX3_sink_61 : decode cX3_sink 61 = .ok (.aload_n 0, 1) := by decide +kernel
theorem dX3_sink_62 : decode cX3_sink 62 = .ok (.iconst 0, 1) := by decide +kernel
theorem dX3_sink_63 : decode cX3_sink 63 = .ok (.putfield 37, 3) := by decide +kernel
theorem dX3_sink_66 : decode cX3_sink 66 = .ok (.aload_n 0, 1) := by decide +kernel
theorem dX3_sink_67 : decode cX3_sink 67 = .ok (.getfield 12, 3) := by decide +kernel
theorem dX3_sink_70 : decode cX3_sink 70 = .ok (.iload_n 1, 1) := by decide +kernel
theorem dX3_sink_71 : decode cX3_sink 71 = .ok (.iload_n 2, 1) := by decide +kernel
theorem dX3_sink_72 : decode cX3_sink 72 = .ok (.iload_n 3, 1) := by decide +kernel
theorem dX3_sink_73 : decode cX3_sink 73 = .ok (.iload 4, 2) := by decide +kernel
theorem dX3_sink_75 : decode cX3_sink 75 = .ok (.invokevirtual 68, 3) := by decide +kernel
theorem dX3_sink_78 : decode cX3_sink 78 = .ok (.ireturn, 1) := by decide +kernel
set_option maxRecDepth 20000 in
theorem ggX3_cut_X3_isWithin : GoodIn wsX3_cut wsX3_isWithin := goodIn_r _ [9] (by decide +kernel) (by decide +kernel)
set_option maxRecDepth 20000 in
theorem gX3_cut_X3_isWithin : GoodIn wsX3_cut (va_wsS RX3 48 yX3_isWithin wsX3_isWithin) := goodIn_app (goodIn_of _ (by decide +kernel)) ggX3_cut_X3_isWithin
theorem dX3_cut_0 : decode cX3_cut 0 = .ok (.iload_n 1, 1) := by decide +kernel
theorem dX3_cut_1 : decode cX3_cut 1 = .ok (.iconst 0, 1) := by decide +kernel
theorem dX3_cut_2 : decode cX3_cut 2 = .ok (.aload_n 0, 1) := by decide +kernel
theorem dX3_cut_3 : decode cX3_cut 3 = .ok (.getfield 12, 3) := by decide +kernel
theorem dX3_cut_6 : decode cX3_cut 6 = .ok (.getfield 60, 3) := by decide +kernel
theorem dX3_cut_9 : decode cX3_cut 9 = .ok (.invokestatic 48, 3) := by decide +kernel
theorem dX3_cut_12 : decode cX3_cut 12 = .ok (.ifCond .ne 13, 3) := by decide +kernel
theorem dX3_cut_15 : decode cX3_cut 15 = .ok (.new 53, 3) := by decide +kernel
theorem dX3_cut_18 : decode cX3_cut 18 = .ok (.dup, 1) := by decide +kernel
theorem dX3_cut_19 : decode cX3_cut 19 = .ok (.ldc 72, 2) := by decide +kernel
theorem dX3_cut_21 : decode cX3_cut 21 = .ok (.invokespecial 57, 3) := by decide +kernel
theorem dX3_cut_24 : decode cX3_cut 24 = .ok (.athrow, 1) := by decide +kernel
theorem dX3_cut_25 : decode cX3_cut 25 = .ok (.aload_n 0, 1) := by decide +kernel
theorem dX3_cut_26 : decode cX3_cut 26 = .ok (.iconst 0, 1) := by decide +kernel
theorem dX3_cut_27 : decode cX3_cut 27 = .ok (.putfield 37, 3) := by decide +kernel
theorem dX3_cut_30 : decode cX3_cut 30 = .ok (.aload_n 0, 1) := by decide +kernel
theorem dX3_cut_31 : decode cX3_cut 31 = .ok (.getfield 12, 3) := by decide +kernel
theorem dX3_cut_34 : decode cX3_cut 34 = .ok (.iload_n 1, 1) := by decide +kernel
theorem dX3_cut_35 : decode cX3_cut 35 = .ok (.putfield 60, 3) := by decide +kernel
theorem dX3_cut_38 : decode cX3_cut 38 = .ok (.return_, 1) := by decide +kernel
set_option maxRecDepth 20000 in
theorem ggX3_source_X3_isPlace : GoodIn wsX3_source wsX3_isPlace := goodIn_r _ [9, 10, 11, 8, 12] (by decide +kernel) (by decide +kernel)
set_option maxRecDepth 20000 in
theorem gX3_source_X3_isPlace : GoodIn wsX3_source (va_wsS RX3 44 yX3_isPlace wsX3_isPlace) := goodIn_app (goodIn_of _ (by decide +kernel)) ggX3_source_X3_isPlace
theorem dX3_source_0 : decode cX3_source 0 = .ok (.iload_n 1, 1) := by decide +kernel
theorem dX3_source_1 : decode cX3_source 1 = .ok (.iload_n 2, 1) := by decide +kernel
theorem dX3_source_2 : decode cX3_source 2 = .ok (.invokestatic 44, 3) := by decide +kernel
theorem dX3_source_5 : decode cX3_source 5 = .ok (.ifCond .ne 13, 3) := by decide +kernel
theorem dX3_source_8 : decode cX3_source 8 = .ok (.new 53, 3) := by decide +kernel
theorem dX3_source_11 : decode cX3_source 11 = .ok (.dup, 1) := by decide +kernel
theorem dX3_source_12 : decode cX3_source 12 = .ok (.ldc 74, 2) := by decide +kernel
theorem dX3_source_14 : decode cX3_source 14 = .ok (.invokespecial 57, 3) := by decide +kernel
theorem dX3_source_17 : decode cX3_source 17 = .ok (.athrow, 1) := by decide +kernel
theorem dX3_source_18 : decode cX3_source 18 = .ok (.aload_n 0, 1) := by decide +kernel
theorem dX3_source_19 : decode cX3_source 19 = .ok (.iconst 0, 1) := by decide +kernel
theorem dX3_source_20 : decode cX3_source 20 = .ok (.putfield 37, 3) := by decide +kernel
theorem dX3_source_23 : decode cX3_source 23 = .ok (.aload_n 0, 1) := by decide +kernel
theorem dX3_source_24 : decode cX3_source 24 = .ok (.iload_n 1, 1) := by decide +kernel
theorem dX3_source_25 : decode cX3_source 25 = .ok (.putfield 30, 3) := by decide +kernel
theorem dX3_source_28 : decode cX3_source 28 = .ok (.aload_n 0, 1) := by decide +kernel
theorem dX3_source_29 : decode cX3_source 29 = .ok (.iload_n 2, 1) := by decide +kernel
theorem dX3_source_30 : decode cX3_source 30 = .ok (.putfield 34, 3) := by decide +kernel
theorem dX3_source_33 : decode cX3_source 33 = .ok (.return_, 1) := by decide +kernel
set_option maxRecDepth 20000 in
theorem ggX3_wires_X3_isWithin : GoodIn wsX3_wires wsX3_isWithin := goodIn_r _ [9] (by decide +kernel) (by decide +kernel)
set_option maxRecDepth 20000 in
theorem gX3_wires_X3_isWithin : GoodIn wsX3_wires (va_wsS RX3 48 yX3_isWithin wsX3_isWithin) := goodIn_app (goodIn_of _ (by decide +kernel)) ggX3_wires_X3_isWithin
theorem dX3_wires_0 : decode cX3_wires 0 = .ok (.iload_n 1, 1) := by decide +kernel
theorem dX3_wires_1 : decode cX3_wires 1 = .ok (.iconst 1, 1) := by decide +kernel
theorem dX3_wires_2 : decode cX3_wires 2 = .ok (.bipush 20, 2) := by decide +kernel
theorem dX3_wires_4 : decode cX3_wires 4 = .ok (.invokestatic 48, 3) := by decide +kernel
theorem dX3_wires_7 : decode cX3_wires 7 = .ok (.ifCond .eq 13, 3) := by decide +kernel
theorem dX3_wires_10 : decode cX3_wires 10 = .ok (.iload_n 2, 1) := by decide +kernel
theorem dX3_wires_11 : decode cX3_wires 11 = .ok (.iconst 1, 1) := by decide +kernel
theorem dX3_wires_12 : decode cX3_wires 12 = .ok (.bipush 20, 2) := by decide +kernel
theorem dX3_wires_14 : decode cX3_wires 14 = .ok (.invokestatic 48, 3) := by decide +kernel
theorem dX3_wires_17 : decode cX3_wires 17 = .ok (.ifCond .ne 13, 3) := by decide +kernel
theorem dX3_wires_20 : decode cX3_wires 20 = .ok (.new 53, 3) := by decide +kernel
theorem dX3_wires_23 : decode cX3_wires 23 = .ok (.dup, 1) := by decide +kernel
theorem dX3_wires_24 : decode cX3_wires 24 = .ok (.ldc 76, 2) := by decide +kernel
theorem dX3_wires_26 : decode cX3_wires 26 = .ok (.invokespecial 57, 3) := by decide +kernel
theorem dX3_wires_29 : decode cX3_wires 29 = .ok (.athrow, 1) := by decide +kernel
theorem dX3_wires_30 : decode cX3_wires 30 = .ok (.aload_n 0, 1) := by decide +kernel
theorem dX3_wires_31 : decode cX3_wires 31 = .ok (.getfield 26, 3) := by decide +kernel
theorem dX3_wires_34 : decode cX3_wires 34 = .ok (.iload_n 1, 1) := by decide +kernel
theorem dX3_wires_35 : decode cX3_wires 35 = .ok (.putfield 78, 3) := by decide +kernel
theorem dX3_wires_38 : decode cX3_wires 38 = .ok (.aload_n 0, 1) := by decide +kernel
theorem dX3_wires_39 : decode cX3_wires 39 = .ok (.getfield 26, 3) := by decide +kernel
theorem dX3_wires_42 : decode cX3_wires 42 = .ok (.iload_n 2, 1) := by decide +kernel
theorem dX3_wires_43 : decode cX3_wires 43 = .ok (.putfield 81, 3) := by decide +kernel
theorem dX3_wires_46 : decode cX3_wires 46 = .ok (.return_, 1) := by decide +kernel
set_option maxRecDepth 20000 in
theorem ggX3_buffer_X3_isWithin : GoodIn wsX3_buffer wsX3_isWithin := goodIn_r _ [12] (by decide +kernel) (by decide +kernel)
set_option maxRecDepth 20000 in
theorem gX3_buffer_X3_isWithin : GoodIn wsX3_buffer (va_wsS RX3 48 yX3_isWithin wsX3_isWithin) := goodIn_app (goodIn_of _ (by decide +kernel)) ggX3_buffer_X3_isWithin
theorem dX3_buffer_0 : decode cX3_buffer 0 = .ok (.iload_n 1, 1) := by decide +kernel
theorem dX3_buffer_1 : decode cX3_buffer 1 = .ok (.iconst 1, 1) := by decide +kernel
theorem dX3_buffer_2 : decode cX3_buffer 2 = .ok (.ldc 84, 2) := by decide +kernel
theorem dX3_buffer_4 : decode cX3_buffer 4 = .ok (.invokestatic 48, 3) := by decide +kernel
theorem dX3_buffer_7 : decode cX3_buffer 7 = .ok (.ifCond .eq 24, 3) := by decide +kernel
theorem dX3_buffer_10 : decode cX3_buffer 10 = .ok (.iload_n 2, 1) := by decide +kernel
theorem dX3_buffer_11 : decode cX3_buffer 11 = .ok (.iconst 1, 1) := by decide +kernel
theorem dX3_buffer_12 : decode cX3_buffer 12 = .ok (.sipush 1000, 3) := by decide +kernel
theorem dX3_buffer_15 : decode cX3_buffer 15 = .ok (.invokestatic 48, 3) := by decide +kernel
theorem dX3_buffer_18 : decode cX3_buffer 18 = .ok (.ifCond .eq 13, 3) := by decide +kernel
theorem dX3_buffer_21 : decode cX3_buffer 21 = .ok (.iload_n 3, 1) := by decide +kernel
theorem dX3_buffer_22 : decode cX3_buffer 22 = .ok (.iconst 0, 1) := by decide +kernel
theorem dX3_buffer_23 : decode cX3_buffer 23 = .ok (.ldc 52, 2) := by decide +kernel
theorem dX3_buffer_25 : decode cX3_buffer 25 = .ok (.invokestatic 48, 3) := by decide +kernel
theorem dX3_buffer_28 : decode cX3_buffer 28 = .ok (.ifCond .ne 13, 3) := by decide +kernel
theorem dX3_buffer_31 : decode cX3_buffer 31 = .ok (.new 53, 3) := by decide +kernel
theorem dX3_buffer_34 : decode cX3_buffer 34 = .ok (.dup, 1) := by decide +kernel
theorem dX3_buffer_35 : decode cX3_buffer 35 = .ok (.ldc 85, 2) := by decide +kernel
theorem dX3_buffer_37 : decode cX3_buffer 37 = .ok (.invokespecial 57, 3) := by decide +kernel
theorem dX3_buffer_40 : decode cX3_buffer 40 = .ok (.athrow, 1) := by decide +kernel
theorem dX3_buffer_41 : decode cX3_buffer 41 = .ok (.aload_n 0, 1) := by decide +kernel
theorem dX3_buffer_42 : decode cX3_buffer 42 = .ok (.getfield 26, 3) := by decide +kernel
theorem dX3_buffer_45 : decode cX3_buffer 45 = .ok (.iload_n 1, 1) := by decide +kernel
theorem dX3_buffer_46 : decode cX3_buffer 46 = .ok (.putfield 87, 3) := by decide +kernel
theorem dX3_buffer_49 : decode cX3_buffer 49 = .ok (.aload_n 0, 1) := by decide +kernel
theorem dX3_buffer_50 : decode cX3_buffer 50 = .ok (.getfield 26, 3) := by decide +kernel
theorem dX3_buffer_53 : decode cX3_buffer 53 = .ok (.iload_n 2, 1) := by decide +kernel
theorem dX3_buffer_54 : decode cX3_buffer 54 = .ok (.putfield 90, 3) := by decide +kernel
theorem dX3_buffer_57 : decode cX3_buffer 57 = .ok (.aload_n 0, 1) := by decide +kernel
theorem dX3_buffer_58 : decode cX3_buffer 58 = .ok (.getfield 26, 3) := by decide +kernel
theorem dX3_buffer_61 : decode cX3_buffer 61 = .ok (.iload_n 3, 1) := by decide +kernel
theorem dX3_buffer_62 : decode cX3_buffer 62 = .ok (.putfield 93, 3) := by decide +kernel
theorem dX3_buffer_65 : decode cX3_buffer 65 = .ok (.return_, 1) := by decide +kernel
theorem dX3_sinks_0 : decode cX3_sinks 0 = .ok (.aload_n 0, 1) := by decide +kernel
theorem dX3_sinks_1 : decode cX3_sinks 1 = .ok (.getfield 12, 3) := by decide +kernel
theorem dX3_sinks_4 : decode cX3_sinks 4 = .ok (.getfield 60, 3) := by decide +kernel
theorem dX3_sinks_7 : decode cX3_sinks 7 = .ok (.ireturn, 1) := by decide +kernel
set_option maxRecDepth 20000 in
theorem ggX3_build_X3_isWithin : GoodIn wsX3_build wsX3_isWithin := goodIn_r _ [16] (by decide +kernel) (by decide +kernel)
set_option maxRecDepth 20000 in
theorem gX3_build_X3_isWithin : GoodIn wsX3_build (va_wsS RX3 48 yX3_isWithin wsX3_isWithin) := goodIn_app (goodIn_of _ (by decide +kernel)) ggX3_build_X3_isWithin
set_option maxRecDepth 20000 in
theorem ggX3_build_X2_plantSinks : GoodIn wsX3_build wsX2_plantSinks := goodIn_r _ [21, 22, 23, 24, 25, 26, 27, 28, 29, 30, 31, 32, 33, 34, 35, 15, 36, 37, 38, 112, 113, 114, 115, 116, 117, 118, 119, 120, 121, 122, 123, 124, 125, 126, 127, 128, 129, 130] (by decide +kernel) (by decide +kernel)
set_option maxRecDepth 20000 in
theorem gX3_build_X2_plantSinks : GoodIn wsX3_build (wsV RX3 103 RX2 yX2_plantSinks wsX2_plantSinks) := goodIn_app (goodIn_of _ (by decide +kernel)) ggX3_build_X2_plantSinks
set_option maxRecDepth 20000 in
theorem ggX3_build_X2_joinByDistance : GoodIn wsX3_build wsX2_joinByDistance := goodIn_r _ [42, 23, 43, 44, 45, 20, 46, 47, 24, 29, 48, 49, 50, 51, 30, 31, 32, 33, 52, 53, 54, 55, 56, 57, 58, 59, 60, 61, 62, 27, 28, 63, 64, 65, 66, 34, 67, 68, 69, 70, 117, 118, 119, 120, 121, 122, 123, 124, 125, 126, 127, 128, 129, 130] (by decide +kernel) (by decide +kernel)
set_option maxRecDepth 20000 in
theorem gX3_build_X2_joinByDistance : GoodIn wsX3_build (wsV RX3 107 RX2 yX2_joinByDistance wsX2_joinByDistance) := goodIn_app (goodIn_of _ (by decide +kernel)) ggX3_build_X2_joinByDistance
set_option maxRecDepth 20000 in
theorem ggX3_build_X2_joinByCutting : GoodIn wsX3_build wsX2_joinByCutting := goodIn_r _ [74, 23, 75, 76, 77, 20, 78, 79, 80, 81, 82, 83, 84, 85, 86, 87, 88, 89, 59, 60, 61, 62, 24, 27, 28, 29, 30, 63, 52, 53, 54, 55, 31, 64, 65, 66, 32, 33, 34, 48, 49, 50, 51, 56, 57, 58, 67, 68, 69, 70, 117, 118, 119, 120, 121, 122, 123, 124, 125, 126, 127, 128, 129, 130, 112, 113, 114, 115, 116] (by decide +kernel) (by decide +kernel)
set_option maxRecDepth 20000 in
theorem gX3_build_X2_joinByCutting : GoodIn wsX3_build (wsV RX3 110 RX2 yX2_joinByCutting wsX2_joinByCutting) := goodIn_app (goodIn_of _ (by decide +kernel)) ggX3_build_X2_joinByCutting
set_option maxRecDepth 20000 in
theorem ggX3_build_X3_placeU : GoodIn wsX3_build wsX3_placeU := goodIn_r _ [36] (by decide +kernel) (by decide +kernel)
set_option maxRecDepth 20000 in
theorem gX3_build_X3_placeU : GoodIn wsX3_build (va_wsS RX3 113 yX3_placeU wsX3_placeU) := goodIn_app (goodIn_of _ (by decide +kernel)) ggX3_build_X3_placeU
set_option maxRecDepth 20000 in
theorem ggX3_build_X3_placeV : GoodIn wsX3_build wsX3_placeV := goodIn_r _ [38] (by decide +kernel) (by decide +kernel)
set_option maxRecDepth 20000 in
theorem gX3_build_X3_placeV : GoodIn wsX3_build (va_wsS RX3 117 yX3_placeV wsX3_placeV) := goodIn_app (goodIn_of _ (by decide +kernel)) ggX3_build_X3_placeV
set_option maxRecDepth 20000 in
theorem ggX3_build_X2_choosePlaces : GoodIn wsX3_build wsX2_choosePlaces := goodIn_r _ [95, 24, 63, 96, 97, 98, 54, 99, 100, 52, 53, 55, 29, 101, 102, 103, 20, 104, 30, 31, 64, 65, 66, 32, 33, 117, 118, 119, 120, 121, 122, 123, 124, 125, 126, 127, 128, 129, 130] (by decide +kernel) (by decide +kernel)
set_option maxRecDepth 20000 in
theorem gX3_build_X2_choosePlaces : GoodIn wsX3_build (wsV RX3 120 RX2 yX2_choosePlaces wsX2_choosePlaces) := goodIn_app (goodIn_of _ (by decide +kernel)) ggX3_build_X2_choosePlaces
theorem dX3_build_0 : decode cX3_build 0 = .ok (.iload_n 1, 1) := by decide +kernel
theorem dX3_build_1 : decode cX3_build 1 = .ok (.iconst 0, 1) := by decide +kernel
theorem dX3_build_2 : decode cX3_build 2 = .ok (.iconst 1, 1) := by decide +kernel
theorem dX3_build_3 : decode cX3_build 3 = .ok (.invokestatic 48, 3) := by decide +kernel
theorem dX3_build_6 : decode cX3_build 6 = .ok (.ifCond .ne 13, 3) := by decide +kernel
theorem dX3_build_9 : decode cX3_build 9 = .ok (.new 53, 3) := by decide +kernel
theorem dX3_build_12 : decode cX3_build 12 = .ok (.dup, 1) := by decide +kernel
theorem dX3_build_13 : decode cX3_build 13 = .ok (.ldc 96, 2) := by decide +kernel
theorem dX3_build_15 : decode cX3_build 15 = .ok (.invokespecial 57, 3) := by decide +kernel
theorem dX3_build_18 : decode cX3_build 18 = .ok (.athrow, 1) := by decide +kernel
theorem dX3_build_19 : decode cX3_build 19 = .ok (.aload_n 0, 1) := by decide +kernel
theorem dX3_build_20 : decode cX3_build 20 = .ok (.getfield 12, 3) := by decide +kernel
theorem dX3_build_23 : decode cX3_build 23 = .ok (.getfield 60, 3) := by decide +kernel
theorem dX3_build_26 : decode cX3_build 26 = .ok (.ifCond .ne 13, 3) := by decide +kernel
theorem dX3_build_29 : decode cX3_build 29 = .ok (.new 98, 3) := by decide +kernel
theorem dX3_build_32 : decode cX3_build 32 = .ok (.dup, 1) := by decide +kernel
theorem dX3_build_33 : decode cX3_build 33 = .ok (.ldc 100, 2) := by decide +kernel
theorem dX3_build_35 : decode cX3_build 35 = .ok (.invokespecial 102, 3) := by decide +kernel
theorem dX3_build_38 : decode cX3_build 38 = .ok (.athrow, 1) := by decide +kernel
theorem dX3_build_39 : decode cX3_build 39 = .ok (.aload_n 0, 1) := by decide +kernel
theorem dX3_build_40 : decode cX3_build 40 = .ok (.getfield 19, 3) := by decide +kernel
theorem dX3_build_43 : decode cX3_build 43 = .ok (.aload_n 0, 1) := by decide +kernel
theorem dX3_build_44 : decode cX3_build 44 = .ok (.getfield 12, 3) := by decide +kernel
theorem dX3_build_47 : decode cX3_build 47 = .ok (.invokevirtual 103, 3) := by decide +kernel
theorem dX3_build_50 : decode cX3_build 50 = .ok (.iload_n 1, 1) := by decide +kernel
theorem dX3_build_51 : decode cX3_build 51 = .ok (.ifCond .ne 13, 3) := by decide +kernel
theorem dX3_build_54 : decode cX3_build 54 = .ok (.aload_n 0, 1) := by decide +kernel
theorem dX3_build_55 : decode cX3_build 55 = .ok (.getfield 19, 3) := by decide +kernel
theorem dX3_build_58 : decode cX3_build 58 = .ok (.invokevirtual 107, 3) := by decide +kernel
theorem dX3_build_61 : decode cX3_build 61 = .ok (.goto 14, 3) := by decide +kernel
theorem dX3_build_64 : decode cX3_build 64 = .ok (.aload_n 0, 1) := by decide +kernel
theorem dX3_build_65 : decode cX3_build 65 = .ok (.getfield 19, 3) := by decide +kernel
theorem dX3_build_68 : decode cX3_build 68 = .ok (.aload_n 0, 1) := by decide +kernel
theorem dX3_build_69 : decode cX3_build 69 = .ok (.getfield 12, 3) := by decide +kernel
theorem dX3_build_72 : decode cX3_build 72 = .ok (.invokevirtual 110, 3) := by decide +kernel
theorem dX3_build_75 : decode cX3_build 75 = .ok (.aload_n 0, 1) := by decide +kernel
theorem dX3_build_76 : decode cX3_build 76 = .ok (.getfield 19, 3) := by decide +kernel
theorem dX3_build_79 : decode cX3_build 79 = .ok (.aload_n 0, 1) := by decide +kernel
theorem dX3_build_80 : decode cX3_build 80 = .ok (.getfield 30, 3) := by decide +kernel
theorem dX3_build_83 : decode cX3_build 83 = .ok (.aload_n 0, 1) := by decide +kernel
theorem dX3_build_84 : decode cX3_build 84 = .ok (.getfield 34, 3) := by decide +kernel
theorem dX3_build_87 : decode cX3_build 87 = .ok (.invokestatic 113, 3) := by decide +kernel
theorem dX3_build_90 : decode cX3_build 90 = .ok (.aload_n 0, 1) := by decide +kernel
theorem dX3_build_91 : decode cX3_build 91 = .ok (.getfield 30, 3) := by decide +kernel
theorem dX3_build_94 : decode cX3_build 94 = .ok (.aload_n 0, 1) := by decide +kernel
theorem dX3_build_95 : decode cX3_build 95 = .ok (.getfield 34, 3) := by decide +kernel
theorem dX3_build_98 : decode cX3_build 98 = .ok (.invokestatic 117, 3) := by decide +kernel
theorem dX3_build_101 : decode cX3_build 101 = .ok (.invokevirtual 120, 3) := by decide +kernel
theorem dX3_build_104 : decode cX3_build 104 = .ok (.aload_n 0, 1) := by decide +kernel
theorem dX3_build_105 : decode cX3_build 105 = .ok (.iconst 1, 1) := by decide +kernel
theorem dX3_build_106 : decode cX3_build 106 = .ok (.putfield 37, 3) := by decide +kernel
theorem dX3_build_109 : decode cX3_build 109 = .ok (.aload_n 0, 1) := by decide +kernel
theorem dX3_build_110 : decode cX3_build 110 = .ok (.iconst 0, 1) := by decide +kernel
theorem dX3_build_111 : decode cX3_build 111 = .ok (.putfield 41, 3) := by decide +kernel
theorem dX3_build_114 : decode cX3_build 114 = .ok (.aload_n 0, 1) := by decide +kernel
theorem dX3_build_115 : decode cX3_build 115 = .ok (.getfield 19, 3) := by decide +kernel
theorem dX3_build_118 : decode cX3_build 118 = .ok (.getfield 124, 3) := by decide +kernel
theorem dX3_build_121 : decode cX3_build 121 = .ok (.ireturn, 1) := by decide +kernel
set_option maxRecDepth 20000 in
theorem ggX3_node_X3_requireTree : GoodIn wsX3_node wsX3_requireTree := goodIn_ca (goodIn_r _ [9, 10, 11, 12, 32, 33, 34, 35, 36, 37, 38] (by decide +kernel) (by decide +kernel)) (goodIn_sub (fun _ h => List.mem_cons_of_mem _ (List.mem_append_right _ h)) (by decide +kernel))
set_option maxRecDepth 20000 in
theorem gX3_node_X3_requireTree : GoodIn wsX3_node (wsV RX3 127 RX3 yX3_requireTree wsX3_requireTree) := goodIn_app (goodIn_of _ (by decide +kernel)) ggX3_node_X3_requireTree
set_option maxRecDepth 20000 in
theorem ggX3_node_X3_isWithin : GoodIn wsX3_node wsX3_isWithin := goodIn_r _ [15] (by decide +kernel) (by decide +kernel)
set_option maxRecDepth 20000 in
theorem gX3_node_X3_isWithin : GoodIn wsX3_node (va_wsS RX3 48 yX3_isWithin wsX3_isWithin) := goodIn_app (goodIn_of _ (by decide +kernel)) ggX3_node_X3_isWithin
set_option maxRecDepth 20000 in
theorem ggX3_node_X2_partOf : GoodIn wsX3_node wsX2_partOf := goodIn_r _ [20, 21, 22, 23, 24, 25, 26, 27, 28, 29, 30, 31, 39, 40, 41, 42, 43, 44, 45, 46, 47, 48, 49, 50, 51, 52] (by decide +kernel) (by decide +kernel)
set_option maxRecDepth 20000 in
theorem gX3_node_X2_partOf : GoodIn wsX3_node (wsV RX3 135 RX2 yX2_partOf wsX2_partOf) := goodIn_app (goodIn_of _ (by decide +kernel)) ggX3_node_X2_partOf
theorem dX3_node_0 : decode cX3_node 0 = .ok (.aload_n 0, 1) := by decide +kernel
theorem dX3_node_1 : decode cX3_node 1 = .ok (.invokevirtual 127, 3) := by decide +kernel
theorem dX3_node_4 : decode cX3_node 4 = .ok (.iload_n 1, 1) := by decide +kernel
theorem dX3_node_5 : decode cX3_node 5 = .ok (.iconst 0, 1) := by decide +kernel
theorem dX3_node_6 : decode cX3_node 6 = .ok (.aload_n 0, 1) := by decide +kernel
theorem dX3_node_7 : decode cX3_node 7 = .ok (.getfield 19, 3) := by decide +kernel
theorem dX3_node_10 : decode cX3_node 10 = .ok (.getfield 124, 3) := by decide +kernel
theorem dX3_node_13 : decode cX3_node 13 = .ok (.iconst 1, 1) := by decide +kernel
theorem dX3_node_14 : decode cX3_node 14 = .ok (.isub, 1) := by decide +kernel
theorem dX3_node_15 : decode cX3_node 15 = .ok (.invokestatic 48, 3) := by decide +kernel
theorem dX3_node_18 : decode cX3_node 18 = .ok (.ifCond .eq 13, 3) := by decide +kernel
theorem dX3_node_21 : decode cX3_node 21 = .ok (.iload_n 2, 1) := by decide +kernel
theorem dX3_node_22 : decode cX3_node 22 = .ok (.iconst 0, 1) := by decide +kernel
theorem dX3_node_23 : decode cX3_node 23 = .ok (.bipush 10, 2) := by decide +kernel
theorem dX3_node_25 : decode cX3_node 25 = .ok (.invokestatic 48, 3) := by decide +kernel
theorem dX3_node_28 : decode cX3_node 28 = .ok (.ifCond .ne 13, 3) := by decide +kernel
theorem dX3_node_31 : decode cX3_node 31 = .ok (.new 130, 3) := by decide +kernel
theorem dX3_node_34 : decode cX3_node 34 = .ok (.dup, 1) := by decide +kernel
theorem dX3_node_35 : decode cX3_node 35 = .ok (.ldc 132, 2) := by decide +kernel
theorem dX3_node_37 : decode cX3_node 37 = .ok (.invokespecial 134, 3) := by decide +kernel
theorem dX3_node_40 : decode cX3_node 40 = .ok (.athrow, 1) := by decide +kernel
theorem dX3_node_41 : decode cX3_node 41 = .ok (.aload_n 0, 1) := by decide +kernel
theorem dX3_node_42 : decode cX3_node 42 = .ok (.getfield 19, 3) := by decide +kernel
theorem dX3_node_45 : decode cX3_node 45 = .ok (.iload_n 1, 1) := by decide +kernel
theorem dX3_node_46 : decode cX3_node 46 = .ok (.iload_n 2, 1) := by decide +kernel
theorem dX3_node_47 : decode cX3_node 47 = .ok (.invokevirtual 135, 3) := by decide +kernel
theorem dX3_node_50 : decode cX3_node 50 = .ok (.ireturn, 1) := by decide +kernel
set_option maxRecDepth 20000 in
theorem ggX3_length_X3_requireTree : GoodIn wsX3_length wsX3_requireTree := goodIn_ca (goodIn_r _ [6, 7, 8, 9, 17, 18, 19, 20, 21, 22, 23] (by decide +kernel) (by decide +kernel)) (goodIn_sub (fun _ h => List.mem_cons_of_mem _ (List.mem_append_right _ h)) (by decide +kernel))
set_option maxRecDepth 20000 in
theorem gX3_length_X3_requireTree : GoodIn wsX3_length (wsV RX3 127 RX3 yX3_requireTree wsX3_requireTree) := goodIn_app (goodIn_of _ (by decide +kernel)) ggX3_length_X3_requireTree
set_option maxRecDepth 20000 in
theorem ggX3_length_X2_wireSum : GoodIn wsX3_length wsX2_wireSum := goodIn_r _ [14, 15, 16, 24, 25, 26, 27, 28, 29, 30, 31, 32, 33, 34, 35, 36, 37] (by decide +kernel) (by decide +kernel)
set_option maxRecDepth 20000 in
theorem gX3_length_X2_wireSum : GoodIn wsX3_length (wsV RX3 138 RX2 yX2_wireSum wsX2_wireSum) := goodIn_app (goodIn_of _ (by decide +kernel)) ggX3_length_X2_wireSum
theorem dX3_length_0 : decode cX3_length 0 = .ok (.aload_n 0, 1) := by decide +kernel
theorem dX3_length_1 : decode cX3_length 1 = .ok (.invokevirtual 127, 3) := by decide +kernel
theorem dX3_length_4 : decode cX3_length 4 = .ok (.aload_n 0, 1) := by decide +kernel
theorem dX3_length_5 : decode cX3_length 5 = .ok (.getfield 19, 3) := by decide +kernel
theorem dX3_length_8 : decode cX3_length 8 = .ok (.invokevirtual 138, 3) := by decide +kernel
theorem dX3_length_11 : decode cX3_length 11 = .ok (.ireturn, 1) := by decide +kernel
set_option maxRecDepth 20000 in
theorem ggX3_depth_X3_requireTree : GoodIn wsX3_depth wsX3_requireTree := goodIn_ca (goodIn_r _ [6, 7, 8, 9, 28, 29, 30, 31, 32, 33, 34] (by decide +kernel) (by decide +kernel)) (goodIn_sub (fun _ h => List.mem_cons_of_mem _ (List.mem_append_left _ (List.mem_append_right _ h))) (by decide +kernel))
set_option maxRecDepth 20000 in
theorem gX3_depth_X3_requireTree : GoodIn wsX3_depth (wsV RX3 127 RX3 yX3_requireTree wsX3_requireTree) := goodIn_app (goodIn_of _ (by decide +kernel)) ggX3_depth_X3_requireTree
set_option maxRecDepth 20000 in
theorem ggX3_depth_X3_requireSink : GoodIn wsX3_depth wsX3_requireSink := goodIn_ca (goodIn_r _ [13, 14, 15, 1, 16, 17, 18, 5, 19, 28, 29, 30, 31, 32, 33, 34, 35, 36, 37, 38, 39, 40, 41, 42, 43, 44, 45, 46, 47, 48] (by decide +kernel) (by decide +kernel)) (goodIn_sub (fun _ h => List.mem_cons_of_mem _ (List.mem_append_right _ h)) (by decide +kernel))
set_option maxRecDepth 20000 in
theorem gX3_depth_X3_requireSink : GoodIn wsX3_depth (wsV RX3 142 RX3 yX3_requireSink wsX3_requireSink) := goodIn_app (goodIn_of _ (by decide +kernel)) ggX3_depth_X3_requireSink
set_option maxRecDepth 20000 in
theorem ggX3_depth_X2_joinsAbove : GoodIn wsX3_depth wsX2_joinsAbove := goodIn_r _ [24, 25, 26, 27, 35, 36, 37, 38, 39, 40, 41, 42, 43, 44, 45, 46, 47, 48] (by decide +kernel) (by decide +kernel)
set_option maxRecDepth 20000 in
theorem gX3_depth_X2_joinsAbove : GoodIn wsX3_depth (wsV RX3 146 RX2 yX2_joinsAbove wsX2_joinsAbove) := goodIn_app (goodIn_of _ (by decide +kernel)) ggX3_depth_X2_joinsAbove
theorem dX3_depth_0 : decode cX3_depth 0 = .ok (.aload_n 0, 1) := by decide +kernel
theorem dX3_depth_1 : decode cX3_depth 1 = .ok (.invokevirtual 127, 3) := by decide +kernel
theorem dX3_depth_4 : decode cX3_depth 4 = .ok (.aload_n 0, 1) := by decide +kernel
theorem dX3_depth_5 : decode cX3_depth 5 = .ok (.iload_n 1, 1) := by decide +kernel
theorem dX3_depth_6 : decode cX3_depth 6 = .ok (.invokevirtual 142, 3) := by decide +kernel
theorem dX3_depth_9 : decode cX3_depth 9 = .ok (.aload_n 0, 1) := by decide +kernel
theorem dX3_depth_10 : decode cX3_depth 10 = .ok (.getfield 19, 3) := by decide +kernel
theorem dX3_depth_13 : decode cX3_depth 13 = .ok (.iload_n 1, 1) := by decide +kernel
theorem dX3_depth_14 : decode cX3_depth 14 = .ok (.invokevirtual 146, 3) := by decide +kernel
theorem dX3_depth_17 : decode cX3_depth 17 = .ok (.ireturn, 1) := by decide +kernel
set_option maxRecDepth 20000 in
theorem ggX3_set_X3_requireTree : GoodIn wsX3_set wsX3_requireTree := goodIn_ca (goodIn_r _ [11, 12, 13, 14, 24, 25, 26, 27, 28, 29, 30] (by decide +kernel) (by decide +kernel)) (goodIn_sub (fun _ h => List.mem_cons_of_mem _ (List.mem_append_right _ h)) (by decide +kernel))
set_option maxRecDepth 20000 in
theorem gX3_set_X3_requireTree : GoodIn wsX3_set (wsV RX3 127 RX3 yX3_requireTree wsX3_requireTree) := goodIn_app (goodIn_of _ (by decide +kernel)) ggX3_set_X3_requireTree
set_option maxRecDepth 20000 in
theorem ggX3_set_X3_isWithin : GoodIn wsX3_set wsX3_isWithin := goodIn_r _ [17] (by decide +kernel) (by decide +kernel)
set_option maxRecDepth 20000 in
theorem gX3_set_X3_isWithin : GoodIn wsX3_set (va_wsS RX3 48 yX3_isWithin wsX3_isWithin) := goodIn_app (goodIn_of _ (by decide +kernel)) ggX3_set_X3_isWithin
set_option maxRecDepth 20000 in
theorem ggX3_set_X2_bitOf : GoodIn wsX3_set wsX2_bitOf := goodIn_r _ [22, 23, 31, 32, 33, 34, 35, 36, 37, 38, 39, 40, 41, 42, 43, 44] (by decide +kernel) (by decide +kernel)
set_option maxRecDepth 20000 in
theorem gX3_set_X2_bitOf : GoodIn wsX3_set (wsV RX3 155 RX2 yX2_bitOf wsX2_bitOf) := goodIn_app (goodIn_of _ (by decide +kernel)) ggX3_set_X2_bitOf
theorem dX3_set_0 : decode cX3_set 0 = .ok (.aload_n 0, 1) := by decide +kernel
theorem dX3_set_1 : decode cX3_set 1 = .ok (.invokevirtual 127, 3) := by decide +kernel
theorem dX3_set_4 : decode cX3_set 4 = .ok (.iload_n 1, 1) := by decide +kernel
theorem dX3_set_5 : decode cX3_set 5 = .ok (.aload_n 0, 1) := by decide +kernel
theorem dX3_set_6 : decode cX3_set 6 = .ok (.getfield 19, 3) := by decide +kernel
theorem dX3_set_9 : decode cX3_set 9 = .ok (.getfield 150, 3) := by decide +kernel
theorem dX3_set_12 : decode cX3_set 12 = .ok (.aload_n 0, 1) := by decide +kernel
theorem dX3_set_13 : decode cX3_set 13 = .ok (.getfield 19, 3) := by decide +kernel
theorem dX3_set_16 : decode cX3_set 16 = .ok (.getfield 124, 3) := by decide +kernel
theorem dX3_set_19 : decode cX3_set 19 = .ok (.iconst 1, 1) := by decide +kernel
theorem dX3_set_20 : decode cX3_set 20 = .ok (.isub, 1) := by decide +kernel
theorem dX3_set_21 : decode cX3_set 21 = .ok (.invokestatic 48, 3) := by decide +kernel
theorem dX3_set_24 : decode cX3_set 24 = .ok (.ifCond .ne 13, 3) := by decide +kernel
theorem dX3_set_27 : decode cX3_set 27 = .ok (.new 130, 3) := by decide +kernel
theorem dX3_set_30 : decode cX3_set 30 = .ok (.dup, 1) := by decide +kernel
theorem dX3_set_31 : decode cX3_set 31 = .ok (.ldc 153, 2) := by decide +kernel
theorem dX3_set_33 : decode cX3_set 33 = .ok (.invokespecial 134, 3) := by decide +kernel
theorem dX3_set_36 : decode cX3_set 36 = .ok (.athrow, 1) := by decide +kernel
theorem dX3_set_37 : decode cX3_set 37 = .ok (.aload_n 0, 1) := by decide +kernel
theorem dX3_set_38 : decode cX3_set 38 = .ok (.getfield 41, 3) := by decide +kernel
theorem dX3_set_41 : decode cX3_set 41 = .ok (.istore_n 3, 1) := by decide +kernel
theorem dX3_set_42 : decode cX3_set 42 = .ok (.aload_n 0, 1) := by decide +kernel
theorem dX3_set_43 : decode cX3_set 43 = .ok (.getfield 19, 3) := by decide +kernel
theorem dX3_set_46 : decode cX3_set 46 = .ok (.iload_n 1, 1) := by decide +kernel
theorem dX3_set_47 : decode cX3_set 47 = .ok (.invokevirtual 155, 3) := by decide +kernel
theorem dX3_set_50 : decode cX3_set 50 = .ok (.istore 4, 2) := by decide +kernel
theorem dX3_set_52 : decode cX3_set 52 = .ok (.aload_n 0, 1) := by decide +kernel
theorem dX3_set_53 : decode cX3_set 53 = .ok (.iload_n 2, 1) := by decide +kernel
theorem dX3_set_54 : decode cX3_set 54 = .ok (.ifCond .eq 10, 3) := by decide +kernel
theorem dX3_set_57 : decode cX3_set 57 = .ok (.iload_n 3, 1) := by decide +kernel
theorem dX3_set_58 : decode cX3_set 58 = .ok (.iload 4, 2) := by decide +kernel
theorem dX3_set_60 : decode cX3_set 60 = .ok (.ior, 1) := by decide +kernel
theorem dX3_set_61 : decode cX3_set 61 = .ok (.goto 9, 3) := by decide +kernel
theorem dX3_set_64 : decode cX3_set 64 = .ok (.iload_n 3, 1) := by decide +kernel
theorem dX3_set_65 : decode cX3_set 65 = .ok (.iload 4, 2) := by decide +kernel
theorem dX3_set_67 : decode cX3_set 67 = .ok (.iconst (-1), 1) := by decide +kernel
theorem dX3_set_68 : decode cX3_set 68 = .ok (.ixor, 1) := by decide +kernel
theorem dX3_set_69 : decode cX3_set 69 = .ok (.iand, 1) := by decide +kernel
theorem dX3_set_70 : decode cX3_set 70 = .ok (.putfield 41, 3) := by decide +kernel
theorem dX3_set_73 : decode cX3_set 73 = .ok (.aload_n 0, 1) := by decide +kernel
theorem dX3_set_74 : decode cX3_set 74 = .ok (.getfield 41, 3) := by decide +kernel
theorem dX3_set_77 : decode cX3_set 77 = .ok (.iload_n 3, 1) := by decide +kernel
theorem dX3_set_78 : decode cX3_set 78 = .ok (.if_icmp .eq 7, 3) := by decide +kernel
theorem dX3_set_81 : decode cX3_set 81 = .ok (.iconst 1, 1) := by decide +kernel
theorem dX3_set_82 : decode cX3_set 82 = .ok (.goto 4, 3) := by decide +kernel
theorem dX3_set_85 : decode cX3_set 85 = .ok (.iconst 0, 1) := by decide +kernel
theorem dX3_set_86 : decode cX3_set 86 = .ok (.ireturn, 1) := by decide +kernel
set_option maxRecDepth 20000 in
theorem ggX3_setting_X3_requireTree : GoodIn wsX3_setting wsX3_requireTree := goodIn_ca (goodIn_r _ [6, 7, 8, 9, 10, 11, 12, 13, 14, 15, 16] (by decide +kernel) (by decide +kernel)) (goodIn_sub (fun _ h => List.mem_cons_of_mem _ (List.mem_append_right _ h)) (by decide +kernel))
set_option maxRecDepth 20000 in
theorem gX3_setting_X3_requireTree : GoodIn wsX3_setting (wsV RX3 127 RX3 yX3_requireTree wsX3_requireTree) := goodIn_app (goodIn_of _ (by decide +kernel)) ggX3_setting_X3_requireTree
theorem dX3_setting_0 : decode cX3_setting 0 = .ok (.aload_n 0, 1) := by decide +kernel
theorem dX3_setting_1 : decode cX3_setting 1 = .ok (.invokevirtual 127, 3) := by decide +kernel
theorem dX3_setting_4 : decode cX3_setting 4 = .ok (.aload_n 0, 1) := by decide +kernel
theorem dX3_setting_5 : decode cX3_setting 5 = .ok (.getfield 41, 3) := by decide +kernel
theorem dX3_setting_8 : decode cX3_setting 8 = .ok (.ireturn, 1) := by decide +kernel
set_option maxRecDepth 20000 in
theorem ggX3_load_X3_requireTree : GoodIn wsX3_load wsX3_requireTree := goodIn_ca (goodIn_r _ [14, 15, 16, 17, 78, 79, 80, 81, 82, 83, 84] (by decide +kernel) (by decide +kernel)) (goodIn_sub (fun _ h => List.mem_cons_of_mem _ (List.mem_append_right _ h)) (by decide +kernel))
set_option maxRecDepth 20000 in
theorem gX3_load_X3_requireTree : GoodIn wsX3_load (wsV RX3 127 RX3 yX3_requireTree wsX3_requireTree) := goodIn_app (goodIn_of _ (by decide +kernel)) ggX3_load_X3_requireTree
set_option maxRecDepth 20000 in
theorem ggX3_load_X3_isWithin : GoodIn wsX3_load wsX3_isWithin := goodIn_r _ [20] (by decide +kernel) (by decide +kernel)
set_option maxRecDepth 20000 in
theorem gX3_load_X3_isWithin : GoodIn wsX3_load (va_wsS RX3 48 yX3_isWithin wsX3_isWithin) := goodIn_app (goodIn_of _ (by decide +kernel)) ggX3_load_X3_isWithin
set_option maxRecDepth 20000 in
theorem ggX3_load_X0_weigh : GoodIn wsX3_load wsX0_weigh := goodIn_r _ [25, 26, 27, 28, 29, 30, 24, 31, 32, 33, 34, 35, 36, 37, 38, 39, 40, 41, 42, 43, 44, 45, 46, 47, 48, 49, 50, 51, 52, 53, 54, 55, 56, 57, 58, 59, 60, 61, 62, 63, 64, 65, 66, 67, 68, 69, 70, 71, 72, 73, 74, 75, 76, 77, 85, 86, 87, 88, 89, 90, 91, 92, 93, 94, 95, 96, 97, 98, 99, 100, 101, 102, 103, 104, 105, 106, 107, 108, 109, 110, 111, 112, 113] (by decide +kernel) (by decide +kernel)
set_option maxRecDepth 20000 in
theorem gX3_load_X0_weigh : GoodIn wsX3_load (wsV RX3 160 RX0 yX0_weigh wsX0_weigh) := goodIn_app (goodIn_of _ (by decide +kernel)) ggX3_load_X0_weigh
theorem dX3_load_0 : decode cX3_load 0 = .ok (.aload_n 0, 1) := by decide +kernel
theorem dX3_load_1 : decode cX3_load 1 = .ok (.invokevirtual 127, 3) := by decide +kernel
theorem dX3_load_4 : decode cX3_load 4 = .ok (.iload_n 1, 1) := by decide +kernel
theorem dX3_load_5 : decode cX3_load 5 = .ok (.iconst 0, 1) := by decide +kernel
theorem dX3_load_6 : decode cX3_load 6 = .ok (.aload_n 0, 1) := by decide +kernel
theorem dX3_load_7 : decode cX3_load 7 = .ok (.getfield 19, 3) := by decide +kernel
theorem dX3_load_10 : decode cX3_load 10 = .ok (.getfield 124, 3) := by decide +kernel
theorem dX3_load_13 : decode cX3_load 13 = .ok (.iconst 1, 1) := by decide +kernel
theorem dX3_load_14 : decode cX3_load 14 = .ok (.isub, 1) := by decide +kernel
theorem dX3_load_15 : decode cX3_load 15 = .ok (.invokestatic 48, 3) := by decide +kernel
theorem dX3_load_18 : decode cX3_load 18 = .ok (.ifCond .ne 13, 3) := by decide +kernel
theorem dX3_load_21 : decode cX3_load 21 = .ok (.new 130, 3) := by decide +kernel
theorem dX3_load_24 : decode cX3_load 24 = .ok (.dup, 1) := by decide +kernel
theorem dX3_load_25 : decode cX3_load 25 = .ok (.ldc 158, 2) := by decide +kernel
theorem dX3_load_27 : decode cX3_load 27 = .ok (.invokespecial 134, 3) := by decide +kernel
theorem dX3_load_30 : decode cX3_load 30 = .ok (.athrow, 1) := by decide +kernel
theorem dX3_load_31 : decode cX3_load 31 = .ok (.aload_n 0, 1) := by decide +kernel
theorem dX3_load_32 : decode cX3_load 32 = .ok (.getfield 26, 3) := by decide +kernel
theorem dX3_load_35 : decode cX3_load 35 = .ok (.aload_n 0, 1) := by decide +kernel
theorem dX3_load_36 : decode cX3_load 36 = .ok (.getfield 19, 3) := by decide +kernel
theorem dX3_load_39 : decode cX3_load 39 = .ok (.aload_n 0, 1) := by decide +kernel
theorem dX3_load_40 : decode cX3_load 40 = .ok (.getfield 12, 3) := by decide +kernel
theorem dX3_load_43 : decode cX3_load 43 = .ok (.aload_n 0, 1) := by decide +kernel
theorem dX3_load_44 : decode cX3_load 44 = .ok (.getfield 41, 3) := by decide +kernel
theorem dX3_load_47 : decode cX3_load 47 = .ok (.invokevirtual 160, 3) := by decide +kernel
theorem dX3_load_50 : decode cX3_load 50 = .ok (.iload_n 2, 1) := by decide +kernel
theorem dX3_load_51 : decode cX3_load 51 = .ok (.ifCond .eq 15, 3) := by decide +kernel
theorem dX3_load_54 : decode cX3_load 54 = .ok (.aload_n 0, 1) := by decide +kernel
theorem dX3_load_55 : decode cX3_load 55 = .ok (.getfield 26, 3) := by decide +kernel
theorem dX3_load_58 : decode cX3_load 58 = .ok (.getfield 164, 3) := by decide +kernel
theorem dX3_load_61 : decode cX3_load 61 = .ok (.iload_n 1, 1) := by decide +kernel
theorem dX3_load_62 : decode cX3_load 62 = .ok (.laload, 1) := by decide +kernel
theorem dX3_load_63 : decode cX3_load 63 = .ok (.goto 12, 3) := by decide +kernel
theorem dX3_load_66 : decode cX3_load 66 = .ok (.aload_n 0, 1) := by decide +kernel
theorem dX3_load_67 : decode cX3_load 67 = .ok (.getfield 26, 3) := by decide +kernel
theorem dX3_load_70 : decode cX3_load 70 = .ok (.getfield 168, 3) := by decide +kernel
theorem dX3_load_73 : decode cX3_load 73 = .ok (.iload_n 1, 1) := by decide +kernel
theorem dX3_load_74 : decode cX3_load 74 = .ok (.laload, 1) := by decide +kernel
theorem dX3_load_75 : decode cX3_load 75 = .ok (.lreturn, 1) := by decide +kernel
set_option maxRecDepth 20000 in
theorem ggX3_delay_X3_requireTree : GoodIn wsX3_delay wsX3_requireTree := goodIn_ca (goodIn_r _ [9, 10, 11, 12, 85, 86, 87, 88, 89, 90, 91] (by decide +kernel) (by decide +kernel)) (goodIn_sub (fun _ h => List.mem_cons_of_mem _ (List.mem_append_left _ (List.mem_append_right _ h))) (by decide +kernel))
set_option maxRecDepth 20000 in
theorem gX3_delay_X3_requireTree : GoodIn wsX3_delay (wsV RX3 127 RX3 yX3_requireTree wsX3_requireTree) := goodIn_app (goodIn_of _ (by decide +kernel)) ggX3_delay_X3_requireTree
set_option maxRecDepth 20000 in
theorem ggX3_delay_X3_requireSink : GoodIn wsX3_delay wsX3_requireSink := goodIn_ca (goodIn_r _ [16, 17, 18, 2, 19, 20, 21, 8, 22, 85, 86, 87, 88, 89, 90, 91, 92, 93, 94, 95, 96, 97, 98, 99, 100, 101, 102, 103, 104, 105] (by decide +kernel) (by decide +kernel)) (goodIn_sub (fun _ h => List.mem_cons_of_mem _ (List.mem_append_right _ h)) (by decide +kernel))
set_option maxRecDepth 20000 in
theorem gX3_delay_X3_requireSink : GoodIn wsX3_delay (wsV RX3 142 RX3 yX3_requireSink wsX3_requireSink) := goodIn_app (goodIn_of _ (by decide +kernel)) ggX3_delay_X3_requireSink
set_option maxRecDepth 20000 in
theorem ggX3_delay_X0_weigh : GoodIn wsX3_delay wsX0_weigh := goodIn_r _ [27, 28, 29, 30, 31, 32, 26, 33, 34, 35, 36, 37, 38, 39, 40, 41, 42, 43, 44, 45, 46, 47, 48, 49, 50, 51, 52, 53, 54, 55, 56, 57, 58, 59, 60, 61, 62, 63, 64, 65, 66, 67, 68, 69, 70, 71, 72, 73, 74, 75, 76, 77, 78, 79, 92, 93, 94, 95, 96, 97, 98, 99, 100, 101, 102, 103, 104, 105, 106, 107, 108, 109, 110, 111, 112, 113, 114, 115, 116, 117, 118, 119, 120] (by decide +kernel) (by decide +kernel)
set_option maxRecDepth 20000 in
theorem gX3_delay_X0_weigh : GoodIn wsX3_delay (wsV RX3 160 RX0 yX0_weigh wsX0_weigh) := goodIn_app (goodIn_of _ (by decide +kernel)) ggX3_delay_X0_weigh
set_option maxRecDepth 20000 in
theorem ggX3_delay_X0_delayTo : GoodIn wsX3_delay wsX0_delayTo := goodIn_r _ [83, 28, 29, 84, 68, 69, 70, 26, 71, 72, 63, 73, 37, 58, 59, 60, 61, 62, 41, 42, 43, 44, 45, 46, 74, 75, 76, 77, 78, 79, 34, 92, 93, 94, 95, 96, 97, 98, 99, 100, 101, 102, 103, 104, 105, 106, 107, 108, 109, 110, 111, 112, 113, 114, 115] (by decide +kernel) (by decide +kernel)
set_option maxRecDepth 20000 in
theorem gX3_delay_X0_delayTo : GoodIn wsX3_delay (wsV RX3 171 RX0 yX0_delayTo wsX0_delayTo) := goodIn_app (goodIn_of _ (by decide +kernel)) ggX3_delay_X0_delayTo
theorem dX3_delay_0 : decode cX3_delay 0 = .ok (.aload_n 0, 1) := by decide +kernel
theorem dX3_delay_1 : decode cX3_delay 1 = .ok (.invokevirtual 127, 3) := by decide +kernel
theorem dX3_delay_4 : decode cX3_delay 4 = .ok (.aload_n 0, 1) := by decide +kernel
theorem dX3_delay_5 : decode cX3_delay 5 = .ok (.iload_n 1, 1) := by decide +kernel
theorem dX3_delay_6 : decode cX3_delay 6 = .ok (.invokevirtual 142, 3) := by decide +kernel
theorem dX3_delay_9 : decode cX3_delay 9 = .ok (.aload_n 0, 1) := by decide +kernel
theorem dX3_delay_10 : decode cX3_delay 10 = .ok (.getfield 26, 3) := by decide +kernel
theorem dX3_delay_13 : decode cX3_delay 13 = .ok (.aload_n 0, 1) := by decide +kernel
theorem dX3_delay_14 : decode cX3_delay 14 = .ok (.getfield 19, 3) := by decide +kernel
theorem dX3_delay_17 : decode cX3_delay 17 = .ok (.aload_n 0, 1) := by decide +kernel
theorem dX3_delay_18 : decode cX3_delay 18 = .ok (.getfield 12, 3) := by decide +kernel
theorem dX3_delay_21 : decode cX3_delay 21 = .ok (.aload_n 0, 1) := by decide +kernel
theorem dX3_delay_22 : decode cX3_delay 22 = .ok (.getfield 41, 3) := by decide +kernel
theorem dX3_delay_25 : decode cX3_delay 25 = .ok (.invokevirtual 160, 3) := by decide +kernel
theorem dX3_delay_28 : decode cX3_delay 28 = .ok (.aload_n 0, 1) := by decide +kernel
theorem dX3_delay_29 : decode cX3_delay 29 = .ok (.getfield 26, 3) := by decide +kernel
theorem dX3_delay_32 : decode cX3_delay 32 = .ok (.aload_n 0, 1) := by decide +kernel
theorem dX3_delay_33 : decode cX3_delay 33 = .ok (.getfield 19, 3) := by decide +kernel
theorem dX3_delay_36 : decode cX3_delay 36 = .ok (.iload_n 1, 1) := by decide +kernel
theorem dX3_delay_37 : decode cX3_delay 37 = .ok (.aload_n 0, 1) := by decide +kernel
theorem dX3_delay_38 : decode cX3_delay 38 = .ok (.getfield 41, 3) := by decide +kernel
theorem dX3_delay_41 : decode cX3_delay 41 = .ok (.invokevirtual 171, 3) := by decide +kernel
theorem dX3_delay_44 : decode cX3_delay 44 = .ok (.lreturn, 1) := by decide +kernel
set_option maxRecDepth 20000 in
theorem ggX3_slack_X3_requireTree : GoodIn wsX3_slack wsX3_requireTree := goodIn_ca (goodIn_r _ [9, 10, 11, 12, 74, 75, 76, 77, 78, 79, 80] (by decide +kernel) (by decide +kernel)) (goodIn_sub (fun _ h => List.mem_cons_of_mem _ (List.mem_append_right _ h)) (by decide +kernel))
set_option maxRecDepth 20000 in
theorem gX3_slack_X3_requireTree : GoodIn wsX3_slack (wsV RX3 127 RX3 yX3_requireTree wsX3_requireTree) := goodIn_app (goodIn_of _ (by decide +kernel)) ggX3_slack_X3_requireTree
set_option maxRecDepth 20000 in
theorem ggX3_slack_X0_weigh : GoodIn wsX3_slack wsX0_weigh := goodIn_r _ [17, 18, 19, 20, 21, 22, 16, 23, 24, 25, 26, 27, 28, 29, 30, 31, 32, 33, 34, 35, 36, 37, 38, 39, 40, 41, 42, 43, 44, 45, 46, 47, 48, 49, 50, 51, 52, 53, 54, 55, 56, 57, 58, 59, 60, 61, 62, 63, 64, 65, 66, 67, 68, 69, 81, 82, 83, 84, 85, 86, 87, 88, 89, 90, 91, 92, 93, 94, 95, 96, 97, 98, 99, 100, 101, 102, 103, 104, 105, 106, 107, 108, 109] (by decide +kernel) (by decide +kernel)
set_option maxRecDepth 20000 in
theorem gX3_slack_X0_weigh : GoodIn wsX3_slack (wsV RX3 160 RX0 yX0_weigh wsX0_weigh) := goodIn_app (goodIn_of _ (by decide +kernel)) ggX3_slack_X0_weigh
set_option maxRecDepth 20000 in
theorem ggX3_slack_X0_slackAtSource : GoodIn wsX3_slack wsX0_slackAtSource := goodIn_r _ [73, 19, 54, 55, 56, 16, 57, 28, 58, 59, 60, 61, 62, 53, 63, 27, 48, 49, 50, 51, 52, 81, 82, 83, 84, 85, 86, 87, 88, 89, 90, 91, 92, 93, 94, 95, 96, 97, 98, 99, 100, 101, 102, 103, 104] (by decide +kernel) (by decide +kernel)
set_option maxRecDepth 20000 in
theorem gX3_slack_X0_slackAtSource : GoodIn wsX3_slack (wsV RX3 175 RX0 yX0_slackAtSource wsX0_slackAtSource) := goodIn_app (goodIn_of _ (by decide +kernel)) ggX3_slack_X0_slackAtSource
theorem dX3_slack_0 : decode cX3_slack 0 = .ok (.aload_n 0, 1) := by decide +kernel
theorem dX3_slack_1 : decode cX3_slack 1 = .ok (.invokevirtual 127, 3) := by decide +kernel
theorem dX3_slack_4 : decode cX3_slack 4 = .ok (.aload_n 0, 1) := by decide +kernel
theorem dX3_slack_5 : decode cX3_slack 5 = .ok (.getfield 26, 3) := by decide +kernel
theorem dX3_slack_8 : decode cX3_slack 8 = .ok (.aload_n 0, 1) := by decide +kernel
theorem dX3_slack_9 : decode cX3_slack 9 = .ok (.getfield 19, 3) := by decide +kernel
theorem dX3_slack_12 : decode cX3_slack 12 = .ok (.aload_n 0, 1) := by decide +kernel
theorem dX3_slack_13 : decode cX3_slack 13 = .ok (.getfield 12, 3) := by decide +kernel
theorem dX3_slack_16 : decode cX3_slack 16 = .ok (.aload_n 0, 1) := by decide +kernel
theorem dX3_slack_17 : decode cX3_slack 17 = .ok (.getfield 41, 3) := by decide +kernel
theorem dX3_slack_20 : decode cX3_slack 20 = .ok (.invokevirtual 160, 3) := by decide +kernel
theorem dX3_slack_23 : decode cX3_slack 23 = .ok (.aload_n 0, 1) := by decide +kernel
theorem dX3_slack_24 : decode cX3_slack 24 = .ok (.getfield 26, 3) := by decide +kernel
theorem dX3_slack_27 : decode cX3_slack 27 = .ok (.aload_n 0, 1) := by decide +kernel
theorem dX3_slack_28 : decode cX3_slack 28 = .ok (.getfield 19, 3) := by decide +kernel
theorem dX3_slack_31 : decode cX3_slack 31 = .ok (.invokevirtual 175, 3) := by decide +kernel
theorem dX3_slack_34 : decode cX3_slack 34 = .ok (.lreturn, 1) := by decide +kernel
set_option maxRecDepth 20000 in
theorem ggX3_best_X3_requireTree : GoodIn wsX3_best wsX3_requireTree := goodIn_ca (goodIn_r _ [9, 10, 11, 12, 83, 84, 85, 86, 87, 88, 89] (by decide +kernel) (by decide +kernel)) (goodIn_sub (fun _ h => List.mem_cons_of_mem _ (List.mem_append_right _ h)) (by decide +kernel))
set_option maxRecDepth 20000 in
theorem gX3_best_X3_requireTree : GoodIn wsX3_best (wsV RX3 127 RX3 yX3_requireTree wsX3_requireTree) := goodIn_app (goodIn_of _ (by decide +kernel)) ggX3_best_X3_requireTree
set_option maxRecDepth 20000 in
theorem ggX3_best_X0_findBest : GoodIn wsX3_best wsX0_findBest := goodIn_r _ [17, 18, 19, 20, 21, 22, 16, 23, 24, 25, 26, 27, 28, 29, 30, 31, 32, 33, 34, 35, 36, 37, 38, 39, 40, 41, 42, 43, 44, 45, 46, 47, 48, 49, 50, 51, 52, 53, 54, 55, 56, 57, 58, 59, 60, 61, 62, 63, 64, 65, 66, 67, 68, 69, 70, 71, 72, 73, 74, 75, 76, 77, 78, 79, 80, 81, 82, 90, 91, 92, 93, 94, 95, 96, 97, 98, 99, 100, 101, 102, 103, 104, 105, 106, 107, 108, 109, 110, 111, 112, 113, 114, 115, 116, 117, 118] (by decide +kernel) (by decide +kernel)
set_option maxRecDepth 20000 in
theorem gX3_best_X0_findBest : GoodIn wsX3_best (wsV RX3 179 RX0 yX0_findBest wsX0_findBest) := goodIn_app (goodIn_of _ (by decide +kernel)) ggX3_best_X0_findBest
theorem dX3_best_0 : decode cX3_best 0 = .ok (.aload_n 0, 1) := by decide +kernel
theorem dX3_best_1 : decode cX3_best 1 = .ok (.invokevirtual 127, 3) := by decide +kernel
theorem dX3_best_4 : decode cX3_best 4 = .ok (.aload_n 0, 1) := by decide +kernel
theorem dX3_best_5 : decode cX3_best 5 = .ok (.getfield 26, 3) := by decide +kernel
theorem dX3_best_8 : decode cX3_best 8 = .ok (.aload_n 0, 1) := by decide +kernel
theorem dX3_best_9 : decode cX3_best 9 = .ok (.getfield 19, 3) := by decide +kernel
theorem dX3_best_12 : decode cX3_best 12 = .ok (.aload_n 0, 1) := by decide +kernel
theorem dX3_best_13 : decode cX3_best 13 = .ok (.getfield 12, 3) := by decide +kernel
theorem dX3_best_16 : decode cX3_best 16 = .ok (.invokevirtual 179, 3) := by decide +kernel
theorem dX3_best_19 : decode cX3_best 19 = .ok (.aload_n 0, 1) := by decide +kernel
theorem dX3_best_20 : decode cX3_best 20 = .ok (.getfield 26, 3) := by decide +kernel
theorem dX3_best_23 : decode cX3_best 23 = .ok (.getfield 183, 3) := by decide +kernel
theorem dX3_best_26 : decode cX3_best 26 = .ok (.lreturn, 1) := by decide +kernel
set_option maxRecDepth 20000 in
theorem ggX3_improve_X3_requireTree : GoodIn wsX3_improve wsX3_requireTree := goodIn_ca (goodIn_r _ [10, 11, 12, 13, 84, 85, 86, 87, 88, 89, 90] (by decide +kernel) (by decide +kernel)) (goodIn_sub (fun _ h => List.mem_cons_of_mem _ (List.mem_append_right _ h)) (by decide +kernel))
set_option maxRecDepth 20000 in
theorem gX3_improve_X3_requireTree : GoodIn wsX3_improve (wsV RX3 127 RX3 yX3_requireTree wsX3_requireTree) := goodIn_app (goodIn_of _ (by decide +kernel)) ggX3_improve_X3_requireTree
set_option maxRecDepth 20000 in
theorem ggX3_improve_X0_findBest : GoodIn wsX3_improve wsX0_findBest := goodIn_r _ [18, 19, 20, 21, 22, 23, 17, 24, 25, 26, 27, 28, 29, 30, 31, 32, 33, 34, 35, 36, 37, 38, 39, 40, 41, 42, 43, 44, 45, 46, 47, 48, 49, 50, 51, 52, 53, 54, 55, 56, 57, 58, 59, 60, 61, 62, 63, 64, 65, 66, 67, 68, 69, 70, 71, 72, 73, 74, 75, 76, 77, 78, 79, 80, 81, 82, 83, 91, 92, 93, 94, 95, 96, 97, 98, 99, 100, 101, 102, 103, 104, 105, 106, 107, 108, 109, 110, 111, 112, 113, 114, 115, 116, 117, 118, 119] (by decide +kernel) (by decide +kernel)
set_option maxRecDepth 20000 in
theorem gX3_improve_X0_findBest : GoodIn wsX3_improve (wsV RX3 179 RX0 yX0_findBest wsX0_findBest) := goodIn_app (goodIn_of _ (by decide +kernel)) ggX3_improve_X0_findBest
theorem dX3_improve_0 : decode cX3_improve 0 = .ok (.aload_n 0, 1) := by decide +kernel
theorem dX3_improve_1 : decode cX3_improve 1 = .ok (.invokevirtual 127, 3) := by decide +kernel
theorem dX3_improve_4 : decode cX3_improve 4 = .ok (.aload_n 0, 1) := by decide +kernel
theorem dX3_improve_5 : decode cX3_improve 5 = .ok (.getfield 26, 3) := by decide +kernel
theorem dX3_improve_8 : decode cX3_improve 8 = .ok (.aload_n 0, 1) := by decide +kernel
theorem dX3_improve_9 : decode cX3_improve 9 = .ok (.getfield 19, 3) := by decide +kernel
theorem dX3_improve_12 : decode cX3_improve 12 = .ok (.aload_n 0, 1) := by decide +kernel
theorem dX3_improve_13 : decode cX3_improve 13 = .ok (.getfield 12, 3) := by decide +kernel
theorem dX3_improve_16 : decode cX3_improve 16 = .ok (.invokevirtual 179, 3) := by decide +kernel
theorem dX3_improve_19 : decode cX3_improve 19 = .ok (.aload_n 0, 1) := by decide +kernel
theorem dX3_improve_20 : decode cX3_improve 20 = .ok (.aload_n 0, 1) := by decide +kernel
theorem dX3_improve_21 : decode cX3_improve 21 = .ok (.getfield 26, 3) := by decide +kernel
theorem dX3_improve_24 : decode cX3_improve 24 = .ok (.getfield 187, 3) := by decide +kernel
theorem dX3_improve_27 : decode cX3_improve 27 = .ok (.putfield 41, 3) := by decide +kernel
theorem dX3_improve_30 : decode cX3_improve 30 = .ok (.aload_n 0, 1) := by decide +kernel
theorem dX3_improve_31 : decode cX3_improve 31 = .ok (.getfield 41, 3) := by decide +kernel
theorem dX3_improve_34 : decode cX3_improve 34 = .ok (.ireturn, 1) := by decide +kernel
theorem dX3_requireTree_0 : decode cX3_requireTree 0 = .ok (.aload_n 0, 1) := by decide +kernel
theorem dX3_requireTree_1 : decode cX3_requireTree 1 = .ok (.getfield 37, 3) := by decide +kernel
theorem dX3_requireTree_4 : decode cX3_requireTree 4 = .ok (.ifCond .ne 13, 3) := by decide +kernel
theorem dX3_requireTree_7 : decode cX3_requireTree 7 = .ok (.new 190, 3) := by decide +kernel
theorem dX3_requireTree_10 : decode cX3_requireTree 10 = .ok (.dup, 1) := by decide +kernel
theorem dX3_requireTree_11 : decode cX3_requireTree 11 = .ok (.ldc 192, 2) := by decide +kernel
theorem dX3_requireTree_13 : decode cX3_requireTree 13 = .ok (.invokespecial 194, 3) := by decide +kernel
theorem dX3_requireTree_16 : decode cX3_requireTree 16 = .ok (.athrow, 1) := by decide +kernel
theorem dX3_requireTree_17 : decode cX3_requireTree 17 = .ok (.return_, 1) := by decide +kernel
set_option maxRecDepth 20000 in
theorem ggX3_requireSink_X3_isWithin : GoodIn wsX3_requireSink wsX3_isWithin := goodIn_r _ [8] (by decide +kernel) (by decide +kernel)
set_option maxRecDepth 20000 in
theorem gX3_requireSink_X3_isWithin : GoodIn wsX3_requireSink (va_wsS RX3 48 yX3_isWithin wsX3_isWithin) := goodIn_app (goodIn_of _ (by decide +kernel)) ggX3_requireSink_X3_isWithin
theorem dX3_requireSink_0 : decode cX3_requireSink 0 = .ok (.iload_n 1, 1) := by decide +kernel
theorem dX3_requireSink_1 : decode cX3_requireSink 1 = .ok (.iconst 0, 1) := by decide +kernel
theorem dX3_requireSink_2 : decode cX3_requireSink 2 = .ok (.aload_n 0, 1) := by decide +kernel
theorem dX3_requireSink_3 : decode cX3_requireSink 3 = .ok (.getfield 19, 3) := by decide +kernel
theorem dX3_requireSink_6 : decode cX3_requireSink 6 = .ok (.getfield 150, 3) := by decide +kernel
theorem dX3_requireSink_9 : decode cX3_requireSink 9 = .ok (.iconst 1, 1) := by decide +kernel
theorem dX3_requireSink_10 : decode cX3_requireSink 10 = .ok (.isub, 1) := by decide +kernel
theorem dX3_requireSink_11 : decode cX3_requireSink 11 = .ok (.invokestatic 48, 3) := by decide +kernel
theorem dX3_requireSink_14 : decode cX3_requireSink 14 = .ok (.ifCond .ne 13, 3) := by decide +kernel
theorem dX3_requireSink_17 : decode cX3_requireSink 17 = .ok (.new 130, 3) := by decide +kernel
theorem dX3_requireSink_20 : decode cX3_requireSink 20 = .ok (.dup, 1) := by decide +kernel
theorem dX3_requireSink_21 : decode cX3_requireSink 21 = .ok (.ldc 195, 2) := by decide +kernel
theorem dX3_requireSink_23 : decode cX3_requireSink 23 = .ok (.invokespecial 134, 3) := by decide +kernel
theorem dX3_requireSink_26 : decode cX3_requireSink 26 = .ok (.athrow, 1) := by decide +kernel
theorem dX3_requireSink_27 : decode cX3_requireSink 27 = .ok (.return_, 1) := by decide +kernel
set_option maxRecDepth 20000 in
theorem ggX3_isPlace_X3_isWithin : GoodIn wsX3_isPlace wsX3_isWithin := goodIn_r _ [4] (by decide +kernel) (by decide +kernel)
end
section
set_option maxRecDepth 20000 in
theorem gX3_isPlace_X3_isWithin : GoodIn wsX3_isPlace (va_wsS RX3 48 yX3_isWithin wsX3_isWithin) := goodIn_app (goodIn_of _ (by decide +kernel)) ggX3_isPlace_X3_isWithin
theorem dX3_isPlace_0 : decode cX3_isPlace 0 = .ok (.iload_n 0, 1) := by decide +kernel
theorem dX3_isPlace_1 : decode cX3_isPlace 1 = .ok (.iconst 0, 1) := by decide +kernel
theorem dX3_isPlace_2 : decode cX3_isPlace 2 = .ok (.sipush 200, 3) := by decide +kernel
theorem dX3_isPlace_5 : decode cX3_isPlace 5 = .ok (.invokestatic 48, 3) := by decide +kernel
theorem dX3_isPlace_8 : decode cX3_isPlace 8 = .ok (.ifCond .eq 18, 3) := by decide +kernel
theorem dX3_isPlace_11 : decode cX3_isPlace 11 = .ok (.iload_n 1, 1) := by decide +kernel
theorem dX3_isPlace_12 : decode cX3_isPlace 12 = .ok (.iconst 0, 1) := by decide +kernel
theorem dX3_isPlace_13 : decode cX3_isPlace 13 = .ok (.sipush 200, 3) := by decide +kernel
theorem dX3_isPlace_16 : decode cX3_isPlace 16 = .ok (.invokestatic 48, 3) := by decide +kernel
theorem dX3_isPlace_19 : decode cX3_isPlace 19 = .ok (.ifCond .eq 7, 3) := by decide +kernel
theorem dX3_isPlace_22 : decode cX3_isPlace 22 = .ok (.iconst 1, 1) := by decide +kernel
theorem dX3_isPlace_23 : decode cX3_isPlace 23 = .ok (.goto 4, 3) := by decide +kernel
theorem dX3_isPlace_26 : decode cX3_isPlace 26 = .ok (.iconst 0, 1) := by decide +kernel
theorem dX3_isPlace_27 : decode cX3_isPlace 27 = .ok (.ireturn, 1) := by decide +kernel
theorem dX3_isWithin_0 : decode cX3_isWithin 0 = .ok (.iload_n 0, 1) := by decide +kernel
theorem dX3_isWithin_1 : decode cX3_isWithin 1 = .ok (.iload_n 1, 1) := by decide +kernel
theorem dX3_isWithin_2 : decode cX3_isWithin 2 = .ok (.if_icmp .lt 12, 3) := by decide +kernel
theorem dX3_isWithin_5 : decode cX3_isWithin 5 = .ok (.iload_n 0, 1) := by decide +kernel
theorem dX3_isWithin_6 : decode cX3_isWithin 6 = .ok (.iload_n 2, 1) := by decide +kernel
theorem dX3_isWithin_7 : decode cX3_isWithin 7 = .ok (.if_icmp .gt 7, 3) := by decide +kernel
theorem dX3_isWithin_10 : decode cX3_isWithin 10 = .ok (.iconst 1, 1) := by decide +kernel
theorem dX3_isWithin_11 : decode cX3_isWithin 11 = .ok (.goto 4, 3) := by decide +kernel
theorem dX3_isWithin_14 : decode cX3_isWithin 14 = .ok (.iconst 0, 1) := by decide +kernel
theorem dX3_isWithin_15 : decode cX3_isWithin 15 = .ok (.ireturn, 1) := by decide +kernel
theorem dX3_placeU_0 : decode cX3_placeU 0 = .ok (.sipush 1024, 3) := by decide +kernel
theorem dX3_placeU_3 : decode cX3_placeU 3 = .ok (.iload_n 0, 1) := by decide +kernel
theorem dX3_placeU_4 : decode cX3_placeU 4 = .ok (.iload_n 1, 1) := by decide +kernel
theorem dX3_placeU_5 : decode cX3_placeU 5 = .ok (.iadd, 1) := by decide +kernel
theorem dX3_placeU_6 : decode cX3_placeU 6 = .ok (.imul, 1) := by decide +kernel
theorem dX3_placeU_7 : decode cX3_placeU 7 = .ok (.ireturn, 1) := by decide +kernel
theorem dX3_placeV_0 : decode cX3_placeV 0 = .ok (.sipush 1024, 3) := by decide +kernel
theorem dX3_placeV_3 : decode cX3_placeV 3 = .ok (.iload_n 0, 1) := by decide +kernel
theorem dX3_placeV_4 : decode cX3_placeV 4 = .ok (.iload_n 1, 1) := by decide +kernel
theorem dX3_placeV_5 : decode cX3_placeV 5 = .ok (.isub, 1) := by decide +kernel
theorem dX3_placeV_6 : decode cX3_placeV 6 = .ok (.imul, 1) := by decide +kernel
theorem dX3_placeV_7 : decode cX3_placeV 7 = .ok (.ireturn, 1) := by decide +kernel
theorem dX4_init_0 : decode cX4_init 0 = .ok (.aload_n 0, 1) := by decide +kernel
theorem dX4_init_1 : decode cX4_init 1 = .ok (.invokespecial 1, 3) := by decide +kernel
theorem dX4_init_4 : decode cX4_init 4 = .ok (.aload_n 0, 1) := by decide +kernel
theorem dX4_init_5 : decode cX4_init 5 = .ok (.bipush 10, 2) := by decide +kernel
theorem dX4_init_7 : decode cX4_init 7 = .ok (.newarray .int, 2) := by decide +kernel
theorem dX4_init_9 : decode cX4_init 9 = .ok (.putfield 7, 3) := by decide +kernel
theorem dX4_init_12 : decode cX4_init 12 = .ok (.aload_n 0, 1) := by decide +kernel
theorem dX4_init_13 : decode cX4_init 13 = .ok (.bipush 10, 2) := by decide +kernel
theorem dX4_init_15 : decode cX4_init 15 = .ok (.newarray .int, 2) := by decide +kernel
theorem dX4_init_17 : decode cX4_init 17 = .ok (.putfield 13, 3) := by decide +kernel
theorem dX4_init_20 : decode cX4_init 20 = .ok (.aload_n 0, 1) := by decide +kernel
theorem dX4_init_21 : decode cX4_init 21 = .ok (.bipush 10, 2) := by decide +kernel
theorem dX4_init_23 : decode cX4_init 23 = .ok (.newarray .int, 2) := by decide +kernel
theorem dX4_init_25 : decode cX4_init 25 = .ok (.putfield 16, 3) := by decide +kernel
theorem dX4_init_28 : decode cX4_init 28 = .ok (.aload_n 0, 1) := by decide +kernel
theorem dX4_init_29 : decode cX4_init 29 = .ok (.bipush 10, 2) := by decide +kernel
theorem dX4_init_31 : decode cX4_init 31 = .ok (.newarray .int, 2) := by decide +kernel
theorem dX4_init_33 : decode cX4_init 33 = .ok (.putfield 19, 3) := by decide +kernel
theorem dX4_init_36 : decode cX4_init 36 = .ok (.aload_n 0, 1) := by decide +kernel
theorem dX4_init_37 : decode cX4_init 37 = .ok (.iconst 1, 1) := by decide +kernel
theorem dX4_init_38 : decode cX4_init 38 = .ok (.putfield 22, 3) := by decide +kernel
theorem dX4_init_41 : decode cX4_init 41 = .ok (.aload_n 0, 1) := by decide +kernel
theorem dX4_init_42 : decode cX4_init 42 = .ok (.iconst 1, 1) := by decide +kernel
theorem dX4_init_43 : decode cX4_init 43 = .ok (.putfield 26, 3) := by decide +kernel
theorem dX4_init_46 : decode cX4_init 46 = .ok (.aload_n 0, 1) := by decide +kernel
theorem dX4_init_47 : decode cX4_init 47 = .ok (.iconst 1, 1) := by decide +kernel
theorem dX4_init_48 : decode cX4_init 48 = .ok (.putfield 29, 3) := by decide +kernel
theorem dX4_init_51 : decode cX4_init 51 = .ok (.aload_n 0, 1) := by decide +kernel
theorem dX4_init_52 : decode cX4_init 52 = .ok (.iconst 1, 1) := by decide +kernel
theorem dX4_init_53 : decode cX4_init 53 = .ok (.putfield 32, 3) := by decide +kernel
theorem dX4_init_56 : decode cX4_init 56 = .ok (.aload_n 0, 1) := by decide +kernel
theorem dX4_init_57 : decode cX4_init 57 = .ok (.bipush 19, 2) := by decide +kernel
theorem dX4_init_59 : decode cX4_init 59 = .ok (.newarray .int, 2) := by decide +kernel
theorem dX4_init_61 : decode cX4_init 61 = .ok (.putfield 35, 3) := by decide +kernel
theorem dX4_init_64 : decode cX4_init 64 = .ok (.aload_n 0, 1) := by decide +kernel
theorem dX4_init_65 : decode cX4_init 65 = .ok (.bipush 19, 2) := by decide +kernel
theorem dX4_init_67 : decode cX4_init 67 = .ok (.newarray .int, 2) := by decide +kernel
theorem dX4_init_69 : decode cX4_init 69 = .ok (.putfield 38, 3) := by decide +kernel
theorem dX4_init_72 : decode cX4_init 72 = .ok (.aload_n 0, 1) := by decide +kernel
theorem dX4_init_73 : decode cX4_init 73 = .ok (.bipush 19, 2) := by decide +kernel
theorem dX4_init_75 : decode cX4_init 75 = .ok (.newarray .int, 2) := by decide +kernel
theorem dX4_init_77 : decode cX4_init 77 = .ok (.putfield 41, 3) := by decide +kernel
theorem dX4_init_80 : decode cX4_init 80 = .ok (.aload_n 0, 1) := by decide +kernel
theorem dX4_init_81 : decode cX4_init 81 = .ok (.bipush 19, 2) := by decide +kernel
theorem dX4_init_83 : decode cX4_init 83 = .ok (.newarray .int, 2) := by decide +kernel
theorem dX4_init_85 : decode cX4_init 85 = .ok (.putfield 44, 3) := by decide +kernel
theorem dX4_init_88 : decode cX4_init 88 = .ok (.aload_n 0, 1) := by decide +kernel
theorem dX4_init_89 : decode cX4_init 89 = .ok (.bipush 19, 2) := by decide +kernel
theorem dX4_init_91 : decode cX4_init 91 = .ok (.newarray .int, 2) := by decide +kernel
theorem dX4_init_93 : decode cX4_init 93 = .ok (.putfield 47, 3) := by decide +kernel
theorem dX4_init_96 : decode cX4_init 96 = .ok (.aload_n 0, 1) := by decide +kernel
theorem dX4_init_97 : decode cX4_init 97 = .ok (.bipush 19, 2) := by decide +kernel
theorem dX4_init_99 : decode cX4_init 99 = .ok (.newarray .int, 2) := by decide +kernel
theorem dX4_init_101 : decode cX4_init 101 = .ok (.putfield 50, 3) := by decide +kernel
theorem dX4_init_104 : decode cX4_init 104 = .ok (.aload_n 0, 1) := by decide +kernel
theorem dX4_init_105 : decode cX4_init 105 = .ok (.bipush 19, 2) := by decide +kernel
theorem dX4_init_107 : decode cX4_init 107 = .ok (.newarray .int, 2) := by decide +kernel
theorem dX4_init_109 : decode cX4_init 109 = .ok (.putfield 53, 3) := by decide +kernel
theorem dX4_init_112 : decode cX4_init 112 = .ok (.aload_n 0, 1) := by decide +kernel
theorem dX4_init_113 : decode cX4_init 113 = .ok (.bipush 19, 2) := by decide +kernel
theorem dX4_init_115 : decode cX4_init 115 = .ok (.newarray .int, 2) := by decide +kernel
theorem dX4_init_117 : decode cX4_init 117 = .ok (.putfield 56, 3) := by decide +kernel
theorem dX4_init_120 : decode cX4_init 120 = .ok (.aload_n 0, 1) := by decide +kernel
theorem dX4_init_121 : decode cX4_init 121 = .ok (.bipush 19, 2) := by decide +kernel
theorem dX4_init_123 : decode cX4_init 123 = .ok (.newarray .int, 2) := by decide +kernel
theorem dX4_init_125 : decode cX4_init 125 = .ok (.putfield 59, 3) := by decide +kernel
theorem dX4_init_128 : decode cX4_init 128 = .ok (.aload_n 0, 1) := by decide +kernel
theorem dX4_init_129 : decode cX4_init 129 = .ok (.bipush 19, 2) := by decide +kernel
theorem dX4_init_131 : decode cX4_init 131 = .ok (.newarray .int, 2) := by decide +kernel
theorem dX4_init_133 : decode cX4_init 133 = .ok (.putfield 62, 3) := by decide +kernel
theorem dX4_init_136 : decode cX4_init 136 = .ok (.aload_n 0, 1) := by decide +kernel
theorem dX4_init_137 : decode cX4_init 137 = .ok (.bipush 19, 2) := by decide +kernel
theorem dX4_init_139 : decode cX4_init 139 = .ok (.newarray .int, 2) := by decide +kernel
theorem dX4_init_141 : decode cX4_init 141 = .ok (.putfield 65, 3) := by decide +kernel
theorem dX4_init_144 : decode cX4_init 144 = .ok (.aload_n 0, 1) := by decide +kernel
theorem dX4_init_145 : decode cX4_init 145 = .ok (.bipush 19, 2) := by decide +kernel
theorem dX4_init_147 : decode cX4_init 147 = .ok (.newarray .boolean, 2) := by decide +kernel
theorem dX4_init_149 : decode cX4_init 149 = .ok (.putfield 68, 3) := by decide +kernel
theorem dX4_init_152 : decode cX4_init 152 = .ok (.aload_n 0, 1) := by decide +kernel
theorem dX4_init_153 : decode cX4_init 153 = .ok (.bipush 19, 2) := by decide +kernel
theorem dX4_init_155 : decode cX4_init 155 = .ok (.newarray .boolean, 2) := by decide +kernel
theorem dX4_init_157 : decode cX4_init 157 = .ok (.putfield 72, 3) := by decide +kernel
theorem dX4_init_160 : decode cX4_init 160 = .ok (.aload_n 0, 1) := by decide +kernel
theorem dX4_init_161 : decode cX4_init 161 = .ok (.bipush 10, 2) := by decide +kernel
theorem dX4_init_163 : decode cX4_init 163 = .ok (.newarray .int, 2) := by decide +kernel
theorem dX4_init_165 : decode cX4_init 165 = .ok (.putfield 75, 3) := by decide +kernel
theorem dX4_init_168 : decode cX4_init 168 = .ok (.aload_n 0, 1) := by decide +kernel
theorem dX4_init_169 : decode cX4_init 169 = .ok (.bipush 12, 2) := by decide +kernel
theorem dX4_init_171 : decode cX4_init 171 = .ok (.newarray .int, 2) := by decide +kernel
theorem dX4_init_173 : decode cX4_init 173 = .ok (.putfield 78, 3) := by decide +kernel
theorem dX4_init_176 : decode cX4_init 176 = .ok (.aload_n 0, 1) := by decide +kernel
theorem dX4_init_177 : decode cX4_init 177 = .ok (.bipush 12, 2) := by decide +kernel
theorem dX4_init_179 : decode cX4_init 179 = .ok (.newarray .int, 2) := by decide +kernel
theorem dX4_init_181 : decode cX4_init 181 = .ok (.putfield 81, 3) := by decide +kernel
theorem dX4_init_184 : decode cX4_init 184 = .ok (.aload_n 0, 1) := by decide +kernel
theorem dX4_init_185 : decode cX4_init 185 = .ok (.bipush 12, 2) := by decide +kernel
theorem dX4_init_187 : decode cX4_init 187 = .ok (.newarray .int, 2) := by decide +kernel
theorem dX4_init_189 : decode cX4_init 189 = .ok (.putfield 84, 3) := by decide +kernel
theorem dX4_init_192 : decode cX4_init 192 = .ok (.aload_n 0, 1) := by decide +kernel
theorem dX4_init_193 : decode cX4_init 193 = .ok (.bipush 12, 2) := by decide +kernel
theorem dX4_init_195 : decode cX4_init 195 = .ok (.newarray .int, 2) := by decide +kernel
theorem dX4_init_197 : decode cX4_init 197 = .ok (.putfield 87, 3) := by decide +kernel
theorem dX4_init_200 : decode cX4_init 200 = .ok (.aload_n 0, 1) := by decide +kernel
theorem dX4_init_201 : decode cX4_init 201 = .ok (.bipush 12, 2) := by decide +kernel
theorem dX4_init_203 : decode cX4_init 203 = .ok (.newarray .int, 2) := by decide +kernel
theorem dX4_init_205 : decode cX4_init 205 = .ok (.putfield 90, 3) := by decide +kernel
theorem dX4_init_208 : decode cX4_init 208 = .ok (.aload_n 0, 1) := by decide +kernel
theorem dX4_init_209 : decode cX4_init 209 = .ok (.bipush 19, 2) := by decide +kernel
theorem dX4_init_211 : decode cX4_init 211 = .ok (.newarray .long, 2) := by decide +kernel
theorem dX4_init_213 : decode cX4_init 213 = .ok (.putfield 93, 3) := by decide +kernel
theorem dX4_init_216 : decode cX4_init 216 = .ok (.aload_n 0, 1) := by decide +kernel
theorem dX4_init_217 : decode cX4_init 217 = .ok (.bipush 19, 2) := by decide +kernel
theorem dX4_init_219 : decode cX4_init 219 = .ok (.newarray .long, 2) := by decide +kernel
theorem dX4_init_221 : decode cX4_init 221 = .ok (.putfield 97, 3) := by decide +kernel
theorem dX4_init_224 : decode cX4_init 224 = .ok (.return_, 1) := by decide +kernel
theorem dX4_thrown_0 : decode cX4_thrown 0 = .ok (.aload_n 0, 1) := by decide +kernel
theorem dX4_thrown_1 : decode cX4_thrown 1 = .ok (.getfield 100, 3) := by decide +kernel
theorem dX4_thrown_4 : decode cX4_thrown 4 = .ok (.ireturn, 1) := by decide +kernel
theorem dX4_isPlace_0 : decode cX4_isPlace 0 = .ok (.iload_n 0, 1) := by decide +kernel
theorem dX4_isPlace_1 : decode cX4_isPlace 1 = .ok (.ifCond .lt 14, 3) := by decide +kernel
theorem dX4_isPlace_4 : decode cX4_isPlace 4 = .ok (.iload_n 0, 1) := by decide +kernel
theorem dX4_isPlace_5 : decode cX4_isPlace 5 = .ok (.sipush 200, 3) := by decide +kernel
theorem dX4_isPlace_8 : decode cX4_isPlace 8 = .ok (.if_icmp .gt 7, 3) := by decide +kernel
theorem dX4_isPlace_11 : decode cX4_isPlace 11 = .ok (.iconst 1, 1) := by decide +kernel
theorem dX4_isPlace_12 : decode cX4_isPlace 12 = .ok (.goto 4, 3) := by decide +kernel
theorem dX4_isPlace_15 : decode cX4_isPlace 15 = .ok (.iconst 0, 1) := by decide +kernel
theorem dX4_isPlace_16 : decode cX4_isPlace 16 = .ok (.ireturn, 1) := by decide +kernel
theorem dX4_within_0 : decode cX4_within 0 = .ok (.iload_n 0, 1) := by decide +kernel
theorem dX4_within_1 : decode cX4_within 1 = .ok (.iload_n 1, 1) := by decide +kernel
theorem dX4_within_2 : decode cX4_within 2 = .ok (.if_icmp .lt 12, 3) := by decide +kernel
theorem dX4_within_5 : decode cX4_within 5 = .ok (.iload_n 0, 1) := by decide +kernel
theorem dX4_within_6 : decode cX4_within 6 = .ok (.iload_n 2, 1) := by decide +kernel
theorem dX4_within_7 : decode cX4_within 7 = .ok (.if_icmp .gt 7, 3) := by decide +kernel
theorem dX4_within_10 : decode cX4_within 10 = .ok (.iconst 1, 1) := by decide +kernel
theorem dX4_within_11 : decode cX4_within 11 = .ok (.goto 4, 3) := by decide +kernel
theorem dX4_within_14 : decode cX4_within 14 = .ok (.iconst 0, 1) := by decide +kernel
theorem dX4_within_15 : decode cX4_within 15 = .ok (.ireturn, 1) := by decide +kernel
set_option maxRecDepth 20000 in
theorem ggX4_sink_X4_isPlace : GoodIn wsX4_sink wsX4_isPlace := goodIn_r _ [12] (by decide +kernel) (by decide +kernel)
set_option maxRecDepth 20000 in
theorem gX4_sink_X4_isPlace : GoodIn wsX4_sink (va_wsS RX4 103 yX4_isPlace wsX4_isPlace) := goodIn_app (goodIn_of _ (by decide +kernel)) ggX4_sink_X4_isPlace
set_option maxRecDepth 20000 in
theorem ggX4_sink_X4_within : GoodIn wsX4_sink wsX4_within := goodIn_r _ [15] (by decide +kernel) (by decide +kernel)
set_option maxRecDepth 20000 in
theorem gX4_sink_X4_within : GoodIn wsX4_sink (va_wsS RX4 107 yX4_within wsX4_within) := goodIn_app (goodIn_of _ (by decide +kernel)) ggX4_sink_X4_within
theorem dX4_sink_0 : decode cX4_sink 0 = .ok (.aload_n 0, 1) := by decide +kernel
theorem dX4_sink_1 : decode cX4_sink 1 = .ok (.iload_n 1, 1) := by decide +kernel
theorem dX4_sink_2 : decode cX4_sink 2 = .ok (.invokestatic 103, 3) := by decide +kernel
theorem dX4_sink_5 : decode cX4_sink 5 = .ok (.ifCond .eq 31, 3) := by decide +kernel
theorem dX4_sink_8 : decode cX4_sink 8 = .ok (.iload_n 2, 1) := by decide +kernel
theorem dX4_sink_9 : decode cX4_sink 9 = .ok (.invokestatic 103, 3) := by decide +kernel
theorem dX4_sink_12 : decode cX4_sink 12 = .ok (.ifCond .eq 24, 3) := by decide +kernel
theorem dX4_sink_15 : decode cX4_sink 15 = .ok (.iload_n 3, 1) := by decide +kernel
theorem dX4_sink_16 : decode cX4_sink 16 = .ok (.iconst 1, 1) := by decide +kernel
theorem dX4_sink_17 : decode cX4_sink 17 = .ok (.bipush 100, 2) := by decide +kernel
theorem dX4_sink_19 : decode cX4_sink 19 = .ok (.invokestatic 107, 3) := by decide +kernel
theorem dX4_sink_22 : decode cX4_sink 22 = .ok (.ifCond .eq 14, 3) := by decide +kernel
theorem dX4_sink_25 : decode cX4_sink 25 = .ok (.iload 4, 2) := by decide +kernel
theorem dX4_sink_27 : decode cX4_sink 27 = .ok (.iconst 0, 1) := by decide +kernel
theorem dX4_sink_28 : decode cX4_sink 28 = .ok (.ldc 111, 2) := by decide +kernel
theorem dX4_sink_30 : decode cX4_sink 30 = .ok (.invokestatic 107, 3) := by decide +kernel
theorem dX4_sink_33 : decode cX4_sink 33 = .ok (.ifCond .ne 7, 3) := by decide +kernel
theorem dX4_sink_36 : decode cX4_sink 36 = .ok (.iconst 1, 1) := by decide +kernel
theorem dX4_sink_37 : decode cX4_sink 37 = .ok (.goto 17, 3) := by decide +kernel
theorem dX4_sink_40 : decode cX4_sink 40 = .ok (.aload_n 0, 1) := by decide +kernel
theorem dX4_sink_41 : decode cX4_sink 41 = .ok (.getfield 112, 3) := by decide +kernel
theorem dX4_sink_44 : decode cX4_sink 44 = .ok (.bipush 10, 2) := by decide +kernel
theorem dX4_sink_46 : decode cX4_sink 46 = .ok (.if_icmp .ne 7, 3) := by decide +kernel
theorem dX4_sink_49 : decode cX4_sink 49 = .ok (.iconst 2, 1) := by decide +kernel
theorem dX4_sink_50 : decode cX4_sink 50 = .ok (.goto 4, 3) := by decide +kernel
theorem dX4_sink_53 : decode cX4_sink 53 = .ok (.iconst 0, 1) := by decide +kernel
theorem dX4_sink_54 : decode cX4_sink 54 = .ok (.putfield 100, 3) := by decide +kernel
theorem dX4_sink_57 : decode cX4_sink 57 = .ok (.aload_n 0, 1) := by decide +kernel
theorem dX4_sink_58 : decode cX4_sink 58 = .ok (.getfield 100, 3) := by decide +kernel
theorem dX4_sink_61 : decode cX4_sink 61 = .ok (.ifCond .le 5, 3) := by decide +kernel
theorem dX4_sink_64 : decode cX4_sink 64 = .ok (.iconst 0, 1) := by decide +kernel
theorem dX4_sink_65 : decode cX4_sink 65 = .ok (.ireturn, 1) := by decide +kernel
theorem dX4_sink_66 : decode cX4_sink 66 = .ok (.aload_n 0, 1) := by decide +kernel
theorem dX4_sink_67 : decode cX4_sink 67 = .ok (.getfield 7, 3) := by decide +kernel
theorem dX4_sink_70 : decode cX4_sink 70 = .ok (.aload_n 0, 1) := by decide +kernel
theorem dX4_sink_71 : decode cX4_sink 71 = .ok (.getfield 112, 3) := by decide +kernel
theorem dX4_sink_74 : decode cX4_sink 74 = .ok (.iload_n 1, 1) := by decide +kernel
theorem dX4_sink_75 : decode cX4_sink 75 = .ok (.iastore, 1) := by decide +kernel
theorem dX4_sink_76 : decode cX4_sink 76 = .ok (.aload_n 0, 1) := by decide +kernel
theorem dX4_sink_77 : decode cX4_sink 77 = .ok (.getfield 13, 3) := by decide +kernel
theorem dX4_sink_80 : decode cX4_sink 80 = .ok (.aload_n 0, 1) := by decide +kernel
theorem dX4_sink_81 : decode cX4_sink 81 = .ok (.getfield 112, 3) := by decide +kernel
theorem dX4_sink_84 : decode cX4_sink 84 = .ok (.iload_n 2, 1) := by decide +kernel
theorem dX4_sink_85 : decode cX4_sink 85 = .ok (.iastore, 1) := by decide +kernel
theorem dX4_sink_86 : decode cX4_sink 86 = .ok (.aload_n 0, 1) := by decide +kernel
theorem dX4_sink_87 : decode cX4_sink 87 = .ok (.getfield 16, 3) := by decide +kernel
theorem dX4_sink_90 : decode cX4_sink 90 = .ok (.aload_n 0, 1) := by decide +kernel
theorem dX4_sink_91 : decode cX4_sink 91 = .ok (.getfield 112, 3) := by decide +kernel
theorem dX4_sink_94 : decode cX4_sink 94 = .ok (.iload_n 3, 1) := by decide +kernel
theorem dX4_sink_95 : decode cX4_sink 95 = .ok (.iastore, 1) := by decide +kernel
theorem dX4_sink_96 : decode cX4_sink 96 = .ok (.aload_n 0, 1) := by decide +kernel
theorem dX4_sink_97 : decode cX4_sink 97 = .ok (.getfield 19, 3) := by decide +kernel
theorem dX4_sink_100 : decode cX4_sink 100 = .ok (.aload_n 0, 1) := by decide +kernel
theorem dX4_sink_101 : decode cX4_sink 101 = .ok (.getfield 112, 3) := by decide +kernel
theorem dX4_sink_104 : decode cX4_sink 104 = .ok (.iload 4, 2) := by decide +kernel
theorem dX4_sink_106 : decode cX4_sink 106 = .ok (.iastore, 1) := by decide +kernel
theorem dX4_sink_107 : decode cX4_sink 107 = .ok (.aload_n 0, 1) := by decide +kernel
theorem dX4_sink_108 : decode cX4_sink 108 = .ok (.dup, 1) := by decide +kernel
theorem dX4_sink_109 : decode cX4_sink 109 = .ok (.getfield 112, 3) := by decide +kernel
theorem dX4_sink_112 : decode cX4_sink 112 = .ok (.iconst 1, 1) := by decide +kernel
theorem dX4_sink_113 : decode cX4_sink 113 = .ok (.iadd, 1) := by decide +kernel
theorem dX4_sink_114 : decode cX4_sink 114 = .ok (.putfield 112, 3) := by decide +kernel
theorem dX4_sink_117 : decode cX4_sink 117 = .ok (.aload_n 0, 1) := by decide +kernel
theorem dX4_sink_118 : decode cX4_sink 118 = .ok (.iconst 0, 1) := by decide +kernel
theorem dX4_sink_119 : decode cX4_sink 119 = .ok (.putfield 115, 3) := by decide +kernel
theorem dX4_sink_122 : decode cX4_sink 122 = .ok (.aload_n 0, 1) := by decide +kernel
theorem dX4_sink_123 : decode cX4_sink 123 = .ok (.getfield 112, 3) := by decide +kernel
theorem dX4_sink_126 : decode cX4_sink 126 = .ok (.iconst 1, 1) := by decide +kernel
theorem dX4_sink_127 : decode cX4_sink 127 = .ok (.isub, 1) := by decide +kernel
theorem dX4_sink_128 : decode cX4_sink 128 = .ok (.ireturn, 1) := by decide +kernel
set_option maxRecDepth 20000 in
theorem ggX4_cut_X4_within : GoodIn wsX4_cut wsX4_within := goodIn_r _ [7] (by decide +kernel) (by decide +kernel)
set_option maxRecDepth 20000 in
theorem gX4_cut_X4_within : GoodIn wsX4_cut (va_wsS RX4 107 yX4_within wsX4_within) := goodIn_app (goodIn_of _ (by decide +kernel)) ggX4_cut_X4_within
theorem dX4_cut_0 : decode cX4_cut 0 = .ok (.aload_n 0, 1) := by decide +kernel
theorem dX4_cut_1 : decode cX4_cut 1 = .ok (.iload_n 1, 1) := by decide +kernel
theorem dX4_cut_2 : decode cX4_cut 2 = .ok (.iconst 0, 1) := by decide +kernel
theorem dX4_cut_3 : decode cX4_cut 3 = .ok (.aload_n 0, 1) := by decide +kernel
theorem dX4_cut_4 : decode cX4_cut 4 = .ok (.getfield 112, 3) := by decide +kernel
theorem dX4_cut_7 : decode cX4_cut 7 = .ok (.invokestatic 107, 3) := by decide +kernel
theorem dX4_cut_10 : decode cX4_cut 10 = .ok (.ifCond .eq 7, 3) := by decide +kernel
theorem dX4_cut_13 : decode cX4_cut 13 = .ok (.iconst 0, 1) := by decide +kernel
theorem dX4_cut_14 : decode cX4_cut 14 = .ok (.goto 4, 3) := by decide +kernel
theorem dX4_cut_17 : decode cX4_cut 17 = .ok (.iconst 1, 1) := by decide +kernel
theorem dX4_cut_18 : decode cX4_cut 18 = .ok (.putfield 100, 3) := by decide +kernel
theorem dX4_cut_21 : decode cX4_cut 21 = .ok (.aload_n 0, 1) := by decide +kernel
theorem dX4_cut_22 : decode cX4_cut 22 = .ok (.getfield 100, 3) := by decide +kernel
theorem dX4_cut_25 : decode cX4_cut 25 = .ok (.ifCond .ne 13, 3) := by decide +kernel
theorem dX4_cut_28 : decode cX4_cut 28 = .ok (.aload_n 0, 1) := by decide +kernel
theorem dX4_cut_29 : decode cX4_cut 29 = .ok (.iload_n 1, 1) := by decide +kernel
theorem dX4_cut_30 : decode cX4_cut 30 = .ok (.putfield 112, 3) := by decide +kernel
theorem dX4_cut_33 : decode cX4_cut 33 = .ok (.aload_n 0, 1) := by decide +kernel
theorem dX4_cut_34 : decode cX4_cut 34 = .ok (.iconst 0, 1) := by decide +kernel
theorem dX4_cut_35 : decode cX4_cut 35 = .ok (.putfield 115, 3) := by decide +kernel
theorem dX4_cut_38 : decode cX4_cut 38 = .ok (.return_, 1) := by decide +kernel
set_option maxRecDepth 20000 in
theorem ggX4_source_X4_isPlace : GoodIn wsX4_source wsX4_isPlace := goodIn_r _ [8] (by decide +kernel) (by decide +kernel)
set_option maxRecDepth 20000 in
theorem gX4_source_X4_isPlace : GoodIn wsX4_source (va_wsS RX4 103 yX4_isPlace wsX4_isPlace) := goodIn_app (goodIn_of _ (by decide +kernel)) ggX4_source_X4_isPlace
theorem dX4_source_0 : decode cX4_source 0 = .ok (.aload_n 0, 1) := by decide +kernel
theorem dX4_source_1 : decode cX4_source 1 = .ok (.iload_n 1, 1) := by decide +kernel
theorem dX4_source_2 : decode cX4_source 2 = .ok (.invokestatic 103, 3) := by decide +kernel
theorem dX4_source_5 : decode cX4_source 5 = .ok (.ifCond .eq 14, 3) := by decide +kernel
theorem dX4_source_8 : decode cX4_source 8 = .ok (.iload_n 2, 1) := by decide +kernel
theorem dX4_source_9 : decode cX4_source 9 = .ok (.invokestatic 103, 3) := by decide +kernel
theorem dX4_source_12 : decode cX4_source 12 = .ok (.ifCond .eq 7, 3) := by decide +kernel
theorem dX4_source_15 : decode cX4_source 15 = .ok (.iconst 0, 1) := by decide +kernel
theorem dX4_source_16 : decode cX4_source 16 = .ok (.goto 4, 3) := by decide +kernel
theorem dX4_source_19 : decode cX4_source 19 = .ok (.iconst 1, 1) := by decide +kernel
theorem dX4_source_20 : decode cX4_source 20 = .ok (.putfield 100, 3) := by decide +kernel
theorem dX4_source_23 : decode cX4_source 23 = .ok (.aload_n 0, 1) := by decide +kernel
theorem dX4_source_24 : decode cX4_source 24 = .ok (.getfield 100, 3) := by decide +kernel
theorem dX4_source_27 : decode cX4_source 27 = .ok (.ifCond .ne 18, 3) := by decide +kernel
theorem dX4_source_30 : decode cX4_source 30 = .ok (.aload_n 0, 1) := by decide +kernel
theorem dX4_source_31 : decode cX4_source 31 = .ok (.iload_n 1, 1) := by decide +kernel
theorem dX4_source_32 : decode cX4_source 32 = .ok (.putfield 119, 3) := by decide +kernel
theorem dX4_source_35 : decode cX4_source 35 = .ok (.aload_n 0, 1) := by decide +kernel
theorem dX4_source_36 : decode cX4_source 36 = .ok (.iload_n 2, 1) := by decide +kernel
theorem dX4_source_37 : decode cX4_source 37 = .ok (.putfield 122, 3) := by decide +kernel
theorem dX4_source_40 : decode cX4_source 40 = .ok (.aload_n 0, 1) := by decide +kernel
theorem dX4_source_41 : decode cX4_source 41 = .ok (.iconst 0, 1) := by decide +kernel
theorem dX4_source_42 : decode cX4_source 42 = .ok (.putfield 115, 3) := by decide +kernel
theorem dX4_source_45 : decode cX4_source 45 = .ok (.return_, 1) := by decide +kernel
set_option maxRecDepth 20000 in
theorem ggX4_wires_X4_within : GoodIn wsX4_wires wsX4_within := goodIn_r _ [7] (by decide +kernel) (by decide +kernel)
set_option maxRecDepth 20000 in
theorem gX4_wires_X4_within : GoodIn wsX4_wires (va_wsS RX4 107 yX4_within wsX4_within) := goodIn_app (goodIn_of _ (by decide +kernel)) ggX4_wires_X4_within
theorem dX4_wires_0 : decode cX4_wires 0 = .ok (.aload_n 0, 1) := by decide +kernel
theorem dX4_wires_1 : decode cX4_wires 1 = .ok (.iload_n 1, 1) := by decide +kernel
theorem dX4_wires_2 : decode cX4_wires 2 = .ok (.iconst 1, 1) := by decide +kernel
theorem dX4_wires_3 : decode cX4_wires 3 = .ok (.bipush 20, 2) := by decide +kernel
theorem dX4_wires_5 : decode cX4_wires 5 = .ok (.invokestatic 107, 3) := by decide +kernel
theorem dX4_wires_8 : decode cX4_wires 8 = .ok (.ifCond .eq 17, 3) := by decide +kernel
theorem dX4_wires_11 : decode cX4_wires 11 = .ok (.iload_n 2, 1) := by decide +kernel
theorem dX4_wires_12 : decode cX4_wires 12 = .ok (.iconst 1, 1) := by decide +kernel
theorem dX4_wires_13 : decode cX4_wires 13 = .ok (.bipush 20, 2) := by decide +kernel
theorem dX4_wires_15 : decode cX4_wires 15 = .ok (.invokestatic 107, 3) := by decide +kernel
theorem dX4_wires_18 : decode cX4_wires 18 = .ok (.ifCond .eq 7, 3) := by decide +kernel
theorem dX4_wires_21 : decode cX4_wires 21 = .ok (.iconst 0, 1) := by decide +kernel
theorem dX4_wires_22 : decode cX4_wires 22 = .ok (.goto 4, 3) := by decide +kernel
theorem dX4_wires_25 : decode cX4_wires 25 = .ok (.iconst 1, 1) := by decide +kernel
theorem dX4_wires_26 : decode cX4_wires 26 = .ok (.putfield 100, 3) := by decide +kernel
theorem dX4_wires_29 : decode cX4_wires 29 = .ok (.aload_n 0, 1) := by decide +kernel
theorem dX4_wires_30 : decode cX4_wires 30 = .ok (.getfield 100, 3) := by decide +kernel
theorem dX4_wires_33 : decode cX4_wires 33 = .ok (.ifCond .ne 13, 3) := by decide +kernel
theorem dX4_wires_36 : decode cX4_wires 36 = .ok (.aload_n 0, 1) := by decide +kernel
theorem dX4_wires_37 : decode cX4_wires 37 = .ok (.iload_n 1, 1) := by decide +kernel
theorem dX4_wires_38 : decode cX4_wires 38 = .ok (.putfield 22, 3) := by decide +kernel
theorem dX4_wires_41 : decode cX4_wires 41 = .ok (.aload_n 0, 1) := by decide +kernel
theorem dX4_wires_42 : decode cX4_wires 42 = .ok (.iload_n 2, 1) := by decide +kernel
theorem dX4_wires_43 : decode cX4_wires 43 = .ok (.putfield 26, 3) := by decide +kernel
theorem dX4_wires_46 : decode cX4_wires 46 = .ok (.return_, 1) := by decide +kernel
set_option maxRecDepth 20000 in
theorem ggX4_buffer_X4_within : GoodIn wsX4_buffer wsX4_within := goodIn_r _ [10] (by decide +kernel) (by decide +kernel)
set_option maxRecDepth 20000 in
theorem gX4_buffer_X4_within : GoodIn wsX4_buffer (va_wsS RX4 107 yX4_within wsX4_within) := goodIn_app (goodIn_of _ (by decide +kernel)) ggX4_buffer_X4_within
theorem dX4_buffer_0 : decode cX4_buffer 0 = .ok (.aload_n 0, 1) := by decide +kernel
theorem dX4_buffer_1 : decode cX4_buffer 1 = .ok (.iload_n 1, 1) := by decide +kernel
theorem dX4_buffer_2 : decode cX4_buffer 2 = .ok (.iconst 1, 1) := by decide +kernel
theorem dX4_buffer_3 : decode cX4_buffer 3 = .ok (.ldc 125, 2) := by decide +kernel
theorem dX4_buffer_5 : decode cX4_buffer 5 = .ok (.invokestatic 107, 3) := by decide +kernel
theorem dX4_buffer_8 : decode cX4_buffer 8 = .ok (.ifCond .eq 28, 3) := by decide +kernel
theorem dX4_buffer_11 : decode cX4_buffer 11 = .ok (.iload_n 2, 1) := by decide +kernel
theorem dX4_buffer_12 : decode cX4_buffer 12 = .ok (.iconst 1, 1) := by decide +kernel
theorem dX4_buffer_13 : decode cX4_buffer 13 = .ok (.sipush 1000, 3) := by decide +kernel
theorem dX4_buffer_16 : decode cX4_buffer 16 = .ok (.invokestatic 107, 3) := by decide +kernel
theorem dX4_buffer_19 : decode cX4_buffer 19 = .ok (.ifCond .eq 17, 3) := by decide +kernel
theorem dX4_buffer_22 : decode cX4_buffer 22 = .ok (.iload_n 3, 1) := by decide +kernel
theorem dX4_buffer_23 : decode cX4_buffer 23 = .ok (.iconst 0, 1) := by decide +kernel
theorem dX4_buffer_24 : decode cX4_buffer 24 = .ok (.ldc 111, 2) := by decide +kernel
theorem dX4_buffer_26 : decode cX4_buffer 26 = .ok (.invokestatic 107, 3) := by decide +kernel
theorem dX4_buffer_29 : decode cX4_buffer 29 = .ok (.ifCond .eq 7, 3) := by decide +kernel
theorem dX4_buffer_32 : decode cX4_buffer 32 = .ok (.iconst 0, 1) := by decide +kernel
theorem dX4_buffer_33 : decode cX4_buffer 33 = .ok (.goto 4, 3) := by decide +kernel
theorem dX4_buffer_36 : decode cX4_buffer 36 = .ok (.iconst 1, 1) := by decide +kernel
theorem dX4_buffer_37 : decode cX4_buffer 37 = .ok (.putfield 100, 3) := by decide +kernel
theorem dX4_buffer_40 : decode cX4_buffer 40 = .ok (.aload_n 0, 1) := by decide +kernel
theorem dX4_buffer_41 : decode cX4_buffer 41 = .ok (.getfield 100, 3) := by decide +kernel
theorem dX4_buffer_44 : decode cX4_buffer 44 = .ok (.ifCond .ne 18, 3) := by decide +kernel
theorem dX4_buffer_47 : decode cX4_buffer 47 = .ok (.aload_n 0, 1) := by decide +kernel
theorem dX4_buffer_48 : decode cX4_buffer 48 = .ok (.iload_n 1, 1) := by decide +kernel
theorem dX4_buffer_49 : decode cX4_buffer 49 = .ok (.putfield 29, 3) := by decide +kernel
theorem dX4_buffer_52 : decode cX4_buffer 52 = .ok (.aload_n 0, 1) := by decide +kernel
theorem dX4_buffer_53 : decode cX4_buffer 53 = .ok (.iload_n 2, 1) := by decide +kernel
theorem dX4_buffer_54 : decode cX4_buffer 54 = .ok (.putfield 32, 3) := by decide +kernel
theorem dX4_buffer_57 : decode cX4_buffer 57 = .ok (.aload_n 0, 1) := by decide +kernel
theorem dX4_buffer_58 : decode cX4_buffer 58 = .ok (.iload_n 3, 1) := by decide +kernel
theorem dX4_buffer_59 : decode cX4_buffer 59 = .ok (.putfield 126, 3) := by decide +kernel
theorem dX4_buffer_62 : decode cX4_buffer 62 = .ok (.return_, 1) := by decide +kernel
theorem dX4_sinks_0 : decode cX4_sinks 0 = .ok (.aload_n 0, 1) := by decide +kernel
theorem dX4_sinks_1 : decode cX4_sinks 1 = .ok (.iconst 0, 1) := by decide +kernel
theorem dX4_sinks_2 : decode cX4_sinks 2 = .ok (.putfield 100, 3) := by decide +kernel
theorem dX4_sinks_5 : decode cX4_sinks 5 = .ok (.aload_n 0, 1) := by decide +kernel
theorem dX4_sinks_6 : decode cX4_sinks 6 = .ok (.getfield 112, 3) := by decide +kernel
theorem dX4_sinks_9 : decode cX4_sinks 9 = .ok (.ireturn, 1) := by decide +kernel
theorem dX4_greater_0 : decode cX4_greater 0 = .ok (.iload_n 0, 1) := by decide +kernel
theorem dX4_greater_1 : decode cX4_greater 1 = .ok (.iload_n 1, 1) := by decide +kernel
theorem dX4_greater_2 : decode cX4_greater 2 = .ok (.if_icmp .ge 7, 3) := by decide +kernel
theorem dX4_greater_5 : decode cX4_greater 5 = .ok (.iload_n 1, 1) := by decide +kernel
theorem dX4_greater_6 : decode cX4_greater 6 = .ok (.goto 4, 3) := by decide +kernel
theorem dX4_greater_9 : decode cX4_greater 9 = .ok (.iload_n 0, 1) := by decide +kernel
theorem dX4_greater_10 : decode cX4_greater 10 = .ok (.ireturn, 1) := by decide +kernel
theorem dX4_lesser_0 : decode cX4_lesser 0 = .ok (.iload_n 0, 1) := by decide +kernel
theorem dX4_lesser_1 : decode cX4_lesser 1 = .ok (.iload_n 1, 1) := by decide +kernel
theorem dX4_lesser_2 : decode cX4_lesser 2 = .ok (.if_icmp .ge 7, 3) := by decide +kernel
theorem dX4_lesser_5 : decode cX4_lesser 5 = .ok (.iload_n 0, 1) := by decide +kernel
theorem dX4_lesser_6 : decode cX4_lesser 6 = .ok (.goto 4, 3) := by decide +kernel
theorem dX4_lesser_9 : decode cX4_lesser 9 = .ok (.iload_n 1, 1) := by decide +kernel
theorem dX4_lesser_10 : decode cX4_lesser 10 = .ok (.ireturn, 1) := by decide +kernel
set_option maxRecDepth 20000 in
theorem ggX4_gap_X4_greater : GoodIn wsX4_gap wsX4_greater := goodIn_r _ [4] (by decide +kernel) (by decide +kernel)
set_option maxRecDepth 20000 in
theorem gX4_gap_X4_greater : GoodIn wsX4_gap (va_wsS RX4 129 yX4_greater wsX4_greater) := goodIn_app (goodIn_of _ (by decide +kernel)) ggX4_gap_X4_greater
theorem dX4_gap_0 : decode cX4_gap 0 = .ok (.iconst 0, 1) := by decide +kernel
theorem dX4_gap_1 : decode cX4_gap 1 = .ok (.iload_n 0, 1) := by decide +kernel
theorem dX4_gap_2 : decode cX4_gap 2 = .ok (.iload_n 3, 1) := by decide +kernel
theorem dX4_gap_3 : decode cX4_gap 3 = .ok (.isub, 1) := by decide +kernel
theorem dX4_gap_4 : decode cX4_gap 4 = .ok (.iload_n 2, 1) := by decide +kernel
theorem dX4_gap_5 : decode cX4_gap 5 = .ok (.iload_n 1, 1) := by decide +kernel
theorem dX4_gap_6 : decode cX4_gap 6 = .ok (.isub, 1) := by decide +kernel
theorem dX4_gap_7 : decode cX4_gap 7 = .ok (.invokestatic 129, 3) := by decide +kernel
theorem dX4_gap_10 : decode cX4_gap 10 = .ok (.invokestatic 129, 3) := by decide +kernel
theorem dX4_gap_13 : decode cX4_gap 13 = .ok (.ireturn, 1) := by decide +kernel
set_option maxRecDepth 20000 in
theorem ggX4_distance_X4_gap : GoodIn wsX4_distance wsX4_gap := goodIn_r _ [8, 9, 10, 7, 11] (by decide +kernel) (by decide +kernel)
set_option maxRecDepth 20000 in
theorem gX4_distance_X4_gap : GoodIn wsX4_distance (va_wsS RX4 133 yX4_gap wsX4_gap) := goodIn_app (goodIn_of _ (by decide +kernel)) ggX4_distance_X4_gap
set_option maxRecDepth 20000 in
theorem ggX4_distance_X4_greater : GoodIn wsX4_distance wsX4_greater := goodIn_r _ [11] (by decide +kernel) (by decide +kernel)
set_option maxRecDepth 20000 in
theorem gX4_distance_X4_greater : GoodIn wsX4_distance (va_wsS RX4 129 yX4_greater wsX4_greater) := goodIn_app (goodIn_of _ (by decide +kernel)) ggX4_distance_X4_greater
theorem dX4_distance_0 : decode cX4_distance 0 = .ok (.aload_n 0, 1) := by decide +kernel
theorem dX4_distance_1 : decode cX4_distance 1 = .ok (.getfield 44, 3) := by decide +kernel
theorem dX4_distance_4 : decode cX4_distance 4 = .ok (.iload_n 1, 1) := by decide +kernel
theorem dX4_distance_5 : decode cX4_distance 5 = .ok (.iaload, 1) := by decide +kernel
theorem dX4_distance_6 : decode cX4_distance 6 = .ok (.aload_n 0, 1) := by decide +kernel
theorem dX4_distance_7 : decode cX4_distance 7 = .ok (.getfield 47, 3) := by decide +kernel
theorem dX4_distance_10 : decode cX4_distance 10 = .ok (.iload_n 1, 1) := by decide +kernel
theorem dX4_distance_11 : decode cX4_distance 11 = .ok (.iaload, 1) := by decide +kernel
theorem dX4_distance_12 : decode cX4_distance 12 = .ok (.aload_n 0, 1) := by decide +kernel
theorem dX4_distance_13 : decode cX4_distance 13 = .ok (.getfield 44, 3) := by decide +kernel
theorem dX4_distance_16 : decode cX4_distance 16 = .ok (.iload_n 2, 1) := by decide +kernel
theorem dX4_distance_17 : decode cX4_distance 17 = .ok (.iaload, 1) := by decide +kernel
theorem dX4_distance_18 : decode cX4_distance 18 = .ok (.aload_n 0, 1) := by decide +kernel
theorem dX4_distance_19 : decode cX4_distance 19 = .ok (.getfield 47, 3) := by decide +kernel
theorem dX4_distance_22 : decode cX4_distance 22 = .ok (.iload_n 2, 1) := by decide +kernel
theorem dX4_distance_23 : decode cX4_distance 23 = .ok (.iaload, 1) := by decide +kernel
theorem dX4_distance_24 : decode cX4_distance 24 = .ok (.invokestatic 133, 3) := by decide +kernel
theorem dX4_distance_27 : decode cX4_distance 27 = .ok (.aload_n 0, 1) := by decide +kernel
theorem dX4_distance_28 : decode cX4_distance 28 = .ok (.getfield 50, 3) := by decide +kernel
theorem dX4_distance_31 : decode cX4_distance 31 = .ok (.iload_n 1, 1) := by decide +kernel
theorem dX4_distance_32 : decode cX4_distance 32 = .ok (.iaload, 1) := by decide +kernel
theorem dX4_distance_33 : decode cX4_distance 33 = .ok (.aload_n 0, 1) := by decide +kernel
theorem dX4_distance_34 : decode cX4_distance 34 = .ok (.getfield 53, 3) := by decide +kernel
theorem dX4_distance_37 : decode cX4_distance 37 = .ok (.iload_n 1, 1) := by decide +kernel
theorem dX4_distance_38 : decode cX4_distance 38 = .ok (.iaload, 1) := by decide +kernel
theorem dX4_distance_39 : decode cX4_distance 39 = .ok (.aload_n 0, 1) := by decide +kernel
theorem dX4_distance_40 : decode cX4_distance 40 = .ok (.getfield 50, 3) := by decide +kernel
theorem dX4_distance_43 : decode cX4_distance 43 = .ok (.iload_n 2, 1) := by decide +kernel
theorem dX4_distance_44 : decode cX4_distance 44 = .ok (.iaload, 1) := by decide +kernel
theorem dX4_distance_45 : decode cX4_distance 45 = .ok (.aload_n 0, 1) := by decide +kernel
theorem dX4_distance_46 : decode cX4_distance 46 = .ok (.getfield 53, 3) := by decide +kernel
theorem dX4_distance_49 : decode cX4_distance 49 = .ok (.iload_n 2, 1) := by decide +kernel
theorem dX4_distance_50 : decode cX4_distance 50 = .ok (.iaload, 1) := by decide +kernel
theorem dX4_distance_51 : decode cX4_distance 51 = .ok (.invokestatic 133, 3) := by decide +kernel
theorem dX4_distance_54 : decode cX4_distance 54 = .ok (.invokestatic 129, 3) := by decide +kernel
theorem dX4_distance_57 : decode cX4_distance 57 = .ok (.ireturn, 1) := by decide +kernel
theorem dX4_place_0 : decode cX4_place 0 = .ok (.aload_n 0, 1) := by decide +kernel
theorem dX4_place_1 : decode cX4_place 1 = .ok (.getfield 44, 3) := by decide +kernel
theorem dX4_place_4 : decode cX4_place 4 = .ok (.iload_n 1, 1) := by decide +kernel
theorem dX4_place_5 : decode cX4_place 5 = .ok (.iload_n 2, 1) := by decide +kernel
theorem dX4_place_6 : decode cX4_place 6 = .ok (.iastore, 1) := by decide +kernel
theorem dX4_place_7 : decode cX4_place 7 = .ok (.aload_n 0, 1) := by decide +kernel
theorem dX4_place_8 : decode cX4_place 8 = .ok (.getfield 47, 3) := by decide +kernel
theorem dX4_place_11 : decode cX4_place 11 = .ok (.iload_n 1, 1) := by decide +kernel
theorem dX4_place_12 : decode cX4_place 12 = .ok (.iload_n 3, 1) := by decide +kernel
theorem dX4_place_13 : decode cX4_place 13 = .ok (.iastore, 1) := by decide +kernel
theorem dX4_place_14 : decode cX4_place 14 = .ok (.aload_n 0, 1) := by decide +kernel
theorem dX4_place_15 : decode cX4_place 15 = .ok (.getfield 50, 3) := by decide +kernel
theorem dX4_place_18 : decode cX4_place 18 = .ok (.iload_n 1, 1) := by decide +kernel
theorem dX4_place_19 : decode cX4_place 19 = .ok (.iload 4, 2) := by decide +kernel
theorem dX4_place_21 : decode cX4_place 21 = .ok (.iastore, 1) := by decide +kernel
theorem dX4_place_22 : decode cX4_place 22 = .ok (.aload_n 0, 1) := by decide +kernel
theorem dX4_place_23 : decode cX4_place 23 = .ok (.getfield 53, 3) := by decide +kernel
theorem dX4_place_26 : decode cX4_place 26 = .ok (.iload_n 1, 1) := by decide +kernel
theorem dX4_place_27 : decode cX4_place 27 = .ok (.iload 5, 2) := by decide +kernel
theorem dX4_place_29 : decode cX4_place 29 = .ok (.iastore, 1) := by decide +kernel
theorem dX4_place_30 : decode cX4_place 30 = .ok (.return_, 1) := by decide +kernel
set_option maxRecDepth 20000 in
theorem ggX4_join_X4_distance : GoodIn wsX4_join wsX4_distance := goodIn_r _ [17, 7, 8, 9, 10, 18, 19, 16, 20, 21, 22, 23, 31, 32, 33, 34, 35, 36, 37, 38, 39, 40, 41, 42, 43, 44, 45, 46, 47, 48, 49, 50, 51, 52, 53, 54, 55, 56, 57, 58, 59, 60, 61, 62, 63, 64, 65, 66, 67] (by decide +kernel) (by decide +kernel)
set_option maxRecDepth 20000 in
theorem gX4_join_X4_distance : GoodIn wsX4_join (wsV RX4 137 RX4 yX4_distance wsX4_distance) := goodIn_app (goodIn_of _ (by decide +kernel)) ggX4_join_X4_distance
set_option maxRecDepth 20000 in
theorem ggX4_join_X4_greater : GoodIn wsX4_join wsX4_greater := goodIn_r _ [23] (by decide +kernel) (by decide +kernel)
set_option maxRecDepth 20000 in
theorem gX4_join_X4_greater : GoodIn wsX4_join (va_wsS RX4 129 yX4_greater wsX4_greater) := goodIn_app (goodIn_of _ (by decide +kernel)) ggX4_join_X4_greater
set_option maxRecDepth 20000 in
theorem ggX4_join_X4_lesser : GoodIn wsX4_join wsX4_lesser := goodIn_r _ [26] (by decide +kernel) (by decide +kernel)
set_option maxRecDepth 20000 in
theorem gX4_join_X4_lesser : GoodIn wsX4_join (va_wsS RX4 143 yX4_lesser wsX4_lesser) := goodIn_app (goodIn_of _ (by decide +kernel)) ggX4_join_X4_lesser
set_option maxRecDepth 20000 in
theorem ggX4_join_X4_place : GoodIn wsX4_join wsX4_place := goodIn_r _ [30, 7, 8, 9, 10, 31, 32, 33, 34, 35, 36, 37, 38, 39, 40, 41, 42, 43, 44, 45, 46, 47, 48, 49, 50, 51, 52, 53, 54, 55, 56, 57, 58, 59, 60, 61, 62, 63, 64, 65, 66, 67] (by decide +kernel) (by decide +kernel)
set_option maxRecDepth 20000 in
theorem gX4_join_X4_place : GoodIn wsX4_join (wsV RX4 146 RX4 yX4_place wsX4_place) := goodIn_app (goodIn_of _ (by decide +kernel)) ggX4_join_X4_place
theorem dX4_join_0 : decode cX4_join 0 = .ok (.aload_n 0, 1) := by decide +kernel
theorem dX4_join_1 : decode cX4_join 1 = .ok (.iload_n 1, 1) := by decide +kernel
theorem dX4_join_2 : decode cX4_join 2 = .ok (.iload_n 2, 1) := by decide +kernel
theorem dX4_join_3 : decode cX4_join 3 = .ok (.invokevirtual 137, 3) := by decide +kernel
theorem dX4_join_6 : decode cX4_join 6 = .ok (.istore_n 3, 1) := by decide +kernel
theorem dX4_join_7 : decode cX4_join 7 = .ok (.aload_n 0, 1) := by decide +kernel
theorem dX4_join_8 : decode cX4_join 8 = .ok (.getfield 56, 3) := by decide +kernel
theorem dX4_join_11 : decode cX4_join 11 = .ok (.iload_n 1, 1) := by decide +kernel
theorem dX4_join_12 : decode cX4_join 12 = .ok (.iaload, 1) := by decide +kernel
theorem dX4_join_13 : decode cX4_join 13 = .ok (.istore 4, 2) := by decide +kernel
theorem dX4_join_15 : decode cX4_join 15 = .ok (.aload_n 0, 1) := by decide +kernel
theorem dX4_join_16 : decode cX4_join 16 = .ok (.getfield 56, 3) := by decide +kernel
theorem dX4_join_19 : decode cX4_join 19 = .ok (.iload_n 2, 1) := by decide +kernel
theorem dX4_join_20 : decode cX4_join 20 = .ok (.iaload, 1) := by decide +kernel
theorem dX4_join_21 : decode cX4_join 21 = .ok (.istore 5, 2) := by decide +kernel
theorem dX4_join_23 : decode cX4_join 23 = .ok (.iload 4, 2) := by decide +kernel
theorem dX4_join_25 : decode cX4_join 25 = .ok (.iload_n 3, 1) := by decide +kernel
theorem dX4_join_26 : decode cX4_join 26 = .ok (.iload 5, 2) := by decide +kernel
theorem dX4_join_28 : decode cX4_join 28 = .ok (.iadd, 1) := by decide +kernel
theorem dX4_join_29 : decode cX4_join 29 = .ok (.if_icmp .le 7, 3) := by decide +kernel
theorem dX4_join_32 : decode cX4_join 32 = .ok (.iconst 0, 1) := by decide +kernel
theorem dX4_join_33 : decode cX4_join 33 = .ok (.goto 29, 3) := by decide +kernel
theorem dX4_join_36 : decode cX4_join 36 = .ok (.iload 5, 2) := by decide +kernel
theorem dX4_join_38 : decode cX4_join 38 = .ok (.iload_n 3, 1) := by decide +kernel
theorem dX4_join_39 : decode cX4_join 39 = .ok (.iload 4, 2) := by decide +kernel
theorem dX4_join_41 : decode cX4_join 41 = .ok (.iadd, 1) := by decide +kernel
theorem dX4_join_42 : decode cX4_join 42 = .ok (.if_icmp .le 11, 3) := by decide +kernel
theorem dX4_join_45 : decode cX4_join 45 = .ok (.iload 5, 2) := by decide +kernel
theorem dX4_join_47 : decode cX4_join 47 = .ok (.iload 4, 2) := by decide +kernel
theorem dX4_join_49 : decode cX4_join 49 = .ok (.isub, 1) := by decide +kernel
theorem dX4_join_50 : decode cX4_join 50 = .ok (.goto 12, 3) := by decide +kernel
theorem dX4_join_53 : decode cX4_join 53 = .ok (.iload_n 3, 1) := by decide +kernel
theorem dX4_join_54 : decode cX4_join 54 = .ok (.iload 5, 2) := by decide +kernel
theorem dX4_join_56 : decode cX4_join 56 = .ok (.iadd, 1) := by decide +kernel
theorem dX4_join_57 : decode cX4_join 57 = .ok (.iload 4, 2) := by decide +kernel
theorem dX4_join_59 : decode cX4_join 59 = .ok (.isub, 1) := by decide +kernel
theorem dX4_join_60 : decode cX4_join 60 = .ok (.iconst 2, 1) := by decide +kernel
theorem dX4_join_61 : decode cX4_join 61 = .ok (.idiv, 1) := by decide +kernel
theorem dX4_join_62 : decode cX4_join 62 = .ok (.istore 6, 2) := by decide +kernel
theorem dX4_join_64 : decode cX4_join 64 = .ok (.iload 4, 2) := by decide +kernel
theorem dX4_join_66 : decode cX4_join 66 = .ok (.iload_n 3, 1) := by decide +kernel
theorem dX4_join_67 : decode cX4_join 67 = .ok (.iload 5, 2) := by decide +kernel
theorem dX4_join_69 : decode cX4_join 69 = .ok (.iadd, 1) := by decide +kernel
theorem dX4_join_70 : decode cX4_join 70 = .ok (.if_icmp .le 11, 3) := by decide +kernel
theorem dX4_join_73 : decode cX4_join 73 = .ok (.iload 4, 2) := by decide +kernel
theorem dX4_join_75 : decode cX4_join 75 = .ok (.iload 5, 2) := by decide +kernel
theorem dX4_join_77 : decode cX4_join 77 = .ok (.isub, 1) := by decide +kernel
theorem dX4_join_78 : decode cX4_join 78 = .ok (.goto 20, 3) := by decide +kernel
theorem dX4_join_81 : decode cX4_join 81 = .ok (.iload 5, 2) := by decide +kernel
theorem dX4_join_83 : decode cX4_join 83 = .ok (.iload_n 3, 1) := by decide +kernel
theorem dX4_join_84 : decode cX4_join 84 = .ok (.iload 4, 2) := by decide +kernel
theorem dX4_join_86 : decode cX4_join 86 = .ok (.iadd, 1) := by decide +kernel
theorem dX4_join_87 : decode cX4_join 87 = .ok (.if_icmp .le 7, 3) := by decide +kernel
theorem dX4_join_90 : decode cX4_join 90 = .ok (.iconst 0, 1) := by decide +kernel
theorem dX4_join_91 : decode cX4_join 91 = .ok (.goto 7, 3) := by decide +kernel
theorem dX4_join_94 : decode cX4_join 94 = .ok (.iload_n 3, 1) := by decide +kernel
theorem dX4_join_95 : decode cX4_join 95 = .ok (.iload 6, 2) := by decide +kernel
theorem dX4_join_97 : decode cX4_join 97 = .ok (.isub, 1) := by decide +kernel
theorem dX4_join_98 : decode cX4_join 98 = .ok (.istore 7, 2) := by decide +kernel
theorem dX4_join_100 : decode cX4_join 100 = .ok (.aload_n 0, 1) := by decide +kernel
theorem dX4_join_101 : decode cX4_join 101 = .ok (.getfield 140, 3) := by decide +kernel
theorem dX4_join_104 : decode cX4_join 104 = .ok (.istore 8, 2) := by decide +kernel
theorem dX4_join_106 : decode cX4_join 106 = .ok (.aload_n 0, 1) := by decide +kernel
theorem dX4_join_107 : decode cX4_join 107 = .ok (.dup, 1) := by decide +kernel
theorem dX4_join_108 : decode cX4_join 108 = .ok (.getfield 140, 3) := by decide +kernel
theorem dX4_join_111 : decode cX4_join 111 = .ok (.iconst 1, 1) := by decide +kernel
theorem dX4_join_112 : decode cX4_join 112 = .ok (.iadd, 1) := by decide +kernel
theorem dX4_join_113 : decode cX4_join 113 = .ok (.putfield 140, 3) := by decide +kernel
theorem dX4_join_116 : decode cX4_join 116 = .ok (.aload_n 0, 1) := by decide +kernel
theorem dX4_join_117 : decode cX4_join 117 = .ok (.getfield 35, 3) := by decide +kernel
theorem dX4_join_120 : decode cX4_join 120 = .ok (.iload 8, 2) := by decide +kernel
theorem dX4_join_122 : decode cX4_join 122 = .ok (.iload_n 1, 1) := by decide +kernel
theorem dX4_join_123 : decode cX4_join 123 = .ok (.iastore, 1) := by decide +kernel
theorem dX4_join_124 : decode cX4_join 124 = .ok (.aload_n 0, 1) := by decide +kernel
theorem dX4_join_125 : decode cX4_join 125 = .ok (.getfield 38, 3) := by decide +kernel
theorem dX4_join_128 : decode cX4_join 128 = .ok (.iload 8, 2) := by decide +kernel
theorem dX4_join_130 : decode cX4_join 130 = .ok (.iload_n 2, 1) := by decide +kernel
theorem dX4_join_131 : decode cX4_join 131 = .ok (.iastore, 1) := by decide +kernel
theorem dX4_join_132 : decode cX4_join 132 = .ok (.aload_n 0, 1) := by decide +kernel
theorem dX4_join_133 : decode cX4_join 133 = .ok (.getfield 41, 3) := by decide +kernel
theorem dX4_join_136 : decode cX4_join 136 = .ok (.iload 8, 2) := by decide +kernel
theorem dX4_join_138 : decode cX4_join 138 = .ok (.iconst (-1), 1) := by decide +kernel
theorem dX4_join_139 : decode cX4_join 139 = .ok (.iastore, 1) := by decide +kernel
theorem dX4_join_140 : decode cX4_join 140 = .ok (.aload_n 0, 1) := by decide +kernel
theorem dX4_join_141 : decode cX4_join 141 = .ok (.getfield 41, 3) := by decide +kernel
theorem dX4_join_144 : decode cX4_join 144 = .ok (.iload_n 1, 1) := by decide +kernel
theorem dX4_join_145 : decode cX4_join 145 = .ok (.iload 8, 2) := by decide +kernel
theorem dX4_join_147 : decode cX4_join 147 = .ok (.iastore, 1) := by decide +kernel
theorem dX4_join_148 : decode cX4_join 148 = .ok (.aload_n 0, 1) := by decide +kernel
theorem dX4_join_149 : decode cX4_join 149 = .ok (.getfield 41, 3) := by decide +kernel
theorem dX4_join_152 : decode cX4_join 152 = .ok (.iload_n 2, 1) := by decide +kernel
theorem dX4_join_153 : decode cX4_join 153 = .ok (.iload 8, 2) := by decide +kernel
theorem dX4_join_155 : decode cX4_join 155 = .ok (.iastore, 1) := by decide +kernel
theorem dX4_join_156 : decode cX4_join 156 = .ok (.aload_n 0, 1) := by decide +kernel
theorem dX4_join_157 : decode cX4_join 157 = .ok (.getfield 59, 3) := by decide +kernel
theorem dX4_join_160 : decode cX4_join 160 = .ok (.iload_n 1, 1) := by decide +kernel
theorem dX4_join_161 : decode cX4_join 161 = .ok (.iload 6, 2) := by decide +kernel
theorem dX4_join_163 : decode cX4_join 163 = .ok (.iastore, 1) := by decide +kernel
theorem dX4_join_164 : decode cX4_join 164 = .ok (.aload_n 0, 1) := by decide +kernel
theorem dX4_join_165 : decode cX4_join 165 = .ok (.getfield 59, 3) := by decide +kernel
theorem dX4_join_168 : decode cX4_join 168 = .ok (.iload_n 2, 1) := by decide +kernel
theorem dX4_join_169 : decode cX4_join 169 = .ok (.iload 7, 2) := by decide +kernel
theorem dX4_join_171 : decode cX4_join 171 = .ok (.iastore, 1) := by decide +kernel
theorem dX4_join_172 : decode cX4_join 172 = .ok (.aload_n 0, 1) := by decide +kernel
theorem dX4_join_173 : decode cX4_join 173 = .ok (.iload 8, 2) := by decide +kernel
theorem dX4_join_175 : decode cX4_join 175 = .ok (.aload_n 0, 1) := by decide +kernel
theorem dX4_join_176 : decode cX4_join 176 = .ok (.getfield 44, 3) := by decide +kernel
theorem dX4_join_179 : decode cX4_join 179 = .ok (.iload_n 1, 1) := by decide +kernel
theorem dX4_join_180 : decode cX4_join 180 = .ok (.iaload, 1) := by decide +kernel
theorem dX4_join_181 : decode cX4_join 181 = .ok (.iload 6, 2) := by decide +kernel
theorem dX4_join_183 : decode cX4_join 183 = .ok (.isub, 1) := by decide +kernel
theorem dX4_join_184 : decode cX4_join 184 = .ok (.aload_n 0, 1) := by decide +kernel
theorem dX4_join_185 : decode cX4_join 185 = .ok (.getfield 44, 3) := by decide +kernel
theorem dX4_join_188 : decode cX4_join 188 = .ok (.iload_n 2, 1) := by decide +kernel
theorem dX4_join_189 : decode cX4_join 189 = .ok (.iaload, 1) := by decide +kernel
theorem dX4_join_190 : decode cX4_join 190 = .ok (.iload 7, 2) := by decide +kernel
theorem dX4_join_192 : decode cX4_join 192 = .ok (.isub, 1) := by decide +kernel
theorem dX4_join_193 : decode cX4_join 193 = .ok (.invokestatic 129, 3) := by decide +kernel
theorem dX4_join_196 : decode cX4_join 196 = .ok (.aload_n 0, 1) := by decide +kernel
theorem dX4_join_197 : decode cX4_join 197 = .ok (.getfield 47, 3) := by decide +kernel
theorem dX4_join_200 : decode cX4_join 200 = .ok (.iload_n 1, 1) := by decide +kernel
theorem dX4_join_201 : decode cX4_join 201 = .ok (.iaload, 1) := by decide +kernel
theorem dX4_join_202 : decode cX4_join 202 = .ok (.iload 6, 2) := by decide +kernel
theorem dX4_join_204 : decode cX4_join 204 = .ok (.iadd, 1) := by decide +kernel
theorem dX4_join_205 : decode cX4_join 205 = .ok (.aload_n 0, 1) := by decide +kernel
theorem dX4_join_206 : decode cX4_join 206 = .ok (.getfield 47, 3) := by decide +kernel
theorem dX4_join_209 : decode cX4_join 209 = .ok (.iload_n 2, 1) := by decide +kernel
theorem dX4_join_210 : decode cX4_join 210 = .ok (.iaload, 1) := by decide +kernel
theorem dX4_join_211 : decode cX4_join 211 = .ok (.iload 7, 2) := by decide +kernel
theorem dX4_join_213 : decode cX4_join 213 = .ok (.iadd, 1) := by decide +kernel
theorem dX4_join_214 : decode cX4_join 214 = .ok (.invokestatic 143, 3) := by decide +kernel
theorem dX4_join_217 : decode cX4_join 217 = .ok (.aload_n 0, 1) := by decide +kernel
theorem dX4_join_218 : decode cX4_join 218 = .ok (.getfield 50, 3) := by decide +kernel
theorem dX4_join_221 : decode cX4_join 221 = .ok (.iload_n 1, 1) := by decide +kernel
theorem dX4_join_222 : decode cX4_join 222 = .ok (.iaload, 1) := by decide +kernel
theorem dX4_join_223 : decode cX4_join 223 = .ok (.iload 6, 2) := by decide +kernel
theorem dX4_join_225 : decode cX4_join 225 = .ok (.isub, 1) := by decide +kernel
theorem dX4_join_226 : decode cX4_join 226 = .ok (.aload_n 0, 1) := by decide +kernel
theorem dX4_join_227 : decode cX4_join 227 = .ok (.getfield 50, 3) := by decide +kernel
theorem dX4_join_230 : decode cX4_join 230 = .ok (.iload_n 2, 1) := by decide +kernel
theorem dX4_join_231 : decode cX4_join 231 = .ok (.iaload, 1) := by decide +kernel
theorem dX4_join_232 : decode cX4_join 232 = .ok (.iload 7, 2) := by decide +kernel
theorem dX4_join_234 : decode cX4_join 234 = .ok (.isub, 1) := by decide +kernel
theorem dX4_join_235 : decode cX4_join 235 = .ok (.invokestatic 129, 3) := by decide +kernel
theorem dX4_join_238 : decode cX4_join 238 = .ok (.aload_n 0, 1) := by decide +kernel
theorem dX4_join_239 : decode cX4_join 239 = .ok (.getfield 53, 3) := by decide +kernel
theorem dX4_join_242 : decode cX4_join 242 = .ok (.iload_n 1, 1) := by decide +kernel
theorem dX4_join_243 : decode cX4_join 243 = .ok (.iaload, 1) := by decide +kernel
theorem dX4_join_244 : decode cX4_join 244 = .ok (.iload 6, 2) := by decide +kernel
theorem dX4_join_246 : decode cX4_join 246 = .ok (.iadd, 1) := by decide +kernel
theorem dX4_join_247 : decode cX4_join 247 = .ok (.aload_n 0, 1) := by decide +kernel
theorem dX4_join_248 : decode cX4_join 248 = .ok (.getfield 53, 3) := by decide +kernel
theorem dX4_join_251 : decode cX4_join 251 = .ok (.iload_n 2, 1) := by decide +kernel
theorem dX4_join_252 : decode cX4_join 252 = .ok (.iaload, 1) := by decide +kernel
theorem dX4_join_253 : decode cX4_join 253 = .ok (.iload 7, 2) := by decide +kernel
theorem dX4_join_255 : decode cX4_join 255 = .ok (.iadd, 1) := by decide +kernel
theorem dX4_join_256 : decode cX4_join 256 = .ok (.invokestatic 143, 3) := by decide +kernel
theorem dX4_join_259 : decode cX4_join 259 = .ok (.invokevirtual 146, 3) := by decide +kernel
theorem dX4_join_262 : decode cX4_join 262 = .ok (.aload_n 0, 1) := by decide +kernel
theorem dX4_join_263 : decode cX4_join 263 = .ok (.getfield 56, 3) := by decide +kernel
theorem dX4_join_266 : decode cX4_join 266 = .ok (.iload 8, 2) := by decide +kernel
theorem dX4_join_268 : decode cX4_join 268 = .ok (.iload 4, 2) := by decide +kernel
theorem dX4_join_270 : decode cX4_join 270 = .ok (.iload 6, 2) := by decide +kernel
theorem dX4_join_272 : decode cX4_join 272 = .ok (.iadd, 1) := by decide +kernel
theorem dX4_join_273 : decode cX4_join 273 = .ok (.iastore, 1) := by decide +kernel
theorem dX4_join_274 : decode cX4_join 274 = .ok (.aload_n 0, 1) := by decide +kernel
theorem dX4_join_275 : decode cX4_join 275 = .ok (.getfield 72, 3) := by decide +kernel
theorem dX4_join_278 : decode cX4_join 278 = .ok (.iload_n 1, 1) := by decide +kernel
theorem dX4_join_279 : decode cX4_join 279 = .ok (.iconst 1, 1) := by decide +kernel
theorem dX4_join_280 : decode cX4_join 280 = .ok (.bastore, 1) := by decide +kernel
theorem dX4_join_281 : decode cX4_join 281 = .ok (.aload_n 0, 1) := by decide +kernel
theorem dX4_join_282 : decode cX4_join 282 = .ok (.getfield 72, 3) := by decide +kernel
theorem dX4_join_285 : decode cX4_join 285 = .ok (.iload_n 2, 1) := by decide +kernel
theorem dX4_join_286 : decode cX4_join 286 = .ok (.iconst 1, 1) := by decide +kernel
theorem dX4_join_287 : decode cX4_join 287 = .ok (.bastore, 1) := by decide +kernel
theorem dX4_join_288 : decode cX4_join 288 = .ok (.aload_n 0, 1) := by decide +kernel
theorem dX4_join_289 : decode cX4_join 289 = .ok (.getfield 72, 3) := by decide +kernel
theorem dX4_join_292 : decode cX4_join 292 = .ok (.iload 8, 2) := by decide +kernel
theorem dX4_join_294 : decode cX4_join 294 = .ok (.iconst 0, 1) := by decide +kernel
theorem dX4_join_295 : decode cX4_join 295 = .ok (.bastore, 1) := by decide +kernel
theorem dX4_join_296 : decode cX4_join 296 = .ok (.aload_n 0, 1) := by decide +kernel
theorem dX4_join_297 : decode cX4_join 297 = .ok (.getfield 68, 3) := by decide +kernel
theorem dX4_join_300 : decode cX4_join 300 = .ok (.iload 8, 2) := by decide +kernel
theorem dX4_join_302 : decode cX4_join 302 = .ok (.iconst 0, 1) := by decide +kernel
theorem dX4_join_303 : decode cX4_join 303 = .ok (.bastore, 1) := by decide +kernel
theorem dX4_join_304 : decode cX4_join 304 = .ok (.iload 8, 2) := by decide +kernel
theorem dX4_join_306 : decode cX4_join 306 = .ok (.ireturn, 1) := by decide +kernel
set_option maxRecDepth 20000 in
theorem ggX4_begin_X4_place : GoodIn wsX4_begin wsX4_place := goodIn_r _ [15, 16, 17, 18, 19, 20, 21, 22, 23, 24, 25, 26, 27, 28, 29, 30, 31, 32, 33, 34, 35, 36, 37, 38, 39, 40, 41, 42, 43, 44, 45, 46, 47, 48, 49, 50, 51, 52, 53, 54, 55, 56] (by decide +kernel) (by decide +kernel)
set_option maxRecDepth 20000 in
theorem gX4_begin_X4_place : GoodIn wsX4_begin (wsV RX4 146 RX4 yX4_place wsX4_place) := goodIn_app (goodIn_of _ (by decide +kernel)) ggX4_begin_X4_place
theorem dX4_begin_0 : decode cX4_begin 0 = .ok (.aload_n 0, 1) := by decide +kernel
theorem dX4_begin_1 : decode cX4_begin 1 = .ok (.aload_n 0, 1) := by decide +kernel
theorem dX4_begin_2 : decode cX4_begin 2 = .ok (.getfield 112, 3) := by decide +kernel
theorem dX4_begin_5 : decode cX4_begin 5 = .ok (.putfield 140, 3) := by decide +kernel
theorem dX4_begin_8 : decode cX4_begin 8 = .ok (.iconst 0, 1) := by decide +kernel
theorem dX4_begin_9 : decode cX4_begin 9 = .ok (.istore_n 1, 1) := by decide +kernel
theorem dX4_begin_10 : decode cX4_begin 10 = .ok (.iload_n 1, 1) := by decide +kernel
theorem dX4_begin_11 : decode cX4_begin 11 = .ok (.aload_n 0, 1) := by decide +kernel
theorem dX4_begin_12 : decode cX4_begin 12 = .ok (.getfield 112, 3) := by decide +kernel
theorem dX4_begin_15 : decode cX4_begin 15 = .ok (.if_icmp .ge 96, 3) := by decide +kernel
theorem dX4_begin_18 : decode cX4_begin 18 = .ok (.sipush 1024, 3) := by decide +kernel
theorem dX4_begin_21 : decode cX4_begin 21 = .ok (.aload_n 0, 1) := by decide +kernel
theorem dX4_begin_22 : decode cX4_begin 22 = .ok (.getfield 7, 3) := by decide +kernel
theorem dX4_begin_25 : decode cX4_begin 25 = .ok (.iload_n 1, 1) := by decide +kernel
theorem dX4_begin_26 : decode cX4_begin 26 = .ok (.iaload, 1) := by decide +kernel
theorem dX4_begin_27 : decode cX4_begin 27 = .ok (.aload_n 0, 1) := by decide +kernel
theorem dX4_begin_28 : decode cX4_begin 28 = .ok (.getfield 13, 3) := by decide +kernel
theorem dX4_begin_31 : decode cX4_begin 31 = .ok (.iload_n 1, 1) := by decide +kernel
theorem dX4_begin_32 : decode cX4_begin 32 = .ok (.iaload, 1) := by decide +kernel
theorem dX4_begin_33 : decode cX4_begin 33 = .ok (.iadd, 1) := by decide +kernel
theorem dX4_begin_34 : decode cX4_begin 34 = .ok (.imul, 1) := by decide +kernel
theorem dX4_begin_35 : decode cX4_begin 35 = .ok (.istore_n 2, 1) := by decide +kernel
theorem dX4_begin_36 : decode cX4_begin 36 = .ok (.sipush 1024, 3) := by decide +kernel
theorem dX4_begin_39 : decode cX4_begin 39 = .ok (.aload_n 0, 1) := by decide +kernel
theorem dX4_begin_40 : decode cX4_begin 40 = .ok (.getfield 7, 3) := by decide +kernel
theorem dX4_begin_43 : decode cX4_begin 43 = .ok (.iload_n 1, 1) := by decide +kernel
theorem dX4_begin_44 : decode cX4_begin 44 = .ok (.iaload, 1) := by decide +kernel
theorem dX4_begin_45 : decode cX4_begin 45 = .ok (.aload_n 0, 1) := by decide +kernel
theorem dX4_begin_46 : decode cX4_begin 46 = .ok (.getfield 13, 3) := by decide +kernel
theorem dX4_begin_49 : decode cX4_begin 49 = .ok (.iload_n 1, 1) := by decide +kernel
theorem dX4_begin_50 : decode cX4_begin 50 = .ok (.iaload, 1) := by decide +kernel
theorem dX4_begin_51 : decode cX4_begin 51 = .ok (.isub, 1) := by decide +kernel
theorem dX4_begin_52 : decode cX4_begin 52 = .ok (.imul, 1) := by decide +kernel
theorem dX4_begin_53 : decode cX4_begin 53 = .ok (.istore_n 3, 1) := by decide +kernel
theorem dX4_begin_54 : decode cX4_begin 54 = .ok (.aload_n 0, 1) := by decide +kernel
theorem dX4_begin_55 : decode cX4_begin 55 = .ok (.iload_n 1, 1) := by decide +kernel
theorem dX4_begin_56 : decode cX4_begin 56 = .ok (.iload_n 2, 1) := by decide +kernel
theorem dX4_begin_57 : decode cX4_begin 57 = .ok (.iload_n 2, 1) := by decide +kernel
theorem dX4_begin_58 : decode cX4_begin 58 = .ok (.iload_n 3, 1) := by decide +kernel
theorem dX4_begin_59 : decode cX4_begin 59 = .ok (.iload_n 3, 1) := by decide +kernel
theorem dX4_begin_60 : decode cX4_begin 60 = .ok (.invokevirtual 146, 3) := by decide +kernel
theorem dX4_begin_63 : decode cX4_begin 63 = .ok (.aload_n 0, 1) := by decide +kernel
theorem dX4_begin_64 : decode cX4_begin 64 = .ok (.getfield 35, 3) := by decide +kernel
theorem dX4_begin_67 : decode cX4_begin 67 = .ok (.iload_n 1, 1) := by decide +kernel
theorem dX4_begin_68 : decode cX4_begin 68 = .ok (.iconst (-1), 1) := by decide +kernel
theorem dX4_begin_69 : decode cX4_begin 69 = .ok (.iastore, 1) := by decide +kernel
theorem dX4_begin_70 : decode cX4_begin 70 = .ok (.aload_n 0, 1) := by decide +kernel
theorem dX4_begin_71 : decode cX4_begin 71 = .ok (.getfield 38, 3) := by decide +kernel
theorem dX4_begin_74 : decode cX4_begin 74 = .ok (.iload_n 1, 1) := by decide +kernel
theorem dX4_begin_75 : decode cX4_begin 75 = .ok (.iconst (-1), 1) := by decide +kernel
theorem dX4_begin_76 : decode cX4_begin 76 = .ok (.iastore, 1) := by decide +kernel
theorem dX4_begin_77 : decode cX4_begin 77 = .ok (.aload_n 0, 1) := by decide +kernel
theorem dX4_begin_78 : decode cX4_begin 78 = .ok (.getfield 41, 3) := by decide +kernel
theorem dX4_begin_81 : decode cX4_begin 81 = .ok (.iload_n 1, 1) := by decide +kernel
theorem dX4_begin_82 : decode cX4_begin 82 = .ok (.iconst (-1), 1) := by decide +kernel
theorem dX4_begin_83 : decode cX4_begin 83 = .ok (.iastore, 1) := by decide +kernel
theorem dX4_begin_84 : decode cX4_begin 84 = .ok (.aload_n 0, 1) := by decide +kernel
theorem dX4_begin_85 : decode cX4_begin 85 = .ok (.getfield 56, 3) := by decide +kernel
theorem dX4_begin_88 : decode cX4_begin 88 = .ok (.iload_n 1, 1) := by decide +kernel
theorem dX4_begin_89 : decode cX4_begin 89 = .ok (.iconst 0, 1) := by decide +kernel
theorem dX4_begin_90 : decode cX4_begin 90 = .ok (.iastore, 1) := by decide +kernel
theorem dX4_begin_91 : decode cX4_begin 91 = .ok (.aload_n 0, 1) := by decide +kernel
theorem dX4_begin_92 : decode cX4_begin 92 = .ok (.getfield 72, 3) := by decide +kernel
theorem dX4_begin_95 : decode cX4_begin 95 = .ok (.iload_n 1, 1) := by decide +kernel
theorem dX4_begin_96 : decode cX4_begin 96 = .ok (.iconst 0, 1) := by decide +kernel
theorem dX4_begin_97 : decode cX4_begin 97 = .ok (.bastore, 1) := by decide +kernel
theorem dX4_begin_98 : decode cX4_begin 98 = .ok (.aload_n 0, 1) := by decide +kernel
theorem dX4_begin_99 : decode cX4_begin 99 = .ok (.getfield 68, 3) := by decide +kernel
theorem dX4_begin_102 : decode cX4_begin 102 = .ok (.iload_n 1, 1) := by decide +kernel
theorem dX4_begin_103 : decode cX4_begin 103 = .ok (.iconst 0, 1) := by decide +kernel
theorem dX4_begin_104 : decode cX4_begin 104 = .ok (.bastore, 1) := by decide +kernel
theorem dX4_begin_105 : decode cX4_begin 105 = .ok (.iinc 1 1, 3) := by decide +kernel
theorem dX4_begin_108 : decode cX4_begin 108 = .ok (.goto (-98), 3) := by decide +kernel
theorem dX4_begin_111 : decode cX4_begin 111 = .ok (.return_, 1) := by decide +kernel
set_option maxRecDepth 20000 in
theorem ggX4_joinNearest_X4_distance : GoodIn wsX4_joinNearest wsX4_distance := goodIn_r _ [7, 8, 9, 10, 11, 12, 13, 6, 14, 15, 16, 17, 35, 36, 37, 38, 39, 40, 41, 42, 43, 44, 45, 46, 47, 48, 49, 50, 51, 52, 53, 54, 55, 56, 57, 58, 59, 60, 61, 62, 63, 64, 65, 66, 67, 68, 69, 70, 71] (by decide +kernel) (by decide +kernel)
set_option maxRecDepth 20000 in
theorem gX4_joinNearest_X4_distance : GoodIn wsX4_joinNearest (wsV RX4 137 RX4 yX4_distance wsX4_distance) := goodIn_app (goodIn_of _ (by decide +kernel)) ggX4_joinNearest_X4_distance
set_option maxRecDepth 20000 in
theorem ggX4_joinNearest_X4_join : GoodIn wsX4_joinNearest wsX4_join := goodIn_r _ [21, 22, 1, 23, 24, 25, 26, 8, 9, 10, 11, 2, 27, 3, 4, 5, 6, 7, 12, 13, 14, 15, 16, 17, 28, 29, 30, 31, 32, 33, 34, 35, 36, 37, 38, 39, 40, 41, 42, 43, 44, 45, 46, 47, 48, 49, 50, 51, 52, 53, 54, 55, 56, 57, 58, 59, 60, 61, 62, 63, 64, 65, 66, 67, 68, 69, 70, 71] (by decide +kernel) (by decide +kernel)
set_option maxRecDepth 20000 in
theorem gX4_joinNearest_X4_join : GoodIn wsX4_joinNearest (wsV RX4 150 RX4 yX4_join wsX4_join) := goodIn_app (goodIn_of _ (by decide +kernel)) ggX4_joinNearest_X4_join
theorem dX4_joinNearest_0 : decode cX4_joinNearest 0 = .ok (.iconst (-1), 1) := by decide +kernel
theorem dX4_joinNearest_1 : decode cX4_joinNearest 1 = .ok (.istore_n 1, 1) := by decide +kernel
theorem dX4_joinNearest_2 : decode cX4_joinNearest 2 = .ok (.iconst (-1), 1) := by decide +kernel
theorem dX4_joinNearest_3 : decode cX4_joinNearest 3 = .ok (.istore_n 2, 1) := by decide +kernel
theorem dX4_joinNearest_4 : decode cX4_joinNearest 4 = .ok (.iconst 0, 1) := by decide +kernel
theorem dX4_joinNearest_5 : decode cX4_joinNearest 5 = .ok (.istore_n 3, 1) := by decide +kernel
theorem dX4_joinNearest_6 : decode cX4_joinNearest 6 = .ok (.iload_n 3, 1) := by decide +kernel
theorem dX4_joinNearest_7 : decode cX4_joinNearest 7 = .ok (.aload_n 0, 1) := by decide +kernel
theorem dX4_joinNearest_8 : decode cX4_joinNearest 8 = .ok (.getfield 140, 3) := by decide +kernel
theorem dX4_joinNearest_11 : decode cX4_joinNearest 11 = .ok (.if_icmp .ge 85, 3) := by decide +kernel
theorem dX4_joinNearest_14 : decode cX4_joinNearest 14 = .ok (.iload_n 3, 1) := by decide +kernel
theorem dX4_joinNearest_15 : decode cX4_joinNearest 15 = .ok (.iconst 1, 1) := by decide +kernel
theorem dX4_joinNearest_16 : decode cX4_joinNearest 16 = .ok (.iadd, 1) := by decide +kernel
theorem dX4_joinNearest_17 : decode cX4_joinNearest 17 = .ok (.istore 4, 2) := by decide +kernel
theorem dX4_joinNearest_19 : decode cX4_joinNearest 19 = .ok (.iload 4, 2) := by decide +kernel
theorem dX4_joinNearest_21 : decode cX4_joinNearest 21 = .ok (.aload_n 0, 1) := by decide +kernel
theorem dX4_joinNearest_22 : decode cX4_joinNearest 22 = .ok (.getfield 140, 3) := by decide +kernel
theorem dX4_joinNearest_25 : decode cX4_joinNearest 25 = .ok (.if_icmp .ge 65, 3) := by decide +kernel
theorem dX4_joinNearest_28 : decode cX4_joinNearest 28 = .ok (.aload_n 0, 1) := by decide +kernel
theorem dX4_joinNearest_29 : decode cX4_joinNearest 29 = .ok (.getfield 72, 3) := by decide +kernel
theorem dX4_joinNearest_32 : decode cX4_joinNearest 32 = .ok (.iload_n 3, 1) := by decide +kernel
theorem dX4_joinNearest_33 : decode cX4_joinNearest 33 = .ok (.baload, 1) := by decide +kernel
theorem dX4_joinNearest_34 : decode cX4_joinNearest 34 = .ok (.ifCond .ne 17, 3) := by decide +kernel
theorem dX4_joinNearest_37 : decode cX4_joinNearest 37 = .ok (.aload_n 0, 1) := by decide +kernel
theorem dX4_joinNearest_38 : decode cX4_joinNearest 38 = .ok (.getfield 72, 3) := by decide +kernel
theorem dX4_joinNearest_41 : decode cX4_joinNearest 41 = .ok (.iload 4, 2) := by decide +kernel
theorem dX4_joinNearest_43 : decode cX4_joinNearest 43 = .ok (.baload, 1) := by decide +kernel
theorem dX4_joinNearest_44 : decode cX4_joinNearest 44 = .ok (.ifCond .ne 7, 3) := by decide +kernel
theorem dX4_joinNearest_47 : decode cX4_joinNearest 47 = .ok (.iconst 1, 1) := by decide +kernel
theorem dX4_joinNearest_48 : decode cX4_joinNearest 48 = .ok (.goto 4, 3) := by decide +kernel
theorem dX4_joinNearest_51 : decode cX4_joinNearest 51 = .ok (.iconst 0, 1) := by decide +kernel
theorem dX4_joinNearest_52 : decode cX4_joinNearest 52 = .ok (.istore 5, 2) := by decide +kernel
theorem dX4_joinNearest_54 : decode cX4_joinNearest 54 = .ok (.iload 5, 2) := by decide +kernel
theorem dX4_joinNearest_56 : decode cX4_joinNearest 56 = .ok (.ifCond .eq 28, 3) := by decide +kernel
theorem dX4_joinNearest_59 : decode cX4_joinNearest 59 = .ok (.iload_n 1, 1) := by decide +kernel
theorem dX4_joinNearest_60 : decode cX4_joinNearest 60 = .ok (.ifCond .lt 19, 3) := by decide +kernel
theorem dX4_joinNearest_63 : decode cX4_joinNearest 63 = .ok (.aload_n 0, 1) := by decide +kernel
theorem dX4_joinNearest_64 : decode cX4_joinNearest 64 = .ok (.iload_n 3, 1) := by decide +kernel
theorem dX4_joinNearest_65 : decode cX4_joinNearest 65 = .ok (.iload 4, 2) := by decide +kernel
theorem dX4_joinNearest_67 : decode cX4_joinNearest 67 = .ok (.invokevirtual 137, 3) := by decide +kernel
theorem dX4_joinNearest_70 : decode cX4_joinNearest 70 = .ok (.aload_n 0, 1) := by decide +kernel
theorem dX4_joinNearest_71 : decode cX4_joinNearest 71 = .ok (.iload_n 1, 1) := by decide +kernel
theorem dX4_joinNearest_72 : decode cX4_joinNearest 72 = .ok (.iload_n 2, 1) := by decide +kernel
theorem dX4_joinNearest_73 : decode cX4_joinNearest 73 = .ok (.invokevirtual 137, 3) := by decide +kernel
theorem dX4_joinNearest_76 : decode cX4_joinNearest 76 = .ok (.if_icmp .ge 8, 3) := by decide +kernel
theorem dX4_joinNearest_79 : decode cX4_joinNearest 79 = .ok (.iload_n 3, 1) := by decide +kernel
theorem dX4_joinNearest_80 : decode cX4_joinNearest 80 = .ok (.istore_n 1, 1) := by decide +kernel
theorem dX4_joinNearest_81 : decode cX4_joinNearest 81 = .ok (.iload 4, 2) := by decide +kernel
theorem dX4_joinNearest_83 : decode cX4_joinNearest 83 = .ok (.istore_n 2, 1) := by decide +kernel
theorem dX4_joinNearest_84 : decode cX4_joinNearest 84 = .ok (.iinc 4 1, 3) := by decide +kernel
theorem dX4_joinNearest_87 : decode cX4_joinNearest 87 = .ok (.goto (-68), 3) := by decide +kernel
theorem dX4_joinNearest_90 : decode cX4_joinNearest 90 = .ok (.iinc 3 1, 3) := by decide +kernel
theorem dX4_joinNearest_93 : decode cX4_joinNearest 93 = .ok (.goto (-87), 3) := by decide +kernel
theorem dX4_joinNearest_96 : decode cX4_joinNearest 96 = .ok (.aload_n 0, 1) := by decide +kernel
theorem dX4_joinNearest_97 : decode cX4_joinNearest 97 = .ok (.iload_n 1, 1) := by decide +kernel
theorem dX4_joinNearest_98 : decode cX4_joinNearest 98 = .ok (.iload_n 2, 1) := by decide +kernel
theorem dX4_joinNearest_99 : decode cX4_joinNearest 99 = .ok (.invokevirtual 150, 3) := by decide +kernel
theorem dX4_joinNearest_102 : decode cX4_joinNearest 102 = .ok (.pop, 1) := by decide +kernel
theorem dX4_joinNearest_103 : decode cX4_joinNearest 103 = .ok (.return_, 1) := by decide +kernel
theorem dX4_isBefore_0 : decode cX4_isBefore 0 = .ok (.iload_n 3, 1) := by decide +kernel
theorem dX4_isBefore_1 : decode cX4_isBefore 1 = .ok (.ifCond .eq 19, 3) := by decide +kernel
theorem dX4_isBefore_4 : decode cX4_isBefore 4 = .ok (.aload_n 0, 1) := by decide +kernel
theorem dX4_isBefore_5 : decode cX4_isBefore 5 = .ok (.getfield 7, 3) := by decide +kernel
theorem dX4_isBefore_8 : decode cX4_isBefore 8 = .ok (.iload_n 1, 1) := by decide +kernel
theorem dX4_isBefore_9 : decode cX4_isBefore 9 = .ok (.iaload, 1) := by decide +kernel
theorem dX4_isBefore_10 : decode cX4_isBefore 10 = .ok (.aload_n 0, 1) := by decide +kernel
theorem dX4_isBefore_11 : decode cX4_isBefore 11 = .ok (.getfield 7, 3) := by decide +kernel
theorem dX4_isBefore_14 : decode cX4_isBefore 14 = .ok (.iload_n 2, 1) := by decide +kernel
theorem dX4_isBefore_15 : decode cX4_isBefore 15 = .ok (.iaload, 1) := by decide +kernel
theorem dX4_isBefore_16 : decode cX4_isBefore 16 = .ok (.isub, 1) := by decide +kernel
theorem dX4_isBefore_17 : decode cX4_isBefore 17 = .ok (.goto 16, 3) := by decide +kernel
theorem dX4_isBefore_20 : decode cX4_isBefore 20 = .ok (.aload_n 0, 1) := by decide +kernel
theorem dX4_isBefore_21 : decode cX4_isBefore 21 = .ok (.getfield 13, 3) := by decide +kernel
theorem dX4_isBefore_24 : decode cX4_isBefore 24 = .ok (.iload_n 1, 1) := by decide +kernel
theorem dX4_isBefore_25 : decode cX4_isBefore 25 = .ok (.iaload, 1) := by decide +kernel
theorem dX4_isBefore_26 : decode cX4_isBefore 26 = .ok (.aload_n 0, 1) := by decide +kernel
theorem dX4_isBefore_27 : decode cX4_isBefore 27 = .ok (.getfield 13, 3) := by decide +kernel
theorem dX4_isBefore_30 : decode cX4_isBefore 30 = .ok (.iload_n 2, 1) := by decide +kernel
theorem dX4_isBefore_31 : decode cX4_isBefore 31 = .ok (.iaload, 1) := by decide +kernel
theorem dX4_isBefore_32 : decode cX4_isBefore 32 = .ok (.isub, 1) := by decide +kernel
theorem dX4_isBefore_33 : decode cX4_isBefore 33 = .ok (.istore 4, 2) := by decide +kernel
theorem dX4_isBefore_35 : decode cX4_isBefore 35 = .ok (.iload_n 3, 1) := by decide +kernel
theorem dX4_isBefore_36 : decode cX4_isBefore 36 = .ok (.ifCond .eq 19, 3) := by decide +kernel
theorem dX4_isBefore_39 : decode cX4_isBefore 39 = .ok (.aload_n 0, 1) := by decide +kernel
theorem dX4_isBefore_40 : decode cX4_isBefore 40 = .ok (.getfield 13, 3) := by decide +kernel
theorem dX4_isBefore_43 : decode cX4_isBefore 43 = .ok (.iload_n 1, 1) := by decide +kernel
theorem dX4_isBefore_44 : decode cX4_isBefore 44 = .ok (.iaload, 1) := by decide +kernel
theorem dX4_isBefore_45 : decode cX4_isBefore 45 = .ok (.aload_n 0, 1) := by decide +kernel
theorem dX4_isBefore_46 : decode cX4_isBefore 46 = .ok (.getfield 13, 3) := by decide +kernel
theorem dX4_isBefore_49 : decode cX4_isBefore 49 = .ok (.iload_n 2, 1) := by decide +kernel
theorem dX4_isBefore_50 : decode cX4_isBefore 50 = .ok (.iaload, 1) := by decide +kernel
theorem dX4_isBefore_51 : decode cX4_isBefore 51 = .ok (.isub, 1) := by decide +kernel
theorem dX4_isBefore_52 : decode cX4_isBefore 52 = .ok (.goto 16, 3) := by decide +kernel
theorem dX4_isBefore_55 : decode cX4_isBefore 55 = .ok (.aload_n 0, 1) := by decide +kernel
theorem dX4_isBefore_56 : decode cX4_isBefore 56 = .ok (.getfield 7, 3) := by decide +kernel
theorem dX4_isBefore_59 : decode cX4_isBefore 59 = .ok (.iload_n 1, 1) := by decide +kernel
theorem dX4_isBefore_60 : decode cX4_isBefore 60 = .ok (.iaload, 1) := by decide +kernel
theorem dX4_isBefore_61 : decode cX4_isBefore 61 = .ok (.aload_n 0, 1) := by decide +kernel
theorem dX4_isBefore_62 : decode cX4_isBefore 62 = .ok (.getfield 7, 3) := by decide +kernel
theorem dX4_isBefore_65 : decode cX4_isBefore 65 = .ok (.iload_n 2, 1) := by decide +kernel
theorem dX4_isBefore_66 : decode cX4_isBefore 66 = .ok (.iaload, 1) := by decide +kernel
theorem dX4_isBefore_67 : decode cX4_isBefore 67 = .ok (.isub, 1) := by decide +kernel
theorem dX4_isBefore_68 : decode cX4_isBefore 68 = .ok (.istore 5, 2) := by decide +kernel
theorem dX4_isBefore_70 : decode cX4_isBefore 70 = .ok (.iload 4, 2) := by decide +kernel
theorem dX4_isBefore_72 : decode cX4_isBefore 72 = .ok (.ifCond .eq 16, 3) := by decide +kernel
theorem dX4_isBefore_75 : decode cX4_isBefore 75 = .ok (.iload 4, 2) := by decide +kernel
theorem dX4_isBefore_77 : decode cX4_isBefore 77 = .ok (.ifCond .ge 7, 3) := by decide +kernel
theorem dX4_isBefore_80 : decode cX4_isBefore 80 = .ok (.iconst 1, 1) := by decide +kernel
theorem dX4_isBefore_81 : decode cX4_isBefore 81 = .ok (.goto 35, 3) := by decide +kernel
theorem dX4_isBefore_84 : decode cX4_isBefore 84 = .ok (.iconst 0, 1) := by decide +kernel
theorem dX4_isBefore_85 : decode cX4_isBefore 85 = .ok (.goto 31, 3) := by decide +kernel
theorem dX4_isBefore_88 : decode cX4_isBefore 88 = .ok (.iload 5, 2) := by decide +kernel
theorem dX4_isBefore_90 : decode cX4_isBefore 90 = .ok (.ifCond .eq 16, 3) := by decide +kernel
theorem dX4_isBefore_93 : decode cX4_isBefore 93 = .ok (.iload 5, 2) := by decide +kernel
theorem dX4_isBefore_95 : decode cX4_isBefore 95 = .ok (.ifCond .ge 7, 3) := by decide +kernel
theorem dX4_isBefore_98 : decode cX4_isBefore 98 = .ok (.iconst 1, 1) := by decide +kernel
theorem dX4_isBefore_99 : decode cX4_isBefore 99 = .ok (.goto 17, 3) := by decide +kernel
theorem dX4_isBefore_102 : decode cX4_isBefore 102 = .ok (.iconst 0, 1) := by decide +kernel
theorem dX4_isBefore_103 : decode cX4_isBefore 103 = .ok (.goto 13, 3) := by decide +kernel
theorem dX4_isBefore_106 : decode cX4_isBefore 106 = .ok (.iload_n 1, 1) := by decide +kernel
theorem dX4_isBefore_107 : decode cX4_isBefore 107 = .ok (.iload_n 2, 1) := by decide +kernel
theorem dX4_isBefore_108 : decode cX4_isBefore 108 = .ok (.if_icmp .ge 7, 3) := by decide +kernel
theorem dX4_isBefore_111 : decode cX4_isBefore 111 = .ok (.iconst 1, 1) := by decide +kernel
theorem dX4_isBefore_112 : decode cX4_isBefore 112 = .ok (.goto 4, 3) := by decide +kernel
theorem dX4_isBefore_115 : decode cX4_isBefore 115 = .ok (.iconst 0, 1) := by decide +kernel
theorem dX4_isBefore_116 : decode cX4_isBefore 116 = .ok (.ireturn, 1) := by decide +kernel
set_option maxRecDepth 20000 in
theorem ggX4_sort_X4_isBefore : GoodIn wsX4_sort wsX4_isBefore := goodIn_r _ [6, 7, 8, 9, 10, 11, 12, 13, 14, 15, 16, 17, 18, 19, 20, 21, 22, 23, 24, 25, 26, 27, 28, 29, 30, 31, 32, 33, 34, 35, 36, 37, 38, 39, 40, 41, 42, 43, 44, 45] (by decide +kernel) (by decide +kernel)
set_option maxRecDepth 20000 in
theorem gX4_sort_X4_isBefore : GoodIn wsX4_sort (wsV RX4 153 RX4 yX4_isBefore wsX4_isBefore) := goodIn_app (goodIn_of _ (by decide +kernel)) ggX4_sort_X4_isBefore
theorem dX4_sort_0 : decode cX4_sort 0 = .ok (.iload_n 1, 1) := by decide +kernel
theorem dX4_sort_1 : decode cX4_sort 1 = .ok (.iconst 1, 1) := by decide +kernel
theorem dX4_sort_2 : decode cX4_sort 2 = .ok (.iadd, 1) := by decide +kernel
theorem dX4_sort_3 : decode cX4_sort 3 = .ok (.istore 4, 2) := by decide +kernel
theorem dX4_sort_5 : decode cX4_sort 5 = .ok (.iload 4, 2) := by decide +kernel
theorem dX4_sort_7 : decode cX4_sort 7 = .ok (.iload_n 2, 1) := by decide +kernel
theorem dX4_sort_8 : decode cX4_sort 8 = .ok (.if_icmp .ge 78, 3) := by decide +kernel
theorem dX4_sort_11 : decode cX4_sort 11 = .ok (.aload_n 0, 1) := by decide +kernel
theorem dX4_sort_12 : decode cX4_sort 12 = .ok (.getfield 75, 3) := by decide +kernel
theorem dX4_sort_15 : decode cX4_sort 15 = .ok (.iload 4, 2) := by decide +kernel
theorem dX4_sort_17 : decode cX4_sort 17 = .ok (.iaload, 1) := by decide +kernel
theorem dX4_sort_18 : decode cX4_sort 18 = .ok (.istore 5, 2) := by decide +kernel
theorem dX4_sort_20 : decode cX4_sort 20 = .ok (.iload 4, 2) := by decide +kernel
theorem dX4_sort_22 : decode cX4_sort 22 = .ok (.istore 6, 2) := by decide +kernel
theorem dX4_sort_24 : decode cX4_sort 24 = .ok (.iload 6, 2) := by decide +kernel
theorem dX4_sort_26 : decode cX4_sort 26 = .ok (.iload_n 1, 1) := by decide +kernel
theorem dX4_sort_27 : decode cX4_sort 27 = .ok (.if_icmp .le 44, 3) := by decide +kernel
theorem dX4_sort_30 : decode cX4_sort 30 = .ok (.aload_n 0, 1) := by decide +kernel
theorem dX4_sort_31 : decode cX4_sort 31 = .ok (.iload 5, 2) := by decide +kernel
theorem dX4_sort_33 : decode cX4_sort 33 = .ok (.aload_n 0, 1) := by decide +kernel
theorem dX4_sort_34 : decode cX4_sort 34 = .ok (.getfield 75, 3) := by decide +kernel
theorem dX4_sort_37 : decode cX4_sort 37 = .ok (.iload 6, 2) := by decide +kernel
theorem dX4_sort_39 : decode cX4_sort 39 = .ok (.iconst 1, 1) := by decide +kernel
theorem dX4_sort_40 : decode cX4_sort 40 = .ok (.isub, 1) := by decide +kernel
theorem dX4_sort_41 : decode cX4_sort 41 = .ok (.iaload, 1) := by decide +kernel
theorem dX4_sort_42 : decode cX4_sort 42 = .ok (.iload_n 3, 1) := by decide +kernel
theorem dX4_sort_43 : decode cX4_sort 43 = .ok (.invokevirtual 153, 3) := by decide +kernel
theorem dX4_sort_46 : decode cX4_sort 46 = .ok (.ifCond .eq 25, 3) := by decide +kernel
theorem dX4_sort_49 : decode cX4_sort 49 = .ok (.aload_n 0, 1) := by decide +kernel
theorem dX4_sort_50 : decode cX4_sort 50 = .ok (.getfield 75, 3) := by decide +kernel
theorem dX4_sort_53 : decode cX4_sort 53 = .ok (.iload 6, 2) := by decide +kernel
theorem dX4_sort_55 : decode cX4_sort 55 = .ok (.aload_n 0, 1) := by decide +kernel
theorem dX4_sort_56 : decode cX4_sort 56 = .ok (.getfield 75, 3) := by decide +kernel
theorem dX4_sort_59 : decode cX4_sort 59 = .ok (.iload 6, 2) := by decide +kernel
theorem dX4_sort_61 : decode cX4_sort 61 = .ok (.iconst 1, 1) := by decide +kernel
theorem dX4_sort_62 : decode cX4_sort 62 = .ok (.isub, 1) := by decide +kernel
theorem dX4_sort_63 : decode cX4_sort 63 = .ok (.iaload, 1) := by decide +kernel
theorem dX4_sort_64 : decode cX4_sort 64 = .ok (.iastore, 1) := by decide +kernel
theorem dX4_sort_65 : decode cX4_sort 65 = .ok (.iinc 6 (-1), 3) := by decide +kernel
theorem dX4_sort_68 : decode cX4_sort 68 = .ok (.goto (-44), 3) := by decide +kernel
theorem dX4_sort_71 : decode cX4_sort 71 = .ok (.aload_n 0, 1) := by decide +kernel
theorem dX4_sort_72 : decode cX4_sort 72 = .ok (.getfield 75, 3) := by decide +kernel
theorem dX4_sort_75 : decode cX4_sort 75 = .ok (.iload 6, 2) := by decide +kernel
theorem dX4_sort_77 : decode cX4_sort 77 = .ok (.iload 5, 2) := by decide +kernel
theorem dX4_sort_79 : decode cX4_sort 79 = .ok (.iastore, 1) := by decide +kernel
theorem dX4_sort_80 : decode cX4_sort 80 = .ok (.iinc 4 1, 3) := by decide +kernel
theorem dX4_sort_83 : decode cX4_sort 83 = .ok (.goto (-78), 3) := by decide +kernel
theorem dX4_sort_86 : decode cX4_sort 86 = .ok (.return_, 1) := by decide +kernel
theorem dX4_push_0 : decode cX4_push 0 = .ok (.aload_n 0, 1) := by decide +kernel
theorem dX4_push_1 : decode cX4_push 1 = .ok (.getfield 78, 3) := by decide +kernel
theorem dX4_push_4 : decode cX4_push 4 = .ok (.aload_n 0, 1) := by decide +kernel
theorem dX4_push_5 : decode cX4_push 5 = .ok (.getfield 157, 3) := by decide +kernel
theorem dX4_push_8 : decode cX4_push 8 = .ok (.iload_n 1, 1) := by decide +kernel
theorem dX4_push_9 : decode cX4_push 9 = .ok (.iastore, 1) := by decide +kernel
theorem dX4_push_10 : decode cX4_push 10 = .ok (.aload_n 0, 1) := by decide +kernel
theorem dX4_push_11 : decode cX4_push 11 = .ok (.getfield 81, 3) := by decide +kernel
theorem dX4_push_14 : decode cX4_push 14 = .ok (.aload_n 0, 1) := by decide +kernel
theorem dX4_push_15 : decode cX4_push 15 = .ok (.getfield 157, 3) := by decide +kernel
theorem dX4_push_18 : decode cX4_push 18 = .ok (.iload_n 2, 1) := by decide +kernel
theorem dX4_push_19 : decode cX4_push 19 = .ok (.iastore, 1) := by decide +kernel
theorem dX4_push_20 : decode cX4_push 20 = .ok (.aload_n 0, 1) := by decide +kernel
theorem dX4_push_21 : decode cX4_push 21 = .ok (.getfield 84, 3) := by decide +kernel
theorem dX4_push_24 : decode cX4_push 24 = .ok (.aload_n 0, 1) := by decide +kernel
theorem dX4_push_25 : decode cX4_push 25 = .ok (.getfield 157, 3) := by decide +kernel
theorem dX4_push_28 : decode cX4_push 28 = .ok (.iload_n 3, 1) := by decide +kernel
theorem dX4_push_29 : decode cX4_push 29 = .ok (.iastore, 1) := by decide +kernel
theorem dX4_push_30 : decode cX4_push 30 = .ok (.aload_n 0, 1) := by decide +kernel
theorem dX4_push_31 : decode cX4_push 31 = .ok (.getfield 87, 3) := by decide +kernel
theorem dX4_push_34 : decode cX4_push 34 = .ok (.aload_n 0, 1) := by decide +kernel
theorem dX4_push_35 : decode cX4_push 35 = .ok (.getfield 157, 3) := by decide +kernel
theorem dX4_push_38 : decode cX4_push 38 = .ok (.iconst 0, 1) := by decide +kernel
theorem dX4_push_39 : decode cX4_push 39 = .ok (.iastore, 1) := by decide +kernel
theorem dX4_push_40 : decode cX4_push 40 = .ok (.aload_n 0, 1) := by decide +kernel
theorem dX4_push_41 : decode cX4_push 41 = .ok (.dup, 1) := by decide +kernel
theorem dX4_push_42 : decode cX4_push 42 = .ok (.getfield 157, 3) := by decide +kernel
theorem dX4_push_45 : decode cX4_push 45 = .ok (.iconst 1, 1) := by decide +kernel
theorem dX4_push_46 : decode cX4_push 46 = .ok (.iadd, 1) := by decide +kernel
theorem dX4_push_47 : decode cX4_push 47 = .ok (.putfield 157, 3) := by decide +kernel
theorem dX4_push_50 : decode cX4_push 50 = .ok (.return_, 1) := by decide +kernel
set_option maxRecDepth 20000 in
theorem ggX4_cutAll_X4_push : GoodIn wsX4_cutAll wsX4_push := goodIn_r _ [13, 4, 3, 5, 7, 6, 57, 58, 59, 60, 61, 62, 63, 64, 65, 66, 67, 68, 69, 70, 71, 72, 73, 74, 75, 76, 77, 78, 79, 80, 81, 82, 83, 84, 85, 86, 87, 88, 89, 90, 91, 92, 93] (by decide +kernel) (by decide +kernel)
set_option maxRecDepth 20000 in
theorem gX4_cutAll_X4_push : GoodIn wsX4_cutAll (wsV RX4 160 RX4 yX4_push wsX4_push) := goodIn_app (goodIn_of _ (by decide +kernel)) ggX4_cutAll_X4_push
set_option maxRecDepth 20000 in
theorem ggX4_cutAll_X4_sort : GoodIn wsX4_cutAll wsX4_sort := goodIn_r _ [17, 2, 18, 19, 20, 12, 21, 22, 23, 57, 58, 59, 60, 61, 62, 63, 64, 65, 66, 67, 68, 69, 70, 71, 72, 73, 74, 75, 76, 77, 78, 79, 80, 81, 82, 83, 84, 85, 86, 87, 88, 89, 90, 91, 92, 93] (by decide +kernel) (by decide +kernel)
set_option maxRecDepth 20000 in
theorem gX4_cutAll_X4_sort : GoodIn wsX4_cutAll (wsV RX4 164 RX4 yX4_sort wsX4_sort) := goodIn_app (goodIn_of _ (by decide +kernel)) ggX4_cutAll_X4_sort
set_option maxRecDepth 20000 in
theorem ggX4_cutAll_X4_join : GoodIn wsX4_cutAll wsX4_join := goodIn_r _ [27, 28, 29, 30, 31, 32, 33, 34, 35, 36, 37, 38, 39, 40, 41, 42, 12, 43, 44, 45, 46, 47, 48, 49, 50, 51, 52, 53, 54, 55, 56, 57, 58, 59, 60, 61, 62, 63, 64, 65, 66, 67, 68, 69, 70, 71, 72, 73, 74, 75, 76, 77, 78, 79, 80, 81, 82, 83, 84, 85, 86, 87, 88, 89, 90, 91, 92, 93] (by decide +kernel) (by decide +kernel)
set_option maxRecDepth 20000 in
theorem gX4_cutAll_X4_join : GoodIn wsX4_cutAll (wsV RX4 150 RX4 yX4_join wsX4_join) := goodIn_app (goodIn_of _ (by decide +kernel)) ggX4_cutAll_X4_join
theorem dX4_cutAll_0 : decode cX4_cutAll 0 = .ok (.iconst 0, 1) := by decide +kernel
theorem dX4_cutAll_1 : decode cX4_cutAll 1 = .ok (.istore_n 1, 1) := by decide +kernel
theorem dX4_cutAll_2 : decode cX4_cutAll 2 = .ok (.iload_n 1, 1) := by decide +kernel
theorem dX4_cutAll_3 : decode cX4_cutAll 3 = .ok (.aload_n 0, 1) := by decide +kernel
theorem dX4_cutAll_4 : decode cX4_cutAll 4 = .ok (.getfield 112, 3) := by decide +kernel
theorem dX4_cutAll_7 : decode cX4_cutAll 7 = .ok (.if_icmp .ge 16, 3) := by decide +kernel
theorem dX4_cutAll_10 : decode cX4_cutAll 10 = .ok (.aload_n 0, 1) := by decide +kernel
theorem dX4_cutAll_11 : decode cX4_cutAll 11 = .ok (.getfield 75, 3) := by decide +kernel
theorem dX4_cutAll_14 : decode cX4_cutAll 14 = .ok (.iload_n 1, 1) := by decide +kernel
theorem dX4_cutAll_15 : decode cX4_cutAll 15 = .ok (.iload_n 1, 1) := by decide +kernel
theorem dX4_cutAll_16 : decode cX4_cutAll 16 = .ok (.iastore, 1) := by decide +kernel
theorem dX4_cutAll_17 : decode cX4_cutAll 17 = .ok (.iinc 1 1, 3) := by decide +kernel
theorem dX4_cutAll_20 : decode cX4_cutAll 20 = .ok (.goto (-18), 3) := by decide +kernel
theorem dX4_cutAll_23 : decode cX4_cutAll 23 = .ok (.iconst 0, 1) := by decide +kernel
theorem dX4_cutAll_24 : decode cX4_cutAll 24 = .ok (.istore_n 1, 1) := by decide +kernel
theorem dX4_cutAll_25 : decode cX4_cutAll 25 = .ok (.aload_n 0, 1) := by decide +kernel
theorem dX4_cutAll_26 : decode cX4_cutAll 26 = .ok (.iconst 0, 1) := by decide +kernel
theorem dX4_cutAll_27 : decode cX4_cutAll 27 = .ok (.putfield 157, 3) := by decide +kernel
theorem dX4_cutAll_30 : decode cX4_cutAll 30 = .ok (.aload_n 0, 1) := by decide +kernel
theorem dX4_cutAll_31 : decode cX4_cutAll 31 = .ok (.iconst 0, 1) := by decide +kernel
theorem dX4_cutAll_32 : decode cX4_cutAll 32 = .ok (.aload_n 0, 1) := by decide +kernel
theorem dX4_cutAll_33 : decode cX4_cutAll 33 = .ok (.getfield 112, 3) := by decide +kernel
theorem dX4_cutAll_36 : decode cX4_cutAll 36 = .ok (.iconst 0, 1) := by decide +kernel
theorem dX4_cutAll_37 : decode cX4_cutAll 37 = .ok (.invokevirtual 160, 3) := by decide +kernel
theorem dX4_cutAll_40 : decode cX4_cutAll 40 = .ok (.aload_n 0, 1) := by decide +kernel
theorem dX4_cutAll_41 : decode cX4_cutAll 41 = .ok (.getfield 157, 3) := by decide +kernel
theorem dX4_cutAll_44 : decode cX4_cutAll 44 = .ok (.ifCond .le 218, 3) := by decide +kernel
theorem dX4_cutAll_47 : decode cX4_cutAll 47 = .ok (.aload_n 0, 1) := by decide +kernel
theorem dX4_cutAll_48 : decode cX4_cutAll 48 = .ok (.getfield 157, 3) := by decide +kernel
theorem dX4_cutAll_51 : decode cX4_cutAll 51 = .ok (.iconst 1, 1) := by decide +kernel
theorem dX4_cutAll_52 : decode cX4_cutAll 52 = .ok (.isub, 1) := by decide +kernel
theorem dX4_cutAll_53 : decode cX4_cutAll 53 = .ok (.istore_n 2, 1) := by decide +kernel
theorem dX4_cutAll_54 : decode cX4_cutAll 54 = .ok (.aload_n 0, 1) := by decide +kernel
theorem dX4_cutAll_55 : decode cX4_cutAll 55 = .ok (.getfield 78, 3) := by decide +kernel
theorem dX4_cutAll_58 : decode cX4_cutAll 58 = .ok (.iload_n 2, 1) := by decide +kernel
theorem dX4_cutAll_59 : decode cX4_cutAll 59 = .ok (.iaload, 1) := by decide +kernel
theorem dX4_cutAll_60 : decode cX4_cutAll 60 = .ok (.aload_n 0, 1) := by decide +kernel
theorem dX4_cutAll_61 : decode cX4_cutAll 61 = .ok (.getfield 81, 3) := by decide +kernel
theorem dX4_cutAll_64 : decode cX4_cutAll 64 = .ok (.iload_n 2, 1) := by decide +kernel
theorem dX4_cutAll_65 : decode cX4_cutAll 65 = .ok (.iaload, 1) := by decide +kernel
theorem dX4_cutAll_66 : decode cX4_cutAll 66 = .ok (.aload_n 0, 1) := by decide +kernel
theorem dX4_cutAll_67 : decode cX4_cutAll 67 = .ok (.getfield 78, 3) := by decide +kernel
theorem dX4_cutAll_70 : decode cX4_cutAll 70 = .ok (.iload_n 2, 1) := by decide +kernel
theorem dX4_cutAll_71 : decode cX4_cutAll 71 = .ok (.iaload, 1) := by decide +kernel
theorem dX4_cutAll_72 : decode cX4_cutAll 72 = .ok (.isub, 1) := by decide +kernel
theorem dX4_cutAll_73 : decode cX4_cutAll 73 = .ok (.iconst 1, 1) := by decide +kernel
theorem dX4_cutAll_74 : decode cX4_cutAll 74 = .ok (.iadd, 1) := by decide +kernel
theorem dX4_cutAll_75 : decode cX4_cutAll 75 = .ok (.iconst 2, 1) := by decide +kernel
theorem dX4_cutAll_76 : decode cX4_cutAll 76 = .ok (.idiv, 1) := by decide +kernel
theorem dX4_cutAll_77 : decode cX4_cutAll 77 = .ok (.iadd, 1) := by decide +kernel
theorem dX4_cutAll_78 : decode cX4_cutAll 78 = .ok (.istore_n 3, 1) := by decide +kernel
theorem dX4_cutAll_79 : decode cX4_cutAll 79 = .ok (.aload_n 0, 1) := by decide +kernel
theorem dX4_cutAll_80 : decode cX4_cutAll 80 = .ok (.getfield 81, 3) := by decide +kernel
theorem dX4_cutAll_83 : decode cX4_cutAll 83 = .ok (.iload_n 2, 1) := by decide +kernel
theorem dX4_cutAll_84 : decode cX4_cutAll 84 = .ok (.iaload, 1) := by decide +kernel
theorem dX4_cutAll_85 : decode cX4_cutAll 85 = .ok (.aload_n 0, 1) := by decide +kernel
theorem dX4_cutAll_86 : decode cX4_cutAll 86 = .ok (.getfield 78, 3) := by decide +kernel
theorem dX4_cutAll_89 : decode cX4_cutAll 89 = .ok (.iload_n 2, 1) := by decide +kernel
theorem dX4_cutAll_90 : decode cX4_cutAll 90 = .ok (.iaload, 1) := by decide +kernel
theorem dX4_cutAll_91 : decode cX4_cutAll 91 = .ok (.isub, 1) := by decide +kernel
theorem dX4_cutAll_92 : decode cX4_cutAll 92 = .ok (.iconst 1, 1) := by decide +kernel
theorem dX4_cutAll_93 : decode cX4_cutAll 93 = .ok (.if_icmp .ne 28, 3) := by decide +kernel
theorem dX4_cutAll_96 : decode cX4_cutAll 96 = .ok (.aload_n 0, 1) := by decide +kernel
theorem dX4_cutAll_97 : decode cX4_cutAll 97 = .ok (.getfield 75, 3) := by decide +kernel
theorem dX4_cutAll_100 : decode cX4_cutAll 100 = .ok (.aload_n 0, 1) := by decide +kernel
theorem dX4_cutAll_101 : decode cX4_cutAll 101 = .ok (.getfield 78, 3) := by decide +kernel
theorem dX4_cutAll_104 : decode cX4_cutAll 104 = .ok (.iload_n 2, 1) := by decide +kernel
theorem dX4_cutAll_105 : decode cX4_cutAll 105 = .ok (.iaload, 1) := by decide +kernel
theorem dX4_cutAll_106 : decode cX4_cutAll 106 = .ok (.iaload, 1) := by decide +kernel
theorem dX4_cutAll_107 : decode cX4_cutAll 107 = .ok (.istore_n 1, 1) := by decide +kernel
theorem dX4_cutAll_108 : decode cX4_cutAll 108 = .ok (.aload_n 0, 1) := by decide +kernel
theorem dX4_cutAll_109 : decode cX4_cutAll 109 = .ok (.dup, 1) := by decide +kernel
theorem dX4_cutAll_110 : decode cX4_cutAll 110 = .ok (.getfield 157, 3) := by decide +kernel
theorem dX4_cutAll_113 : decode cX4_cutAll 113 = .ok (.iconst 1, 1) := by decide +kernel
theorem dX4_cutAll_114 : decode cX4_cutAll 114 = .ok (.isub, 1) := by decide +kernel
theorem dX4_cutAll_115 : decode cX4_cutAll 115 = .ok (.putfield 157, 3) := by decide +kernel
theorem dX4_cutAll_118 : decode cX4_cutAll 118 = .ok (.goto 141, 3) := by decide +kernel
theorem dX4_cutAll_121 : decode cX4_cutAll 121 = .ok (.aload_n 0, 1) := by decide +kernel
theorem dX4_cutAll_122 : decode cX4_cutAll 122 = .ok (.getfield 87, 3) := by decide +kernel
theorem dX4_cutAll_125 : decode cX4_cutAll 125 = .ok (.iload_n 2, 1) := by decide +kernel
theorem dX4_cutAll_126 : decode cX4_cutAll 126 = .ok (.iaload, 1) := by decide +kernel
theorem dX4_cutAll_127 : decode cX4_cutAll 127 = .ok (.ifCond .ne 64, 3) := by decide +kernel
theorem dX4_cutAll_130 : decode cX4_cutAll 130 = .ok (.aload_n 0, 1) := by decide +kernel
theorem dX4_cutAll_131 : decode cX4_cutAll 131 = .ok (.aload_n 0, 1) := by decide +kernel
theorem dX4_cutAll_132 : decode cX4_cutAll 132 = .ok (.getfield 78, 3) := by decide +kernel
theorem dX4_cutAll_135 : decode cX4_cutAll 135 = .ok (.iload_n 2, 1) := by decide +kernel
theorem dX4_cutAll_136 : decode cX4_cutAll 136 = .ok (.iaload, 1) := by decide +kernel
theorem dX4_cutAll_137 : decode cX4_cutAll 137 = .ok (.aload_n 0, 1) := by decide +kernel
theorem dX4_cutAll_138 : decode cX4_cutAll 138 = .ok (.getfield 81, 3) := by decide +kernel
theorem dX4_cutAll_141 : decode cX4_cutAll 141 = .ok (.iload_n 2, 1) := by decide +kernel
theorem dX4_cutAll_142 : decode cX4_cutAll 142 = .ok (.iaload, 1) := by decide +kernel
theorem dX4_cutAll_143 : decode cX4_cutAll 143 = .ok (.aload_n 0, 1) := by decide +kernel
theorem dX4_cutAll_144 : decode cX4_cutAll 144 = .ok (.getfield 84, 3) := by decide +kernel
theorem dX4_cutAll_147 : decode cX4_cutAll 147 = .ok (.iload_n 2, 1) := by decide +kernel
theorem dX4_cutAll_148 : decode cX4_cutAll 148 = .ok (.iaload, 1) := by decide +kernel
theorem dX4_cutAll_149 : decode cX4_cutAll 149 = .ok (.iconst 2, 1) := by decide +kernel
theorem dX4_cutAll_150 : decode cX4_cutAll 150 = .ok (.irem, 1) := by decide +kernel
theorem dX4_cutAll_151 : decode cX4_cutAll 151 = .ok (.ifCond .ne 7, 3) := by decide +kernel
theorem dX4_cutAll_154 : decode cX4_cutAll 154 = .ok (.iconst 1, 1) := by decide +kernel
theorem dX4_cutAll_155 : decode cX4_cutAll 155 = .ok (.goto 4, 3) := by decide +kernel
theorem dX4_cutAll_158 : decode cX4_cutAll 158 = .ok (.iconst 0, 1) := by decide +kernel
theorem dX4_cutAll_159 : decode cX4_cutAll 159 = .ok (.invokevirtual 164, 3) := by decide +kernel
theorem dX4_cutAll_162 : decode cX4_cutAll 162 = .ok (.aload_n 0, 1) := by decide +kernel
theorem dX4_cutAll_163 : decode cX4_cutAll 163 = .ok (.getfield 87, 3) := by decide +kernel
theorem dX4_cutAll_166 : decode cX4_cutAll 166 = .ok (.iload_n 2, 1) := by decide +kernel
theorem dX4_cutAll_167 : decode cX4_cutAll 167 = .ok (.iconst 1, 1) := by decide +kernel
theorem dX4_cutAll_168 : decode cX4_cutAll 168 = .ok (.iastore, 1) := by decide +kernel
theorem dX4_cutAll_169 : decode cX4_cutAll 169 = .ok (.aload_n 0, 1) := by decide +kernel
theorem dX4_cutAll_170 : decode cX4_cutAll 170 = .ok (.aload_n 0, 1) := by decide +kernel
theorem dX4_cutAll_171 : decode cX4_cutAll 171 = .ok (.getfield 78, 3) := by decide +kernel
theorem dX4_cutAll_174 : decode cX4_cutAll 174 = .ok (.iload_n 2, 1) := by decide +kernel
theorem dX4_cutAll_175 : decode cX4_cutAll 175 = .ok (.iaload, 1) := by decide +kernel
theorem dX4_cutAll_176 : decode cX4_cutAll 176 = .ok (.iload_n 3, 1) := by decide +kernel
theorem dX4_cutAll_177 : decode cX4_cutAll 177 = .ok (.aload_n 0, 1) := by decide +kernel
theorem dX4_cutAll_178 : decode cX4_cutAll 178 = .ok (.getfield 84, 3) := by decide +kernel
theorem dX4_cutAll_181 : decode cX4_cutAll 181 = .ok (.iload_n 2, 1) := by decide +kernel
theorem dX4_cutAll_182 : decode cX4_cutAll 182 = .ok (.iaload, 1) := by decide +kernel
theorem dX4_cutAll_183 : decode cX4_cutAll 183 = .ok (.iconst 1, 1) := by decide +kernel
theorem dX4_cutAll_184 : decode cX4_cutAll 184 = .ok (.iadd, 1) := by decide +kernel
theorem dX4_cutAll_185 : decode cX4_cutAll 185 = .ok (.invokevirtual 160, 3) := by decide +kernel
theorem dX4_cutAll_188 : decode cX4_cutAll 188 = .ok (.goto 71, 3) := by decide +kernel
theorem dX4_cutAll_191 : decode cX4_cutAll 191 = .ok (.aload_n 0, 1) := by decide +kernel
theorem dX4_cutAll_192 : decode cX4_cutAll 192 = .ok (.getfield 87, 3) := by decide +kernel
theorem dX4_cutAll_195 : decode cX4_cutAll 195 = .ok (.iload_n 2, 1) := by decide +kernel
theorem dX4_cutAll_196 : decode cX4_cutAll 196 = .ok (.iaload, 1) := by decide +kernel
theorem dX4_cutAll_197 : decode cX4_cutAll 197 = .ok (.iconst 1, 1) := by decide +kernel
theorem dX4_cutAll_198 : decode cX4_cutAll 198 = .ok (.if_icmp .ne 39, 3) := by decide +kernel
theorem dX4_cutAll_201 : decode cX4_cutAll 201 = .ok (.aload_n 0, 1) := by decide +kernel
theorem dX4_cutAll_202 : decode cX4_cutAll 202 = .ok (.getfield 90, 3) := by decide +kernel
theorem dX4_cutAll_205 : decode cX4_cutAll 205 = .ok (.iload_n 2, 1) := by decide +kernel
theorem dX4_cutAll_206 : decode cX4_cutAll 206 = .ok (.iload_n 1, 1) := by decide +kernel
theorem dX4_cutAll_207 : decode cX4_cutAll 207 = .ok (.iastore, 1) := by decide +kernel
theorem dX4_cutAll_208 : decode cX4_cutAll 208 = .ok (.aload_n 0, 1) := by decide +kernel
theorem dX4_cutAll_209 : decode cX4_cutAll 209 = .ok (.getfield 87, 3) := by decide +kernel
theorem dX4_cutAll_212 : decode cX4_cutAll 212 = .ok (.iload_n 2, 1) := by decide +kernel
theorem dX4_cutAll_213 : decode cX4_cutAll 213 = .ok (.iconst 2, 1) := by decide +kernel
theorem dX4_cutAll_214 : decode cX4_cutAll 214 = .ok (.iastore, 1) := by decide +kernel
theorem dX4_cutAll_215 : decode cX4_cutAll 215 = .ok (.aload_n 0, 1) := by decide +kernel
theorem dX4_cutAll_216 : decode cX4_cutAll 216 = .ok (.iload_n 3, 1) := by decide +kernel
theorem dX4_cutAll_217 : decode cX4_cutAll 217 = .ok (.aload_n 0, 1) := by decide +kernel
theorem dX4_cutAll_218 : decode cX4_cutAll 218 = .ok (.getfield 81, 3) := by decide +kernel
theorem dX4_cutAll_221 : decode cX4_cutAll 221 = .ok (.iload_n 2, 1) := by decide +kernel
theorem dX4_cutAll_222 : decode cX4_cutAll 222 = .ok (.iaload, 1) := by decide +kernel
theorem dX4_cutAll_223 : decode cX4_cutAll 223 = .ok (.aload_n 0, 1) := by decide +kernel
theorem dX4_cutAll_224 : decode cX4_cutAll 224 = .ok (.getfield 84, 3) := by decide +kernel
theorem dX4_cutAll_227 : decode cX4_cutAll 227 = .ok (.iload_n 2, 1) := by decide +kernel
theorem dX4_cutAll_228 : decode cX4_cutAll 228 = .ok (.iaload, 1) := by decide +kernel
theorem dX4_cutAll_229 : decode cX4_cutAll 229 = .ok (.iconst 1, 1) := by decide +kernel
theorem dX4_cutAll_230 : decode cX4_cutAll 230 = .ok (.iadd, 1) := by decide +kernel
theorem dX4_cutAll_231 : decode cX4_cutAll 231 = .ok (.invokevirtual 160, 3) := by decide +kernel
theorem dX4_cutAll_234 : decode cX4_cutAll 234 = .ok (.goto 25, 3) := by decide +kernel
theorem dX4_cutAll_237 : decode cX4_cutAll 237 = .ok (.aload_n 0, 1) := by decide +kernel
theorem dX4_cutAll_238 : decode cX4_cutAll 238 = .ok (.aload_n 0, 1) := by decide +kernel
theorem dX4_cutAll_239 : decode cX4_cutAll 239 = .ok (.getfield 90, 3) := by decide +kernel
theorem dX4_cutAll_242 : decode cX4_cutAll 242 = .ok (.iload_n 2, 1) := by decide +kernel
theorem dX4_cutAll_243 : decode cX4_cutAll 243 = .ok (.iaload, 1) := by decide +kernel
theorem dX4_cutAll_244 : decode cX4_cutAll 244 = .ok (.iload_n 1, 1) := by decide +kernel
theorem dX4_cutAll_245 : decode cX4_cutAll 245 = .ok (.invokevirtual 150, 3) := by decide +kernel
theorem dX4_cutAll_248 : decode cX4_cutAll 248 = .ok (.istore_n 1, 1) := by decide +kernel
theorem dX4_cutAll_249 : decode cX4_cutAll 249 = .ok (.aload_n 0, 1) := by decide +kernel
theorem dX4_cutAll_250 : decode cX4_cutAll 250 = .ok (.dup, 1) := by decide +kernel
theorem dX4_cutAll_251 : decode cX4_cutAll 251 = .ok (.getfield 157, 3) := by decide +kernel
theorem dX4_cutAll_254 : decode cX4_cutAll 254 = .ok (.iconst 1, 1) := by decide +kernel
theorem dX4_cutAll_255 : decode cX4_cutAll 255 = .ok (.isub, 1) := by decide +kernel
theorem dX4_cutAll_256 : decode cX4_cutAll 256 = .ok (.putfield 157, 3) := by decide +kernel
theorem dX4_cutAll_259 : decode cX4_cutAll 259 = .ok (.goto (-219), 3) := by decide +kernel
theorem dX4_cutAll_262 : decode cX4_cutAll 262 = .ok (.return_, 1) := by decide +kernel
theorem dX4_nearest_0 : decode cX4_nearest 0 = .ok (.iload_n 0, 1) := by decide +kernel
theorem dX4_nearest_1 : decode cX4_nearest 1 = .ok (.iload_n 1, 1) := by decide +kernel
theorem dX4_nearest_2 : decode cX4_nearest 2 = .ok (.if_icmp .ge 7, 3) := by decide +kernel
theorem dX4_nearest_5 : decode cX4_nearest 5 = .ok (.iload_n 1, 1) := by decide +kernel
theorem dX4_nearest_6 : decode cX4_nearest 6 = .ok (.goto 13, 3) := by decide +kernel
theorem dX4_nearest_9 : decode cX4_nearest 9 = .ok (.iload_n 0, 1) := by decide +kernel
theorem dX4_nearest_10 : decode cX4_nearest 10 = .ok (.iload_n 2, 1) := by decide +kernel
theorem dX4_nearest_11 : decode cX4_nearest 11 = .ok (.if_icmp .le 7, 3) := by decide +kernel
theorem dX4_nearest_14 : decode cX4_nearest 14 = .ok (.iload_n 2, 1) := by decide +kernel
theorem dX4_nearest_15 : decode cX4_nearest 15 = .ok (.goto 4, 3) := by decide +kernel
theorem dX4_nearest_18 : decode cX4_nearest 18 = .ok (.iload_n 0, 1) := by decide +kernel
theorem dX4_nearest_19 : decode cX4_nearest 19 = .ok (.ireturn, 1) := by decide +kernel
set_option maxRecDepth 20000 in
theorem ggX4_choose_X4_nearest : GoodIn wsX4_choose wsX4_nearest := goodIn_r _ [15] (by decide +kernel) (by decide +kernel)
set_option maxRecDepth 20000 in
theorem gX4_choose_X4_nearest : GoodIn wsX4_choose (va_wsS RX4 168 yX4_nearest wsX4_nearest) := goodIn_app (goodIn_of _ (by decide +kernel)) ggX4_choose_X4_nearest
set_option maxRecDepth 20000 in
theorem ggX4_choose_X4_gap : GoodIn wsX4_choose wsX4_gap := goodIn_r _ [18, 19, 20, 14, 21] (by decide +kernel) (by decide +kernel)
set_option maxRecDepth 20000 in
theorem gX4_choose_X4_gap : GoodIn wsX4_choose (va_wsS RX4 133 yX4_gap wsX4_gap) := goodIn_app (goodIn_of _ (by decide +kernel)) ggX4_choose_X4_gap
set_option maxRecDepth 20000 in
theorem ggX4_choose_X4_greater : GoodIn wsX4_choose wsX4_greater := goodIn_r _ [21] (by decide +kernel) (by decide +kernel)
end
section
set_option maxRecDepth 20000 in
theorem gX4_choose_X4_greater : GoodIn wsX4_choose (va_wsS RX4 129 yX4_greater wsX4_greater) := goodIn_app (goodIn_of _ (by decide +kernel)) ggX4_choose_X4_greater
theorem dX4_choose_0 : decode cX4_choose 0 = .ok (.aload_n 0, 1) := by decide +kernel
theorem dX4_choose_1 : decode cX4_choose 1 = .ok (.getfield 140, 3) := by decide +kernel
theorem dX4_choose_4 : decode cX4_choose 4 = .ok (.iconst 1, 1) := by decide +kernel
theorem dX4_choose_5 : decode cX4_choose 5 = .ok (.isub, 1) := by decide +kernel
theorem dX4_choose_6 : decode cX4_choose 6 = .ok (.istore_n 1, 1) := by decide +kernel
theorem dX4_choose_7 : decode cX4_choose 7 = .ok (.sipush 1024, 3) := by decide +kernel
theorem dX4_choose_10 : decode cX4_choose 10 = .ok (.aload_n 0, 1) := by decide +kernel
theorem dX4_choose_11 : decode cX4_choose 11 = .ok (.getfield 119, 3) := by decide +kernel
theorem dX4_choose_14 : decode cX4_choose 14 = .ok (.aload_n 0, 1) := by decide +kernel
theorem dX4_choose_15 : decode cX4_choose 15 = .ok (.getfield 122, 3) := by decide +kernel
theorem dX4_choose_18 : decode cX4_choose 18 = .ok (.iadd, 1) := by decide +kernel
theorem dX4_choose_19 : decode cX4_choose 19 = .ok (.imul, 1) := by decide +kernel
theorem dX4_choose_20 : decode cX4_choose 20 = .ok (.istore_n 2, 1) := by decide +kernel
theorem dX4_choose_21 : decode cX4_choose 21 = .ok (.sipush 1024, 3) := by decide +kernel
theorem dX4_choose_24 : decode cX4_choose 24 = .ok (.aload_n 0, 1) := by decide +kernel
theorem dX4_choose_25 : decode cX4_choose 25 = .ok (.getfield 119, 3) := by decide +kernel
theorem dX4_choose_28 : decode cX4_choose 28 = .ok (.aload_n 0, 1) := by decide +kernel
theorem dX4_choose_29 : decode cX4_choose 29 = .ok (.getfield 122, 3) := by decide +kernel
theorem dX4_choose_32 : decode cX4_choose 32 = .ok (.isub, 1) := by decide +kernel
theorem dX4_choose_33 : decode cX4_choose 33 = .ok (.imul, 1) := by decide +kernel
theorem dX4_choose_34 : decode cX4_choose 34 = .ok (.istore_n 3, 1) := by decide +kernel
theorem dX4_choose_35 : decode cX4_choose 35 = .ok (.iload_n 1, 1) := by decide +kernel
theorem dX4_choose_36 : decode cX4_choose 36 = .ok (.istore 4, 2) := by decide +kernel
theorem dX4_choose_38 : decode cX4_choose 38 = .ok (.iload 4, 2) := by decide +kernel
theorem dX4_choose_40 : decode cX4_choose 40 = .ok (.ifCond .lt 106, 3) := by decide +kernel
theorem dX4_choose_43 : decode cX4_choose 43 = .ok (.aload_n 0, 1) := by decide +kernel
theorem dX4_choose_44 : decode cX4_choose 44 = .ok (.getfield 41, 3) := by decide +kernel
theorem dX4_choose_47 : decode cX4_choose 47 = .ok (.iload 4, 2) := by decide +kernel
theorem dX4_choose_49 : decode cX4_choose 49 = .ok (.iaload, 1) := by decide +kernel
theorem dX4_choose_50 : decode cX4_choose 50 = .ok (.istore 5, 2) := by decide +kernel
theorem dX4_choose_52 : decode cX4_choose 52 = .ok (.iload 5, 2) := by decide +kernel
theorem dX4_choose_54 : decode cX4_choose 54 = .ok (.ifCond .ge 7, 3) := by decide +kernel
theorem dX4_choose_57 : decode cX4_choose 57 = .ok (.iload_n 2, 1) := by decide +kernel
theorem dX4_choose_58 : decode cX4_choose 58 = .ok (.goto 10, 3) := by decide +kernel
theorem dX4_choose_61 : decode cX4_choose 61 = .ok (.aload_n 0, 1) := by decide +kernel
theorem dX4_choose_62 : decode cX4_choose 62 = .ok (.getfield 62, 3) := by decide +kernel
theorem dX4_choose_65 : decode cX4_choose 65 = .ok (.iload 5, 2) := by decide +kernel
theorem dX4_choose_67 : decode cX4_choose 67 = .ok (.iaload, 1) := by decide +kernel
theorem dX4_choose_68 : decode cX4_choose 68 = .ok (.istore 6, 2) := by decide +kernel
theorem dX4_choose_70 : decode cX4_choose 70 = .ok (.iload 5, 2) := by decide +kernel
theorem dX4_choose_72 : decode cX4_choose 72 = .ok (.ifCond .ge 7, 3) := by decide +kernel
theorem dX4_choose_75 : decode cX4_choose 75 = .ok (.iload_n 3, 1) := by decide +kernel
theorem dX4_choose_76 : decode cX4_choose 76 = .ok (.goto 10, 3) := by decide +kernel
theorem dX4_choose_79 : decode cX4_choose 79 = .ok (.aload_n 0, 1) := by decide +kernel
theorem dX4_choose_80 : decode cX4_choose 80 = .ok (.getfield 65, 3) := by decide +kernel
theorem dX4_choose_83 : decode cX4_choose 83 = .ok (.iload 5, 2) := by decide +kernel
theorem dX4_choose_85 : decode cX4_choose 85 = .ok (.iaload, 1) := by decide +kernel
theorem dX4_choose_86 : decode cX4_choose 86 = .ok (.istore 7, 2) := by decide +kernel
theorem dX4_choose_88 : decode cX4_choose 88 = .ok (.aload_n 0, 1) := by decide +kernel
theorem dX4_choose_89 : decode cX4_choose 89 = .ok (.getfield 62, 3) := by decide +kernel
theorem dX4_choose_92 : decode cX4_choose 92 = .ok (.iload 4, 2) := by decide +kernel
theorem dX4_choose_94 : decode cX4_choose 94 = .ok (.iload 6, 2) := by decide +kernel
theorem dX4_choose_96 : decode cX4_choose 96 = .ok (.aload_n 0, 1) := by decide +kernel
theorem dX4_choose_97 : decode cX4_choose 97 = .ok (.getfield 44, 3) := by decide +kernel
theorem dX4_choose_100 : decode cX4_choose 100 = .ok (.iload 4, 2) := by decide +kernel
theorem dX4_choose_102 : decode cX4_choose 102 = .ok (.iaload, 1) := by decide +kernel
theorem dX4_choose_103 : decode cX4_choose 103 = .ok (.aload_n 0, 1) := by decide +kernel
theorem dX4_choose_104 : decode cX4_choose 104 = .ok (.getfield 47, 3) := by decide +kernel
theorem dX4_choose_107 : decode cX4_choose 107 = .ok (.iload 4, 2) := by decide +kernel
theorem dX4_choose_109 : decode cX4_choose 109 = .ok (.iaload, 1) := by decide +kernel
theorem dX4_choose_110 : decode cX4_choose 110 = .ok (.invokestatic 168, 3) := by decide +kernel
theorem dX4_choose_113 : decode cX4_choose 113 = .ok (.iastore, 1) := by decide +kernel
theorem dX4_choose_114 : decode cX4_choose 114 = .ok (.aload_n 0, 1) := by decide +kernel
theorem dX4_choose_115 : decode cX4_choose 115 = .ok (.getfield 65, 3) := by decide +kernel
theorem dX4_choose_118 : decode cX4_choose 118 = .ok (.iload 4, 2) := by decide +kernel
theorem dX4_choose_120 : decode cX4_choose 120 = .ok (.iload 7, 2) := by decide +kernel
theorem dX4_choose_122 : decode cX4_choose 122 = .ok (.aload_n 0, 1) := by decide +kernel
theorem dX4_choose_123 : decode cX4_choose 123 = .ok (.getfield 50, 3) := by decide +kernel
theorem dX4_choose_126 : decode cX4_choose 126 = .ok (.iload 4, 2) := by decide +kernel
theorem dX4_choose_128 : decode cX4_choose 128 = .ok (.iaload, 1) := by decide +kernel
theorem dX4_choose_129 : decode cX4_choose 129 = .ok (.aload_n 0, 1) := by decide +kernel
theorem dX4_choose_130 : decode cX4_choose 130 = .ok (.getfield 53, 3) := by decide +kernel
theorem dX4_choose_133 : decode cX4_choose 133 = .ok (.iload 4, 2) := by decide +kernel
theorem dX4_choose_135 : decode cX4_choose 135 = .ok (.iaload, 1) := by decide +kernel
theorem dX4_choose_136 : decode cX4_choose 136 = .ok (.invokestatic 168, 3) := by decide +kernel
theorem dX4_choose_139 : decode cX4_choose 139 = .ok (.iastore, 1) := by decide +kernel
theorem dX4_choose_140 : decode cX4_choose 140 = .ok (.iinc 4 (-1), 3) := by decide +kernel
theorem dX4_choose_143 : decode cX4_choose 143 = .ok (.goto (-105), 3) := by decide +kernel
theorem dX4_choose_146 : decode cX4_choose 146 = .ok (.aload_n 0, 1) := by decide +kernel
theorem dX4_choose_147 : decode cX4_choose 147 = .ok (.getfield 59, 3) := by decide +kernel
theorem dX4_choose_150 : decode cX4_choose 150 = .ok (.iload_n 1, 1) := by decide +kernel
theorem dX4_choose_151 : decode cX4_choose 151 = .ok (.aload_n 0, 1) := by decide +kernel
theorem dX4_choose_152 : decode cX4_choose 152 = .ok (.getfield 62, 3) := by decide +kernel
theorem dX4_choose_155 : decode cX4_choose 155 = .ok (.iload_n 1, 1) := by decide +kernel
theorem dX4_choose_156 : decode cX4_choose 156 = .ok (.iaload, 1) := by decide +kernel
theorem dX4_choose_157 : decode cX4_choose 157 = .ok (.aload_n 0, 1) := by decide +kernel
theorem dX4_choose_158 : decode cX4_choose 158 = .ok (.getfield 62, 3) := by decide +kernel
theorem dX4_choose_161 : decode cX4_choose 161 = .ok (.iload_n 1, 1) := by decide +kernel
theorem dX4_choose_162 : decode cX4_choose 162 = .ok (.iaload, 1) := by decide +kernel
theorem dX4_choose_163 : decode cX4_choose 163 = .ok (.iload_n 2, 1) := by decide +kernel
theorem dX4_choose_164 : decode cX4_choose 164 = .ok (.iload_n 2, 1) := by decide +kernel
theorem dX4_choose_165 : decode cX4_choose 165 = .ok (.invokestatic 133, 3) := by decide +kernel
theorem dX4_choose_168 : decode cX4_choose 168 = .ok (.aload_n 0, 1) := by decide +kernel
theorem dX4_choose_169 : decode cX4_choose 169 = .ok (.getfield 65, 3) := by decide +kernel
theorem dX4_choose_172 : decode cX4_choose 172 = .ok (.iload_n 1, 1) := by decide +kernel
theorem dX4_choose_173 : decode cX4_choose 173 = .ok (.iaload, 1) := by decide +kernel
theorem dX4_choose_174 : decode cX4_choose 174 = .ok (.aload_n 0, 1) := by decide +kernel
theorem dX4_choose_175 : decode cX4_choose 175 = .ok (.getfield 65, 3) := by decide +kernel
theorem dX4_choose_178 : decode cX4_choose 178 = .ok (.iload_n 1, 1) := by decide +kernel
theorem dX4_choose_179 : decode cX4_choose 179 = .ok (.iaload, 1) := by decide +kernel
theorem dX4_choose_180 : decode cX4_choose 180 = .ok (.iload_n 3, 1) := by decide +kernel
theorem dX4_choose_181 : decode cX4_choose 181 = .ok (.iload_n 3, 1) := by decide +kernel
theorem dX4_choose_182 : decode cX4_choose 182 = .ok (.invokestatic 133, 3) := by decide +kernel
theorem dX4_choose_185 : decode cX4_choose 185 = .ok (.invokestatic 129, 3) := by decide +kernel
theorem dX4_choose_188 : decode cX4_choose 188 = .ok (.iastore, 1) := by decide +kernel
theorem dX4_choose_189 : decode cX4_choose 189 = .ok (.return_, 1) := by decide +kernel
set_option maxRecDepth 20000 in
theorem ggX4_build_X4_begin : GoodIn wsX4_build wsX4_begin := goodIn_r _ [9, 1, 3, 10, 11, 12, 13, 14, 15, 16, 17, 18, 19, 20, 8, 21, 22, 23, 24, 25, 82, 83, 84, 85, 86, 87, 88, 89, 90, 91, 92, 93, 94, 95, 96, 97, 98, 99, 100, 101, 102, 103, 104, 105, 106, 107, 108, 109, 110, 111, 112, 113, 114, 115, 116, 117, 118] (by decide +kernel) (by decide +kernel)
set_option maxRecDepth 20000 in
theorem gX4_build_X4_begin : GoodIn wsX4_build (wsV RX4 172 RX4 yX4_begin wsX4_begin) := goodIn_app (goodIn_of _ (by decide +kernel)) ggX4_build_X4_begin
set_option maxRecDepth 20000 in
theorem ggX4_build_X4_cutAll : GoodIn wsX4_build wsX4_cutAll := goodIn_r _ [29, 1, 30, 31, 32, 33, 34, 35, 36, 37, 38, 39, 8, 40, 41, 42, 43, 44, 45, 46, 47, 48, 10, 11, 49, 50, 51, 52, 15, 3, 12, 13, 14, 53, 22, 23, 24, 25, 16, 17, 54, 55, 56, 57, 58, 59, 60, 61, 62, 63, 64, 65, 66, 18, 19, 20, 21, 82, 83, 84, 85, 86, 87, 88, 89, 90, 91, 92, 93, 94, 95, 96, 97, 98, 99, 100, 101, 102, 103, 104, 105, 106, 107, 108, 109, 110, 111, 112, 113, 114, 115, 116, 117, 118] (by decide +kernel) (by decide +kernel)
set_option maxRecDepth 20000 in
theorem gX4_build_X4_cutAll : GoodIn wsX4_build (wsV RX4 175 RX4 yX4_cutAll wsX4_cutAll) := goodIn_app (goodIn_of _ (by decide +kernel)) ggX4_build_X4_cutAll
set_option maxRecDepth 20000 in
theorem ggX4_build_X4_joinNearest : GoodIn wsX4_build wsX4_joinNearest := goodIn_r _ [70, 3, 16, 54, 55, 56, 8, 57, 22, 23, 24, 25, 58, 59, 60, 61, 62, 63, 49, 50, 51, 52, 15, 12, 13, 14, 53, 17, 64, 65, 66, 18, 19, 20, 21, 82, 83, 84, 85, 86, 87, 88, 89, 90, 91, 92, 93, 94, 95, 96, 97, 98, 99, 100, 101, 102, 103, 104, 105, 106, 107, 108, 109, 110, 111, 112, 113, 114, 115, 116, 117, 118] (by decide +kernel) (by decide +kernel)
set_option maxRecDepth 20000 in
theorem gX4_build_X4_joinNearest : GoodIn wsX4_build (wsV RX4 178 RX4 yX4_joinNearest wsX4_joinNearest) := goodIn_app (goodIn_of _ (by decide +kernel)) ggX4_build_X4_joinNearest
set_option maxRecDepth 20000 in
theorem ggX4_build_X4_choose : GoodIn wsX4_build wsX4_choose := goodIn_r _ [74, 3, 75, 76, 14, 77, 78, 22, 23, 24, 25, 53, 79, 80, 8, 81, 58, 59, 60, 61, 62, 63, 82, 83, 84, 85, 86, 87, 88, 89, 90, 91, 92, 93, 94, 95, 96, 97, 98, 99, 100, 101, 102, 103, 104, 105, 106, 107, 108, 109, 110, 111, 112, 113, 114, 115, 116, 117, 118] (by decide +kernel) (by decide +kernel)
set_option maxRecDepth 20000 in
theorem gX4_build_X4_choose : GoodIn wsX4_build (wsV RX4 181 RX4 yX4_choose wsX4_choose) := goodIn_app (goodIn_of _ (by decide +kernel)) ggX4_build_X4_choose
theorem dX4_build_0 : decode cX4_build 0 = .ok (.aload_n 0, 1) := by decide +kernel
theorem dX4_build_1 : decode cX4_build 1 = .ok (.iload_n 1, 1) := by decide +kernel
theorem dX4_build_2 : decode cX4_build 2 = .ok (.ifCond .eq 12, 3) := by decide +kernel
theorem dX4_build_5 : decode cX4_build 5 = .ok (.iload_n 1, 1) := by decide +kernel
theorem dX4_build_6 : decode cX4_build 6 = .ok (.iconst 1, 1) := by decide +kernel
theorem dX4_build_7 : decode cX4_build 7 = .ok (.if_icmp .eq 7, 3) := by decide +kernel
theorem dX4_build_10 : decode cX4_build 10 = .ok (.iconst 1, 1) := by decide +kernel
theorem dX4_build_11 : decode cX4_build 11 = .ok (.goto 15, 3) := by decide +kernel
theorem dX4_build_14 : decode cX4_build 14 = .ok (.aload_n 0, 1) := by decide +kernel
theorem dX4_build_15 : decode cX4_build 15 = .ok (.getfield 112, 3) := by decide +kernel
theorem dX4_build_18 : decode cX4_build 18 = .ok (.ifCond .ne 7, 3) := by decide +kernel
theorem dX4_build_21 : decode cX4_build 21 = .ok (.iconst 2, 1) := by decide +kernel
theorem dX4_build_22 : decode cX4_build 22 = .ok (.goto 4, 3) := by decide +kernel
theorem dX4_build_25 : decode cX4_build 25 = .ok (.iconst 0, 1) := by decide +kernel
theorem dX4_build_26 : decode cX4_build 26 = .ok (.putfield 100, 3) := by decide +kernel
theorem dX4_build_29 : decode cX4_build 29 = .ok (.aload_n 0, 1) := by decide +kernel
theorem dX4_build_30 : decode cX4_build 30 = .ok (.getfield 100, 3) := by decide +kernel
theorem dX4_build_33 : decode cX4_build 33 = .ok (.ifCond .le 5, 3) := by decide +kernel
theorem dX4_build_36 : decode cX4_build 36 = .ok (.iconst 0, 1) := by decide +kernel
theorem dX4_build_37 : decode cX4_build 37 = .ok (.ireturn, 1) := by decide +kernel
theorem dX4_build_38 : decode cX4_build 38 = .ok (.aload_n 0, 1) := by decide +kernel
theorem dX4_build_39 : decode cX4_build 39 = .ok (.invokevirtual 172, 3) := by decide +kernel
theorem dX4_build_42 : decode cX4_build 42 = .ok (.iload_n 1, 1) := by decide +kernel
theorem dX4_build_43 : decode cX4_build 43 = .ok (.iconst 1, 1) := by decide +kernel
theorem dX4_build_44 : decode cX4_build 44 = .ok (.if_icmp .ne 10, 3) := by decide +kernel
theorem dX4_build_47 : decode cX4_build 47 = .ok (.aload_n 0, 1) := by decide +kernel
theorem dX4_build_48 : decode cX4_build 48 = .ok (.invokevirtual 175, 3) := by decide +kernel
theorem dX4_build_51 : decode cX4_build 51 = .ok (.goto 25, 3) := by decide +kernel
theorem dX4_build_54 : decode cX4_build 54 = .ok (.aload_n 0, 1) := by decide +kernel
theorem dX4_build_55 : decode cX4_build 55 = .ok (.getfield 140, 3) := by decide +kernel
theorem dX4_build_58 : decode cX4_build 58 = .ok (.iconst 2, 1) := by decide +kernel
theorem dX4_build_59 : decode cX4_build 59 = .ok (.aload_n 0, 1) := by decide +kernel
theorem dX4_build_60 : decode cX4_build 60 = .ok (.getfield 112, 3) := by decide +kernel
theorem dX4_build_63 : decode cX4_build 63 = .ok (.imul, 1) := by decide +kernel
theorem dX4_build_64 : decode cX4_build 64 = .ok (.iconst 1, 1) := by decide +kernel
theorem dX4_build_65 : decode cX4_build 65 = .ok (.isub, 1) := by decide +kernel
theorem dX4_build_66 : decode cX4_build 66 = .ok (.if_icmp .ge 10, 3) := by decide +kernel
theorem dX4_build_69 : decode cX4_build 69 = .ok (.aload_n 0, 1) := by decide +kernel
theorem dX4_build_70 : decode cX4_build 70 = .ok (.invokevirtual 178, 3) := by decide +kernel
theorem dX4_build_73 : decode cX4_build 73 = .ok (.goto (-19), 3) := by decide +kernel
theorem dX4_build_76 : decode cX4_build 76 = .ok (.aload_n 0, 1) := by decide +kernel
theorem dX4_build_77 : decode cX4_build 77 = .ok (.invokevirtual 181, 3) := by decide +kernel
theorem dX4_build_80 : decode cX4_build 80 = .ok (.aload_n 0, 1) := by decide +kernel
theorem dX4_build_81 : decode cX4_build 81 = .ok (.iconst 1, 1) := by decide +kernel
theorem dX4_build_82 : decode cX4_build 82 = .ok (.putfield 115, 3) := by decide +kernel
theorem dX4_build_85 : decode cX4_build 85 = .ok (.aload_n 0, 1) := by decide +kernel
theorem dX4_build_86 : decode cX4_build 86 = .ok (.getfield 140, 3) := by decide +kernel
theorem dX4_build_89 : decode cX4_build 89 = .ok (.ireturn, 1) := by decide +kernel
theorem dX4_isNode_0 : decode cX4_isNode 0 = .ok (.iload_n 1, 1) := by decide +kernel
theorem dX4_isNode_1 : decode cX4_isNode 1 = .ok (.ifCond .lt 15, 3) := by decide +kernel
theorem dX4_isNode_4 : decode cX4_isNode 4 = .ok (.iload_n 1, 1) := by decide +kernel
theorem dX4_isNode_5 : decode cX4_isNode 5 = .ok (.aload_n 0, 1) := by decide +kernel
theorem dX4_isNode_6 : decode cX4_isNode 6 = .ok (.getfield 140, 3) := by decide +kernel
theorem dX4_isNode_9 : decode cX4_isNode 9 = .ok (.if_icmp .ge 7, 3) := by decide +kernel
theorem dX4_isNode_12 : decode cX4_isNode 12 = .ok (.iconst 1, 1) := by decide +kernel
theorem dX4_isNode_13 : decode cX4_isNode 13 = .ok (.goto 4, 3) := by decide +kernel
theorem dX4_isNode_16 : decode cX4_isNode 16 = .ok (.iconst 0, 1) := by decide +kernel
theorem dX4_isNode_17 : decode cX4_isNode 17 = .ok (.ireturn, 1) := by decide +kernel
set_option maxRecDepth 20000 in
theorem ggX4_node_X4_isNode : GoodIn wsX4_node wsX4_isNode := goodIn_r _ [18, 19, 20, 21, 22, 23, 24, 25, 26, 27, 28, 29, 30, 31, 32, 33, 34, 35, 36, 37, 38, 39, 40, 41, 42, 43, 44, 45, 46, 47, 48, 49, 50, 51, 52, 53, 54, 55, 56] (by decide +kernel) (by decide +kernel)
set_option maxRecDepth 20000 in
theorem gX4_node_X4_isNode : GoodIn wsX4_node (wsV RX4 184 RX4 yX4_isNode wsX4_isNode) := goodIn_app (goodIn_of _ (by decide +kernel)) ggX4_node_X4_isNode
theorem dX4_node_0 : decode cX4_node 0 = .ok (.aload_n 0, 1) := by decide +kernel
theorem dX4_node_1 : decode cX4_node 1 = .ok (.aload_n 0, 1) := by decide +kernel
theorem dX4_node_2 : decode cX4_node 2 = .ok (.getfield 115, 3) := by decide +kernel
theorem dX4_node_5 : decode cX4_node 5 = .ok (.ifCond .ne 7, 3) := by decide +kernel
theorem dX4_node_8 : decode cX4_node 8 = .ok (.iconst 1, 1) := by decide +kernel
theorem dX4_node_9 : decode cX4_node 9 = .ok (.goto 26, 3) := by decide +kernel
theorem dX4_node_12 : decode cX4_node 12 = .ok (.aload_n 0, 1) := by decide +kernel
theorem dX4_node_13 : decode cX4_node 13 = .ok (.iload_n 1, 1) := by decide +kernel
theorem dX4_node_14 : decode cX4_node 14 = .ok (.invokevirtual 184, 3) := by decide +kernel
theorem dX4_node_17 : decode cX4_node 17 = .ok (.ifCond .eq 13, 3) := by decide +kernel
theorem dX4_node_20 : decode cX4_node 20 = .ok (.iload_n 2, 1) := by decide +kernel
theorem dX4_node_21 : decode cX4_node 21 = .ok (.ifCond .lt 9, 3) := by decide +kernel
theorem dX4_node_24 : decode cX4_node 24 = .ok (.iload_n 2, 1) := by decide +kernel
theorem dX4_node_25 : decode cX4_node 25 = .ok (.bipush 10, 2) := by decide +kernel
theorem dX4_node_27 : decode cX4_node 27 = .ok (.if_icmp .le 7, 3) := by decide +kernel
theorem dX4_node_30 : decode cX4_node 30 = .ok (.iconst 2, 1) := by decide +kernel
theorem dX4_node_31 : decode cX4_node 31 = .ok (.goto 4, 3) := by decide +kernel
theorem dX4_node_34 : decode cX4_node 34 = .ok (.iconst 0, 1) := by decide +kernel
theorem dX4_node_35 : decode cX4_node 35 = .ok (.putfield 100, 3) := by decide +kernel
theorem dX4_node_38 : decode cX4_node 38 = .ok (.aload_n 0, 1) := by decide +kernel
theorem dX4_node_39 : decode cX4_node 39 = .ok (.getfield 100, 3) := by decide +kernel
theorem dX4_node_42 : decode cX4_node 42 = .ok (.ifCond .le 5, 3) := by decide +kernel
theorem dX4_node_45 : decode cX4_node 45 = .ok (.iconst 0, 1) := by decide +kernel
theorem dX4_node_46 : decode cX4_node 46 = .ok (.ireturn, 1) := by decide +kernel
theorem dX4_node_47 : decode cX4_node 47 = .ok (.iload_n 2, 1) := by decide +kernel
theorem dX4_node_48 : decode cX4_node 48 = .ok (.tableswitch 126 0 9 #[56, 63, 70, 77, 84, 91, 98, 105, 112, 119], 56) := by decide +kernel
theorem dX4_node_104 : decode cX4_node 104 = .ok (.aload_n 0, 1) := by decide +kernel
theorem dX4_node_105 : decode cX4_node 105 = .ok (.getfield 35, 3) := by decide +kernel
theorem dX4_node_108 : decode cX4_node 108 = .ok (.iload_n 1, 1) := by decide +kernel
theorem dX4_node_109 : decode cX4_node 109 = .ok (.iaload, 1) := by decide +kernel
theorem dX4_node_110 : decode cX4_node 110 = .ok (.ireturn, 1) := by decide +kernel
theorem dX4_node_111 : decode cX4_node 111 = .ok (.aload_n 0, 1) := by decide +kernel
theorem dX4_node_112 : decode cX4_node 112 = .ok (.getfield 38, 3) := by decide +kernel
theorem dX4_node_115 : decode cX4_node 115 = .ok (.iload_n 1, 1) := by decide +kernel
theorem dX4_node_116 : decode cX4_node 116 = .ok (.iaload, 1) := by decide +kernel
theorem dX4_node_117 : decode cX4_node 117 = .ok (.ireturn, 1) := by decide +kernel
theorem dX4_node_118 : decode cX4_node 118 = .ok (.aload_n 0, 1) := by decide +kernel
theorem dX4_node_119 : decode cX4_node 119 = .ok (.getfield 41, 3) := by decide +kernel
theorem dX4_node_122 : decode cX4_node 122 = .ok (.iload_n 1, 1) := by decide +kernel
theorem dX4_node_123 : decode cX4_node 123 = .ok (.iaload, 1) := by decide +kernel
theorem dX4_node_124 : decode cX4_node 124 = .ok (.ireturn, 1) := by decide +kernel
theorem dX4_node_125 : decode cX4_node 125 = .ok (.aload_n 0, 1) := by decide +kernel
theorem dX4_node_126 : decode cX4_node 126 = .ok (.getfield 44, 3) := by decide +kernel
theorem dX4_node_129 : decode cX4_node 129 = .ok (.iload_n 1, 1) := by decide +kernel
theorem dX4_node_130 : decode cX4_node 130 = .ok (.iaload, 1) := by decide +kernel
theorem dX4_node_131 : decode cX4_node 131 = .ok (.ireturn, 1) := by decide +kernel
theorem dX4_node_132 : decode cX4_node 132 = .ok (.aload_n 0, 1) := by decide +kernel
theorem dX4_node_133 : decode cX4_node 133 = .ok (.getfield 47, 3) := by decide +kernel
theorem dX4_node_136 : decode cX4_node 136 = .ok (.iload_n 1, 1) := by decide +kernel
theorem dX4_node_137 : decode cX4_node 137 = .ok (.iaload, 1) := by decide +kernel
theorem dX4_node_138 : decode cX4_node 138 = .ok (.ireturn, 1) := by decide +kernel
theorem dX4_node_139 : decode cX4_node 139 = .ok (.aload_n 0, 1) := by decide +kernel
theorem dX4_node_140 : decode cX4_node 140 = .ok (.getfield 50, 3) := by decide +kernel
theorem dX4_node_143 : decode cX4_node 143 = .ok (.iload_n 1, 1) := by decide +kernel
theorem dX4_node_144 : decode cX4_node 144 = .ok (.iaload, 1) := by decide +kernel
theorem dX4_node_145 : decode cX4_node 145 = .ok (.ireturn, 1) := by decide +kernel
theorem dX4_node_146 : decode cX4_node 146 = .ok (.aload_n 0, 1) := by decide +kernel
theorem dX4_node_147 : decode cX4_node 147 = .ok (.getfield 53, 3) := by decide +kernel
theorem dX4_node_150 : decode cX4_node 150 = .ok (.iload_n 1, 1) := by decide +kernel
theorem dX4_node_151 : decode cX4_node 151 = .ok (.iaload, 1) := by decide +kernel
theorem dX4_node_152 : decode cX4_node 152 = .ok (.ireturn, 1) := by decide +kernel
theorem dX4_node_153 : decode cX4_node 153 = .ok (.aload_n 0, 1) := by decide +kernel
theorem dX4_node_154 : decode cX4_node 154 = .ok (.getfield 56, 3) := by decide +kernel
theorem dX4_node_157 : decode cX4_node 157 = .ok (.iload_n 1, 1) := by decide +kernel
theorem dX4_node_158 : decode cX4_node 158 = .ok (.iaload, 1) := by decide +kernel
theorem dX4_node_159 : decode cX4_node 159 = .ok (.ireturn, 1) := by decide +kernel
theorem dX4_node_160 : decode cX4_node 160 = .ok (.aload_n 0, 1) := by decide +kernel
theorem dX4_node_161 : decode cX4_node 161 = .ok (.getfield 59, 3) := by decide +kernel
theorem dX4_node_164 : decode cX4_node 164 = .ok (.iload_n 1, 1) := by decide +kernel
theorem dX4_node_165 : decode cX4_node 165 = .ok (.iaload, 1) := by decide +kernel
theorem dX4_node_166 : decode cX4_node 166 = .ok (.ireturn, 1) := by decide +kernel
theorem dX4_node_167 : decode cX4_node 167 = .ok (.aload_n 0, 1) := by decide +kernel
theorem dX4_node_168 : decode cX4_node 168 = .ok (.getfield 62, 3) := by decide +kernel
theorem dX4_node_171 : decode cX4_node 171 = .ok (.iload_n 1, 1) := by decide +kernel
theorem dX4_node_172 : decode cX4_node 172 = .ok (.iaload, 1) := by decide +kernel
theorem dX4_node_173 : decode cX4_node 173 = .ok (.ireturn, 1) := by decide +kernel
theorem dX4_node_174 : decode cX4_node 174 = .ok (.aload_n 0, 1) := by decide +kernel
theorem dX4_node_175 : decode cX4_node 175 = .ok (.getfield 65, 3) := by decide +kernel
theorem dX4_node_178 : decode cX4_node 178 = .ok (.iload_n 1, 1) := by decide +kernel
theorem dX4_node_179 : decode cX4_node 179 = .ok (.iaload, 1) := by decide +kernel
theorem dX4_node_180 : decode cX4_node 180 = .ok (.ireturn, 1) := by decide +kernel
theorem dX4_length_0 : decode cX4_length 0 = .ok (.aload_n 0, 1) := by decide +kernel
theorem dX4_length_1 : decode cX4_length 1 = .ok (.aload_n 0, 1) := by decide +kernel
theorem dX4_length_2 : decode cX4_length 2 = .ok (.getfield 115, 3) := by decide +kernel
theorem dX4_length_5 : decode cX4_length 5 = .ok (.ifCond .eq 7, 3) := by decide +kernel
theorem dX4_length_8 : decode cX4_length 8 = .ok (.iconst 0, 1) := by decide +kernel
theorem dX4_length_9 : decode cX4_length 9 = .ok (.goto 4, 3) := by decide +kernel
theorem dX4_length_12 : decode cX4_length 12 = .ok (.iconst 1, 1) := by decide +kernel
theorem dX4_length_13 : decode cX4_length 13 = .ok (.putfield 100, 3) := by decide +kernel
theorem dX4_length_16 : decode cX4_length 16 = .ok (.iconst 0, 1) := by decide +kernel
theorem dX4_length_17 : decode cX4_length 17 = .ok (.istore_n 1, 1) := by decide +kernel
theorem dX4_length_18 : decode cX4_length 18 = .ok (.iconst 0, 1) := by decide +kernel
theorem dX4_length_19 : decode cX4_length 19 = .ok (.istore_n 2, 1) := by decide +kernel
theorem dX4_length_20 : decode cX4_length 20 = .ok (.iload_n 2, 1) := by decide +kernel
theorem dX4_length_21 : decode cX4_length 21 = .ok (.aload_n 0, 1) := by decide +kernel
theorem dX4_length_22 : decode cX4_length 22 = .ok (.getfield 140, 3) := by decide +kernel
theorem dX4_length_25 : decode cX4_length 25 = .ok (.if_icmp .ge 25, 3) := by decide +kernel
theorem dX4_length_28 : decode cX4_length 28 = .ok (.aload_n 0, 1) := by decide +kernel
theorem dX4_length_29 : decode cX4_length 29 = .ok (.getfield 115, 3) := by decide +kernel
theorem dX4_length_32 : decode cX4_length 32 = .ok (.ifCond .eq 18, 3) := by decide +kernel
theorem dX4_length_35 : decode cX4_length 35 = .ok (.iload_n 1, 1) := by decide +kernel
theorem dX4_length_36 : decode cX4_length 36 = .ok (.aload_n 0, 1) := by decide +kernel
theorem dX4_length_37 : decode cX4_length 37 = .ok (.getfield 59, 3) := by decide +kernel
theorem dX4_length_40 : decode cX4_length 40 = .ok (.iload_n 2, 1) := by decide +kernel
theorem dX4_length_41 : decode cX4_length 41 = .ok (.iaload, 1) := by decide +kernel
theorem dX4_length_42 : decode cX4_length 42 = .ok (.iadd, 1) := by decide +kernel
theorem dX4_length_43 : decode cX4_length 43 = .ok (.istore_n 1, 1) := by decide +kernel
theorem dX4_length_44 : decode cX4_length 44 = .ok (.iinc 2 1, 3) := by decide +kernel
theorem dX4_length_47 : decode cX4_length 47 = .ok (.goto (-27), 3) := by decide +kernel
theorem dX4_length_50 : decode cX4_length 50 = .ok (.iload_n 1, 1) := by decide +kernel
theorem dX4_length_51 : decode cX4_length 51 = .ok (.ireturn, 1) := by decide +kernel
theorem dX4_depth_0 : decode cX4_depth 0 = .ok (.aload_n 0, 1) := by decide +kernel
theorem dX4_depth_1 : decode cX4_depth 1 = .ok (.aload_n 0, 1) := by decide +kernel
theorem dX4_depth_2 : decode cX4_depth 2 = .ok (.getfield 115, 3) := by decide +kernel
theorem dX4_depth_5 : decode cX4_depth 5 = .ok (.ifCond .ne 7, 3) := by decide +kernel
theorem dX4_depth_8 : decode cX4_depth 8 = .ok (.iconst 1, 1) := by decide +kernel
theorem dX4_depth_9 : decode cX4_depth 9 = .ok (.goto 20, 3) := by decide +kernel
theorem dX4_depth_12 : decode cX4_depth 12 = .ok (.iload_n 1, 1) := by decide +kernel
theorem dX4_depth_13 : decode cX4_depth 13 = .ok (.ifCond .lt 11, 3) := by decide +kernel
theorem dX4_depth_16 : decode cX4_depth 16 = .ok (.iload_n 1, 1) := by decide +kernel
theorem dX4_depth_17 : decode cX4_depth 17 = .ok (.aload_n 0, 1) := by decide +kernel
theorem dX4_depth_18 : decode cX4_depth 18 = .ok (.getfield 112, 3) := by decide +kernel
theorem dX4_depth_21 : decode cX4_depth 21 = .ok (.if_icmp .lt 7, 3) := by decide +kernel
theorem dX4_depth_24 : decode cX4_depth 24 = .ok (.iconst 2, 1) := by decide +kernel
theorem dX4_depth_25 : decode cX4_depth 25 = .ok (.goto 4, 3) := by decide +kernel
theorem dX4_depth_28 : decode cX4_depth 28 = .ok (.iconst 0, 1) := by decide +kernel
theorem dX4_depth_29 : decode cX4_depth 29 = .ok (.putfield 100, 3) := by decide +kernel
theorem dX4_depth_32 : decode cX4_depth 32 = .ok (.aload_n 0, 1) := by decide +kernel
theorem dX4_depth_33 : decode cX4_depth 33 = .ok (.getfield 100, 3) := by decide +kernel
theorem dX4_depth_36 : decode cX4_depth 36 = .ok (.ifCond .le 5, 3) := by decide +kernel
theorem dX4_depth_39 : decode cX4_depth 39 = .ok (.iconst 0, 1) := by decide +kernel
theorem dX4_depth_40 : decode cX4_depth 40 = .ok (.ireturn, 1) := by decide +kernel
theorem dX4_depth_41 : decode cX4_depth 41 = .ok (.iconst 0, 1) := by decide +kernel
theorem dX4_depth_42 : decode cX4_depth 42 = .ok (.istore_n 2, 1) := by decide +kernel
theorem dX4_depth_43 : decode cX4_depth 43 = .ok (.aload_n 0, 1) := by decide +kernel
theorem dX4_depth_44 : decode cX4_depth 44 = .ok (.getfield 41, 3) := by decide +kernel
theorem dX4_depth_47 : decode cX4_depth 47 = .ok (.iload_n 1, 1) := by decide +kernel
theorem dX4_depth_48 : decode cX4_depth 48 = .ok (.iaload, 1) := by decide +kernel
theorem dX4_depth_49 : decode cX4_depth 49 = .ok (.istore_n 3, 1) := by decide +kernel
theorem dX4_depth_50 : decode cX4_depth 50 = .ok (.iload_n 3, 1) := by decide +kernel
theorem dX4_depth_51 : decode cX4_depth 51 = .ok (.ifCond .lt 16, 3) := by decide +kernel
theorem dX4_depth_54 : decode cX4_depth 54 = .ok (.iinc 2 1, 3) := by decide +kernel
theorem dX4_depth_57 : decode cX4_depth 57 = .ok (.aload_n 0, 1) := by decide +kernel
theorem dX4_depth_58 : decode cX4_depth 58 = .ok (.getfield 41, 3) := by decide +kernel
theorem dX4_depth_61 : decode cX4_depth 61 = .ok (.iload_n 3, 1) := by decide +kernel
theorem dX4_depth_62 : decode cX4_depth 62 = .ok (.iaload, 1) := by decide +kernel
theorem dX4_depth_63 : decode cX4_depth 63 = .ok (.istore_n 3, 1) := by decide +kernel
theorem dX4_depth_64 : decode cX4_depth 64 = .ok (.goto (-14), 3) := by decide +kernel
theorem dX4_depth_67 : decode cX4_depth 67 = .ok (.iload_n 2, 1) := by decide +kernel
theorem dX4_depth_68 : decode cX4_depth 68 = .ok (.ireturn, 1) := by decide +kernel
theorem dX4_set_0 : decode cX4_set 0 = .ok (.aload_n 0, 1) := by decide +kernel
theorem dX4_set_1 : decode cX4_set 1 = .ok (.aload_n 0, 1) := by decide +kernel
theorem dX4_set_2 : decode cX4_set 2 = .ok (.getfield 115, 3) := by decide +kernel
theorem dX4_set_5 : decode cX4_set 5 = .ok (.ifCond .ne 7, 3) := by decide +kernel
theorem dX4_set_8 : decode cX4_set 8 = .ok (.iconst 1, 1) := by decide +kernel
theorem dX4_set_9 : decode cX4_set 9 = .ok (.goto 24, 3) := by decide +kernel
theorem dX4_set_12 : decode cX4_set 12 = .ok (.iload_n 1, 1) := by decide +kernel
theorem dX4_set_13 : decode cX4_set 13 = .ok (.aload_n 0, 1) := by decide +kernel
theorem dX4_set_14 : decode cX4_set 14 = .ok (.getfield 112, 3) := by decide +kernel
theorem dX4_set_17 : decode cX4_set 17 = .ok (.if_icmp .lt 11, 3) := by decide +kernel
theorem dX4_set_20 : decode cX4_set 20 = .ok (.iload_n 1, 1) := by decide +kernel
theorem dX4_set_21 : decode cX4_set 21 = .ok (.aload_n 0, 1) := by decide +kernel
theorem dX4_set_22 : decode cX4_set 22 = .ok (.getfield 140, 3) := by decide +kernel
theorem dX4_set_25 : decode cX4_set 25 = .ok (.if_icmp .lt 7, 3) := by decide +kernel
theorem dX4_set_28 : decode cX4_set 28 = .ok (.iconst 2, 1) := by decide +kernel
theorem dX4_set_29 : decode cX4_set 29 = .ok (.goto 4, 3) := by decide +kernel
theorem dX4_set_32 : decode cX4_set 32 = .ok (.iconst 0, 1) := by decide +kernel
theorem dX4_set_33 : decode cX4_set 33 = .ok (.putfield 100, 3) := by decide +kernel
theorem dX4_set_36 : decode cX4_set 36 = .ok (.aload_n 0, 1) := by decide +kernel
theorem dX4_set_37 : decode cX4_set 37 = .ok (.getfield 100, 3) := by decide +kernel
theorem dX4_set_40 : decode cX4_set 40 = .ok (.ifCond .gt 13, 3) := by decide +kernel
theorem dX4_set_43 : decode cX4_set 43 = .ok (.aload_n 0, 1) := by decide +kernel
theorem dX4_set_44 : decode cX4_set 44 = .ok (.getfield 68, 3) := by decide +kernel
theorem dX4_set_47 : decode cX4_set 47 = .ok (.iload_n 1, 1) := by decide +kernel
theorem dX4_set_48 : decode cX4_set 48 = .ok (.baload, 1) := by decide +kernel
theorem dX4_set_49 : decode cX4_set 49 = .ok (.iload_n 2, 1) := by decide +kernel
theorem dX4_set_50 : decode cX4_set 50 = .ok (.if_icmp .ne 5, 3) := by decide +kernel
theorem dX4_set_53 : decode cX4_set 53 = .ok (.iconst 0, 1) := by decide +kernel
theorem dX4_set_54 : decode cX4_set 54 = .ok (.ireturn, 1) := by decide +kernel
theorem dX4_set_55 : decode cX4_set 55 = .ok (.aload_n 0, 1) := by decide +kernel
theorem dX4_set_56 : decode cX4_set 56 = .ok (.getfield 68, 3) := by decide +kernel
theorem dX4_set_59 : decode cX4_set 59 = .ok (.iload_n 1, 1) := by decide +kernel
theorem dX4_set_60 : decode cX4_set 60 = .ok (.iload_n 2, 1) := by decide +kernel
theorem dX4_set_61 : decode cX4_set 61 = .ok (.bastore, 1) := by decide +kernel
theorem dX4_set_62 : decode cX4_set 62 = .ok (.iconst 1, 1) := by decide +kernel
theorem dX4_set_63 : decode cX4_set 63 = .ok (.ireturn, 1) := by decide +kernel
theorem dX4_number_0 : decode cX4_number 0 = .ok (.iconst 0, 1) := by decide +kernel
theorem dX4_number_1 : decode cX4_number 1 = .ok (.istore_n 1, 1) := by decide +kernel
theorem dX4_number_2 : decode cX4_number 2 = .ok (.aload_n 0, 1) := by decide +kernel
theorem dX4_number_3 : decode cX4_number 3 = .ok (.getfield 112, 3) := by decide +kernel
theorem dX4_number_6 : decode cX4_number 6 = .ok (.istore_n 2, 1) := by decide +kernel
theorem dX4_number_7 : decode cX4_number 7 = .ok (.iload_n 2, 1) := by decide +kernel
theorem dX4_number_8 : decode cX4_number 8 = .ok (.aload_n 0, 1) := by decide +kernel
theorem dX4_number_9 : decode cX4_number 9 = .ok (.getfield 140, 3) := by decide +kernel
theorem dX4_number_12 : decode cX4_number 12 = .ok (.if_icmp .ge 33, 3) := by decide +kernel
theorem dX4_number_15 : decode cX4_number 15 = .ok (.aload_n 0, 1) := by decide +kernel
theorem dX4_number_16 : decode cX4_number 16 = .ok (.getfield 68, 3) := by decide +kernel
theorem dX4_number_19 : decode cX4_number 19 = .ok (.iload_n 2, 1) := by decide +kernel
theorem dX4_number_20 : decode cX4_number 20 = .ok (.baload, 1) := by decide +kernel
theorem dX4_number_21 : decode cX4_number 21 = .ok (.ifCond .eq 16, 3) := by decide +kernel
theorem dX4_number_24 : decode cX4_number 24 = .ok (.iload_n 1, 1) := by decide +kernel
theorem dX4_number_25 : decode cX4_number 25 = .ok (.iconst 1, 1) := by decide +kernel
theorem dX4_number_26 : decode cX4_number 26 = .ok (.iload_n 2, 1) := by decide +kernel
theorem dX4_number_27 : decode cX4_number 27 = .ok (.aload_n 0, 1) := by decide +kernel
theorem dX4_number_28 : decode cX4_number 28 = .ok (.getfield 112, 3) := by decide +kernel
theorem dX4_number_31 : decode cX4_number 31 = .ok (.isub, 1) := by decide +kernel
theorem dX4_number_32 : decode cX4_number 32 = .ok (.ishl, 1) := by decide +kernel
theorem dX4_number_33 : decode cX4_number 33 = .ok (.ior, 1) := by decide +kernel
theorem dX4_number_34 : decode cX4_number 34 = .ok (.goto 4, 3) := by decide +kernel
theorem dX4_number_37 : decode cX4_number 37 = .ok (.iload_n 1, 1) := by decide +kernel
theorem dX4_number_38 : decode cX4_number 38 = .ok (.istore_n 1, 1) := by decide +kernel
theorem dX4_number_39 : decode cX4_number 39 = .ok (.iinc 2 1, 3) := by decide +kernel
theorem dX4_number_42 : decode cX4_number 42 = .ok (.goto (-35), 3) := by decide +kernel
theorem dX4_number_45 : decode cX4_number 45 = .ok (.iload_n 1, 1) := by decide +kernel
theorem dX4_number_46 : decode cX4_number 46 = .ok (.ireturn, 1) := by decide +kernel
set_option maxRecDepth 20000 in
theorem ggX4_setting_X4_number : GoodIn wsX4_setting wsX4_number := goodIn_r _ [7, 8, 9, 10, 11, 12, 13, 14, 15, 16, 17, 18, 19, 20, 21, 22, 23, 24, 25, 26, 27, 28, 29, 30, 31, 32, 33, 34, 35, 36, 37, 38, 39, 40, 41, 42, 43, 44, 45, 46, 47] (by decide +kernel) (by decide +kernel)
set_option maxRecDepth 20000 in
theorem gX4_setting_X4_number : GoodIn wsX4_setting (wsV RX4 187 RX4 yX4_number wsX4_number) := goodIn_app (goodIn_of _ (by decide +kernel)) ggX4_setting_X4_number
theorem dX4_setting_0 : decode cX4_setting 0 = .ok (.aload_n 0, 1) := by decide +kernel
theorem dX4_setting_1 : decode cX4_setting 1 = .ok (.aload_n 0, 1) := by decide +kernel
theorem dX4_setting_2 : decode cX4_setting 2 = .ok (.getfield 115, 3) := by decide +kernel
theorem dX4_setting_5 : decode cX4_setting 5 = .ok (.ifCond .eq 7, 3) := by decide +kernel
theorem dX4_setting_8 : decode cX4_setting 8 = .ok (.iconst 0, 1) := by decide +kernel
theorem dX4_setting_9 : decode cX4_setting 9 = .ok (.goto 4, 3) := by decide +kernel
theorem dX4_setting_12 : decode cX4_setting 12 = .ok (.iconst 1, 1) := by decide +kernel
theorem dX4_setting_13 : decode cX4_setting 13 = .ok (.putfield 100, 3) := by decide +kernel
theorem dX4_setting_16 : decode cX4_setting 16 = .ok (.aload_n 0, 1) := by decide +kernel
theorem dX4_setting_17 : decode cX4_setting 17 = .ok (.getfield 115, 3) := by decide +kernel
theorem dX4_setting_20 : decode cX4_setting 20 = .ok (.ifCond .eq 10, 3) := by decide +kernel
theorem dX4_setting_23 : decode cX4_setting 23 = .ok (.aload_n 0, 1) := by decide +kernel
theorem dX4_setting_24 : decode cX4_setting 24 = .ok (.invokevirtual 187, 3) := by decide +kernel
theorem dX4_setting_27 : decode cX4_setting 27 = .ok (.goto 4, 3) := by decide +kernel
theorem dX4_setting_30 : decode cX4_setting 30 = .ok (.iconst 0, 1) := by decide +kernel
theorem dX4_setting_31 : decode cX4_setting 31 = .ok (.ireturn, 1) := by decide +kernel
theorem dX4_weigh_0 : decode cX4_weigh 0 = .ok (.iconst 0, 1) := by decide +kernel
theorem dX4_weigh_1 : decode cX4_weigh 1 = .ok (.istore_n 2, 1) := by decide +kernel
theorem dX4_weigh_2 : decode cX4_weigh 2 = .ok (.iload_n 2, 1) := by decide +kernel
theorem dX4_weigh_3 : decode cX4_weigh 3 = .ok (.aload_n 0, 1) := by decide +kernel
theorem dX4_weigh_4 : decode cX4_weigh 4 = .ok (.getfield 140, 3) := by decide +kernel
theorem dX4_weigh_7 : decode cX4_weigh 7 = .ok (.if_icmp .ge 153, 3) := by decide +kernel
theorem dX4_weigh_10 : decode cX4_weigh 10 = .ok (.aload_n 0, 1) := by decide +kernel
theorem dX4_weigh_11 : decode cX4_weigh 11 = .ok (.getfield 35, 3) := by decide +kernel
theorem dX4_weigh_14 : decode cX4_weigh 14 = .ok (.iload_n 2, 1) := by decide +kernel
theorem dX4_weigh_15 : decode cX4_weigh 15 = .ok (.iaload, 1) := by decide +kernel
theorem dX4_weigh_16 : decode cX4_weigh 16 = .ok (.istore_n 3, 1) := by decide +kernel
theorem dX4_weigh_17 : decode cX4_weigh 17 = .ok (.aload_n 0, 1) := by decide +kernel
theorem dX4_weigh_18 : decode cX4_weigh 18 = .ok (.getfield 38, 3) := by decide +kernel
theorem dX4_weigh_21 : decode cX4_weigh 21 = .ok (.iload_n 2, 1) := by decide +kernel
theorem dX4_weigh_22 : decode cX4_weigh 22 = .ok (.iaload, 1) := by decide +kernel
theorem dX4_weigh_23 : decode cX4_weigh 23 = .ok (.istore 4, 2) := by decide +kernel
theorem dX4_weigh_25 : decode cX4_weigh 25 = .ok (.aload_n 0, 1) := by decide +kernel
theorem dX4_weigh_26 : decode cX4_weigh 26 = .ok (.getfield 93, 3) := by decide +kernel
theorem dX4_weigh_29 : decode cX4_weigh 29 = .ok (.iload_n 2, 1) := by decide +kernel
theorem dX4_weigh_30 : decode cX4_weigh 30 = .ok (.iload_n 2, 1) := by decide +kernel
theorem dX4_weigh_31 : decode cX4_weigh 31 = .ok (.aload_n 0, 1) := by decide +kernel
theorem dX4_weigh_32 : decode cX4_weigh 32 = .ok (.getfield 112, 3) := by decide +kernel
theorem dX4_weigh_35 : decode cX4_weigh 35 = .ok (.if_icmp .ge 17, 3) := by decide +kernel
theorem dX4_weigh_38 : decode cX4_weigh 38 = .ok (.ldc2_w 191, 3) := by decide +kernel
theorem dX4_weigh_41 : decode cX4_weigh 41 = .ok (.aload_n 0, 1) := by decide +kernel
theorem dX4_weigh_42 : decode cX4_weigh 42 = .ok (.getfield 16, 3) := by decide +kernel
theorem dX4_weigh_45 : decode cX4_weigh 45 = .ok (.iload_n 2, 1) := by decide +kernel
theorem dX4_weigh_46 : decode cX4_weigh 46 = .ok (.iaload, 1) := by decide +kernel
theorem dX4_weigh_47 : decode cX4_weigh 47 = .ok (.i2l, 1) := by decide +kernel
theorem dX4_weigh_48 : decode cX4_weigh 48 = .ok (.lmul, 1) := by decide +kernel
theorem dX4_weigh_49 : decode cX4_weigh 49 = .ok (.goto 46, 3) := by decide +kernel
theorem dX4_weigh_52 : decode cX4_weigh 52 = .ok (.aload_n 0, 1) := by decide +kernel
theorem dX4_weigh_53 : decode cX4_weigh 53 = .ok (.getfield 97, 3) := by decide +kernel
theorem dX4_weigh_56 : decode cX4_weigh 56 = .ok (.iload_n 3, 1) := by decide +kernel
theorem dX4_weigh_57 : decode cX4_weigh 57 = .ok (.laload, 1) := by decide +kernel
theorem dX4_weigh_58 : decode cX4_weigh 58 = .ok (.aload_n 0, 1) := by decide +kernel
theorem dX4_weigh_59 : decode cX4_weigh 59 = .ok (.getfield 26, 3) := by decide +kernel
theorem dX4_weigh_62 : decode cX4_weigh 62 = .ok (.i2l, 1) := by decide +kernel
theorem dX4_weigh_63 : decode cX4_weigh 63 = .ok (.aload_n 0, 1) := by decide +kernel
theorem dX4_weigh_64 : decode cX4_weigh 64 = .ok (.getfield 59, 3) := by decide +kernel
theorem dX4_weigh_67 : decode cX4_weigh 67 = .ok (.iload_n 3, 1) := by decide +kernel
theorem dX4_weigh_68 : decode cX4_weigh 68 = .ok (.iaload, 1) := by decide +kernel
theorem dX4_weigh_69 : decode cX4_weigh 69 = .ok (.i2l, 1) := by decide +kernel
theorem dX4_weigh_70 : decode cX4_weigh 70 = .ok (.lmul, 1) := by decide +kernel
theorem dX4_weigh_71 : decode cX4_weigh 71 = .ok (.ladd, 1) := by decide +kernel
theorem dX4_weigh_72 : decode cX4_weigh 72 = .ok (.aload_n 0, 1) := by decide +kernel
theorem dX4_weigh_73 : decode cX4_weigh 73 = .ok (.getfield 97, 3) := by decide +kernel
theorem dX4_weigh_76 : decode cX4_weigh 76 = .ok (.iload 4, 2) := by decide +kernel
theorem dX4_weigh_78 : decode cX4_weigh 78 = .ok (.laload, 1) := by decide +kernel
theorem dX4_weigh_79 : decode cX4_weigh 79 = .ok (.ladd, 1) := by decide +kernel
theorem dX4_weigh_80 : decode cX4_weigh 80 = .ok (.aload_n 0, 1) := by decide +kernel
theorem dX4_weigh_81 : decode cX4_weigh 81 = .ok (.getfield 26, 3) := by decide +kernel
theorem dX4_weigh_84 : decode cX4_weigh 84 = .ok (.i2l, 1) := by decide +kernel
theorem dX4_weigh_85 : decode cX4_weigh 85 = .ok (.aload_n 0, 1) := by decide +kernel
theorem dX4_weigh_86 : decode cX4_weigh 86 = .ok (.getfield 59, 3) := by decide +kernel
theorem dX4_weigh_89 : decode cX4_weigh 89 = .ok (.iload 4, 2) := by decide +kernel
theorem dX4_weigh_91 : decode cX4_weigh 91 = .ok (.iaload, 1) := by decide +kernel
theorem dX4_weigh_92 : decode cX4_weigh 92 = .ok (.i2l, 1) := by decide +kernel
theorem dX4_weigh_93 : decode cX4_weigh 93 = .ok (.lmul, 1) := by decide +kernel
theorem dX4_weigh_94 : decode cX4_weigh 94 = .ok (.ladd, 1) := by decide +kernel
theorem dX4_weigh_95 : decode cX4_weigh 95 = .ok (.lastore, 1) := by decide +kernel
theorem dX4_weigh_96 : decode cX4_weigh 96 = .ok (.iload_n 2, 1) := by decide +kernel
theorem dX4_weigh_97 : decode cX4_weigh 97 = .ok (.aload_n 0, 1) := by decide +kernel
theorem dX4_weigh_98 : decode cX4_weigh 98 = .ok (.getfield 112, 3) := by decide +kernel
theorem dX4_weigh_101 : decode cX4_weigh 101 = .ok (.if_icmp .lt 21, 3) := by decide +kernel
theorem dX4_weigh_104 : decode cX4_weigh 104 = .ok (.iload_n 1, 1) := by decide +kernel
theorem dX4_weigh_105 : decode cX4_weigh 105 = .ok (.iload_n 2, 1) := by decide +kernel
theorem dX4_weigh_106 : decode cX4_weigh 106 = .ok (.aload_n 0, 1) := by decide +kernel
theorem dX4_weigh_107 : decode cX4_weigh 107 = .ok (.getfield 112, 3) := by decide +kernel
theorem dX4_weigh_110 : decode cX4_weigh 110 = .ok (.isub, 1) := by decide +kernel
theorem dX4_weigh_111 : decode cX4_weigh 111 = .ok (.ishr, 1) := by decide +kernel
theorem dX4_weigh_112 : decode cX4_weigh 112 = .ok (.iconst 1, 1) := by decide +kernel
theorem dX4_weigh_113 : decode cX4_weigh 113 = .ok (.iand, 1) := by decide +kernel
theorem dX4_weigh_114 : decode cX4_weigh 114 = .ok (.iconst 1, 1) := by decide +kernel
theorem dX4_weigh_115 : decode cX4_weigh 115 = .ok (.if_icmp .ne 7, 3) := by decide +kernel
theorem dX4_weigh_118 : decode cX4_weigh 118 = .ok (.iconst 1, 1) := by decide +kernel
theorem dX4_weigh_119 : decode cX4_weigh 119 = .ok (.goto 4, 3) := by decide +kernel
theorem dX4_weigh_122 : decode cX4_weigh 122 = .ok (.iconst 0, 1) := by decide +kernel
theorem dX4_weigh_123 : decode cX4_weigh 123 = .ok (.istore 5, 2) := by decide +kernel
theorem dX4_weigh_125 : decode cX4_weigh 125 = .ok (.aload_n 0, 1) := by decide +kernel
theorem dX4_weigh_126 : decode cX4_weigh 126 = .ok (.getfield 97, 3) := by decide +kernel
theorem dX4_weigh_129 : decode cX4_weigh 129 = .ok (.iload_n 2, 1) := by decide +kernel
theorem dX4_weigh_130 : decode cX4_weigh 130 = .ok (.iload 5, 2) := by decide +kernel
theorem dX4_weigh_132 : decode cX4_weigh 132 = .ok (.ifCond .eq 15, 3) := by decide +kernel
theorem dX4_weigh_135 : decode cX4_weigh 135 = .ok (.ldc2_w 191, 3) := by decide +kernel
theorem dX4_weigh_138 : decode cX4_weigh 138 = .ok (.aload_n 0, 1) := by decide +kernel
theorem dX4_weigh_139 : decode cX4_weigh 139 = .ok (.getfield 29, 3) := by decide +kernel
theorem dX4_weigh_142 : decode cX4_weigh 142 = .ok (.i2l, 1) := by decide +kernel
theorem dX4_weigh_143 : decode cX4_weigh 143 = .ok (.lmul, 1) := by decide +kernel
theorem dX4_weigh_144 : decode cX4_weigh 144 = .ok (.goto 9, 3) := by decide +kernel
theorem dX4_weigh_147 : decode cX4_weigh 147 = .ok (.aload_n 0, 1) := by decide +kernel
theorem dX4_weigh_148 : decode cX4_weigh 148 = .ok (.getfield 93, 3) := by decide +kernel
theorem dX4_weigh_151 : decode cX4_weigh 151 = .ok (.iload_n 2, 1) := by decide +kernel
theorem dX4_weigh_152 : decode cX4_weigh 152 = .ok (.laload, 1) := by decide +kernel
theorem dX4_weigh_153 : decode cX4_weigh 153 = .ok (.lastore, 1) := by decide +kernel
theorem dX4_weigh_154 : decode cX4_weigh 154 = .ok (.iinc 2 1, 3) := by decide +kernel
theorem dX4_weigh_157 : decode cX4_weigh 157 = .ok (.goto (-155), 3) := by decide +kernel
theorem dX4_weigh_160 : decode cX4_weigh 160 = .ok (.return_, 1) := by decide +kernel
set_option maxRecDepth 20000 in
theorem ggX4_load_X4_isNode : GoodIn wsX4_load wsX4_isNode := goodIn_r _ [9, 10, 28, 29, 30, 31, 32, 33, 34, 35, 36, 37, 38, 39, 40, 41, 42, 43, 44, 45, 46, 47, 48, 49, 50, 51, 52, 53, 54, 55, 56, 57, 58, 59, 60, 61, 62, 63, 64] (by decide +kernel) (by decide +kernel)
set_option maxRecDepth 20000 in
theorem gX4_load_X4_isNode : GoodIn wsX4_load (wsV RX4 184 RX4 yX4_isNode wsX4_isNode) := goodIn_app (goodIn_of _ (by decide +kernel)) ggX4_load_X4_isNode
set_option maxRecDepth 20000 in
theorem ggX4_load_X4_number : GoodIn wsX4_load wsX4_number := goodIn_r _ [14, 15, 10, 16, 28, 29, 30, 31, 32, 33, 34, 35, 36, 37, 38, 39, 40, 41, 42, 43, 44, 45, 46, 47, 48, 49, 50, 51, 52, 53, 54, 55, 56, 57, 58, 59, 60, 61, 62, 63, 64] (by decide +kernel) (by decide +kernel)
set_option maxRecDepth 20000 in
theorem gX4_load_X4_number : GoodIn wsX4_load (wsV RX4 187 RX4 yX4_number wsX4_number) := goodIn_app (goodIn_of _ (by decide +kernel)) ggX4_load_X4_number
set_option maxRecDepth 20000 in
theorem ggX4_load_X4_weigh : GoodIn wsX4_load wsX4_weigh := goodIn_r _ [20, 10, 21, 22, 4, 15, 23, 24, 3, 25, 26, 27, 28, 29, 30, 31, 32, 33, 34, 35, 36, 37, 38, 39, 40, 41, 42, 43, 44, 45, 46, 47, 48, 49, 50, 51, 52, 53, 54, 55, 56, 57, 58, 59, 60, 61, 62, 63, 64] (by decide +kernel) (by decide +kernel)
set_option maxRecDepth 20000 in
theorem gX4_load_X4_weigh : GoodIn wsX4_load (wsV RX4 193 RX4 yX4_weigh wsX4_weigh) := goodIn_app (goodIn_of _ (by decide +kernel)) ggX4_load_X4_weigh
theorem dX4_load_0 : decode cX4_load 0 = .ok (.aload_n 0, 1) := by decide +kernel
theorem dX4_load_1 : decode cX4_load 1 = .ok (.aload_n 0, 1) := by decide +kernel
theorem dX4_load_2 : decode cX4_load 2 = .ok (.getfield 115, 3) := by decide +kernel
theorem dX4_load_5 : decode cX4_load 5 = .ok (.ifCond .ne 7, 3) := by decide +kernel
theorem dX4_load_8 : decode cX4_load 8 = .ok (.iconst 1, 1) := by decide +kernel
theorem dX4_load_9 : decode cX4_load 9 = .ok (.goto 16, 3) := by decide +kernel
theorem dX4_load_12 : decode cX4_load 12 = .ok (.aload_n 0, 1) := by decide +kernel
theorem dX4_load_13 : decode cX4_load 13 = .ok (.iload_n 1, 1) := by decide +kernel
theorem dX4_load_14 : decode cX4_load 14 = .ok (.invokevirtual 184, 3) := by decide +kernel
theorem dX4_load_17 : decode cX4_load 17 = .ok (.ifCond .ne 7, 3) := by decide +kernel
theorem dX4_load_20 : decode cX4_load 20 = .ok (.iconst 2, 1) := by decide +kernel
theorem dX4_load_21 : decode cX4_load 21 = .ok (.goto 4, 3) := by decide +kernel
theorem dX4_load_24 : decode cX4_load 24 = .ok (.iconst 0, 1) := by decide +kernel
theorem dX4_load_25 : decode cX4_load 25 = .ok (.putfield 100, 3) := by decide +kernel
theorem dX4_load_28 : decode cX4_load 28 = .ok (.aload_n 0, 1) := by decide +kernel
theorem dX4_load_29 : decode cX4_load 29 = .ok (.getfield 100, 3) := by decide +kernel
theorem dX4_load_32 : decode cX4_load 32 = .ok (.ifCond .le 5, 3) := by decide +kernel
theorem dX4_load_35 : decode cX4_load 35 = .ok (.lconst 0, 1) := by decide +kernel
theorem dX4_load_36 : decode cX4_load 36 = .ok (.lreturn, 1) := by decide +kernel
theorem dX4_load_37 : decode cX4_load 37 = .ok (.aload_n 0, 1) := by decide +kernel
theorem dX4_load_38 : decode cX4_load 38 = .ok (.aload_n 0, 1) := by decide +kernel
theorem dX4_load_39 : decode cX4_load 39 = .ok (.invokevirtual 187, 3) := by decide +kernel
theorem dX4_load_42 : decode cX4_load 42 = .ok (.invokevirtual 193, 3) := by decide +kernel
theorem dX4_load_45 : decode cX4_load 45 = .ok (.iload_n 2, 1) := by decide +kernel
theorem dX4_load_46 : decode cX4_load 46 = .ok (.ifCond .eq 12, 3) := by decide +kernel
theorem dX4_load_49 : decode cX4_load 49 = .ok (.aload_n 0, 1) := by decide +kernel
theorem dX4_load_50 : decode cX4_load 50 = .ok (.getfield 97, 3) := by decide +kernel
theorem dX4_load_53 : decode cX4_load 53 = .ok (.iload_n 1, 1) := by decide +kernel
theorem dX4_load_54 : decode cX4_load 54 = .ok (.laload, 1) := by decide +kernel
theorem dX4_load_55 : decode cX4_load 55 = .ok (.goto 9, 3) := by decide +kernel
theorem dX4_load_58 : decode cX4_load 58 = .ok (.aload_n 0, 1) := by decide +kernel
theorem dX4_load_59 : decode cX4_load 59 = .ok (.getfield 93, 3) := by decide +kernel
theorem dX4_load_62 : decode cX4_load 62 = .ok (.iload_n 1, 1) := by decide +kernel
theorem dX4_load_63 : decode cX4_load 63 = .ok (.laload, 1) := by decide +kernel
theorem dX4_load_64 : decode cX4_load 64 = .ok (.lreturn, 1) := by decide +kernel
theorem dX4_delayOf_0 : decode cX4_delayOf 0 = .ok (.lconst 0, 1) := by decide +kernel
theorem dX4_delayOf_1 : decode cX4_delayOf 1 = .ok (.lstore_n 3, 1) := by decide +kernel
theorem dX4_delayOf_2 : decode cX4_delayOf 2 = .ok (.iload_n 1, 1) := by decide +kernel
theorem dX4_delayOf_3 : decode cX4_delayOf 3 = .ok (.istore 5, 2) := by decide +kernel
theorem dX4_delayOf_5 : decode cX4_delayOf 5 = .ok (.iload 5, 2) := by decide +kernel
theorem dX4_delayOf_7 : decode cX4_delayOf 7 = .ok (.ifCond .lt 123, 3) := by decide +kernel
theorem dX4_delayOf_10 : decode cX4_delayOf 10 = .ok (.aload_n 0, 1) := by decide +kernel
theorem dX4_delayOf_11 : decode cX4_delayOf 11 = .ok (.getfield 59, 3) := by decide +kernel
theorem dX4_delayOf_14 : decode cX4_delayOf 14 = .ok (.iload 5, 2) := by decide +kernel
theorem dX4_delayOf_16 : decode cX4_delayOf 16 = .ok (.iaload, 1) := by decide +kernel
theorem dX4_delayOf_17 : decode cX4_delayOf 17 = .ok (.i2l, 1) := by decide +kernel
theorem dX4_delayOf_18 : decode cX4_delayOf 18 = .ok (.lstore 6, 2) := by decide +kernel
theorem dX4_delayOf_20 : decode cX4_delayOf 20 = .ok (.lload_n 3, 1) := by decide +kernel
theorem dX4_delayOf_21 : decode cX4_delayOf 21 = .ok (.aload_n 0, 1) := by decide +kernel
theorem dX4_delayOf_22 : decode cX4_delayOf 22 = .ok (.getfield 22, 3) := by decide +kernel
theorem dX4_delayOf_25 : decode cX4_delayOf 25 = .ok (.i2l, 1) := by decide +kernel
theorem dX4_delayOf_26 : decode cX4_delayOf 26 = .ok (.lload 6, 2) := by decide +kernel
theorem dX4_delayOf_28 : decode cX4_delayOf 28 = .ok (.lmul, 1) := by decide +kernel
theorem dX4_delayOf_29 : decode cX4_delayOf 29 = .ok (.aload_n 0, 1) := by decide +kernel
theorem dX4_delayOf_30 : decode cX4_delayOf 30 = .ok (.getfield 26, 3) := by decide +kernel
theorem dX4_delayOf_33 : decode cX4_delayOf 33 = .ok (.i2l, 1) := by decide +kernel
theorem dX4_delayOf_34 : decode cX4_delayOf 34 = .ok (.lload 6, 2) := by decide +kernel
theorem dX4_delayOf_36 : decode cX4_delayOf 36 = .ok (.lmul, 1) := by decide +kernel
theorem dX4_delayOf_37 : decode cX4_delayOf 37 = .ok (.ldc2_w 197, 3) := by decide +kernel
theorem dX4_delayOf_40 : decode cX4_delayOf 40 = .ok (.aload_n 0, 1) := by decide +kernel
theorem dX4_delayOf_41 : decode cX4_delayOf 41 = .ok (.getfield 97, 3) := by decide +kernel
theorem dX4_delayOf_44 : decode cX4_delayOf 44 = .ok (.iload 5, 2) := by decide +kernel
theorem dX4_delayOf_46 : decode cX4_delayOf 46 = .ok (.laload, 1) := by decide +kernel
theorem dX4_delayOf_47 : decode cX4_delayOf 47 = .ok (.lmul, 1) := by decide +kernel
theorem dX4_delayOf_48 : decode cX4_delayOf 48 = .ok (.ladd, 1) := by decide +kernel
theorem dX4_delayOf_49 : decode cX4_delayOf 49 = .ok (.lmul, 1) := by decide +kernel
theorem dX4_delayOf_50 : decode cX4_delayOf 50 = .ok (.ladd, 1) := by decide +kernel
theorem dX4_delayOf_51 : decode cX4_delayOf 51 = .ok (.lstore_n 3, 1) := by decide +kernel
theorem dX4_delayOf_52 : decode cX4_delayOf 52 = .ok (.iload 5, 2) := by decide +kernel
theorem dX4_delayOf_54 : decode cX4_delayOf 54 = .ok (.aload_n 0, 1) := by decide +kernel
theorem dX4_delayOf_55 : decode cX4_delayOf 55 = .ok (.getfield 112, 3) := by decide +kernel
theorem dX4_delayOf_58 : decode cX4_delayOf 58 = .ok (.if_icmp .lt 22, 3) := by decide +kernel
theorem dX4_delayOf_61 : decode cX4_delayOf 61 = .ok (.iload_n 2, 1) := by decide +kernel
theorem dX4_delayOf_62 : decode cX4_delayOf 62 = .ok (.iload 5, 2) := by decide +kernel
theorem dX4_delayOf_64 : decode cX4_delayOf 64 = .ok (.aload_n 0, 1) := by decide +kernel
theorem dX4_delayOf_65 : decode cX4_delayOf 65 = .ok (.getfield 112, 3) := by decide +kernel
theorem dX4_delayOf_68 : decode cX4_delayOf 68 = .ok (.isub, 1) := by decide +kernel
theorem dX4_delayOf_69 : decode cX4_delayOf 69 = .ok (.ishr, 1) := by decide +kernel
theorem dX4_delayOf_70 : decode cX4_delayOf 70 = .ok (.iconst 1, 1) := by decide +kernel
theorem dX4_delayOf_71 : decode cX4_delayOf 71 = .ok (.iand, 1) := by decide +kernel
theorem dX4_delayOf_72 : decode cX4_delayOf 72 = .ok (.iconst 1, 1) := by decide +kernel
theorem dX4_delayOf_73 : decode cX4_delayOf 73 = .ok (.if_icmp .ne 7, 3) := by decide +kernel
theorem dX4_delayOf_76 : decode cX4_delayOf 76 = .ok (.iconst 1, 1) := by decide +kernel
theorem dX4_delayOf_77 : decode cX4_delayOf 77 = .ok (.goto 4, 3) := by decide +kernel
theorem dX4_delayOf_80 : decode cX4_delayOf 80 = .ok (.iconst 0, 1) := by decide +kernel
theorem dX4_delayOf_81 : decode cX4_delayOf 81 = .ok (.istore 8, 2) := by decide +kernel
theorem dX4_delayOf_83 : decode cX4_delayOf 83 = .ok (.iload 8, 2) := by decide +kernel
theorem dX4_delayOf_85 : decode cX4_delayOf 85 = .ok (.ifCond .eq 31, 3) := by decide +kernel
theorem dX4_delayOf_88 : decode cX4_delayOf 88 = .ok (.lload_n 3, 1) := by decide +kernel
theorem dX4_delayOf_89 : decode cX4_delayOf 89 = .ok (.aload_n 0, 1) := by decide +kernel
theorem dX4_delayOf_90 : decode cX4_delayOf 90 = .ok (.getfield 126, 3) := by decide +kernel
theorem dX4_delayOf_93 : decode cX4_delayOf 93 = .ok (.i2l, 1) := by decide +kernel
theorem dX4_delayOf_94 : decode cX4_delayOf 94 = .ok (.ladd, 1) := by decide +kernel
theorem dX4_delayOf_95 : decode cX4_delayOf 95 = .ok (.ldc2_w 197, 3) := by decide +kernel
theorem dX4_delayOf_98 : decode cX4_delayOf 98 = .ok (.aload_n 0, 1) := by decide +kernel
theorem dX4_delayOf_99 : decode cX4_delayOf 99 = .ok (.getfield 32, 3) := by decide +kernel
theorem dX4_delayOf_102 : decode cX4_delayOf 102 = .ok (.i2l, 1) := by decide +kernel
theorem dX4_delayOf_103 : decode cX4_delayOf 103 = .ok (.lmul, 1) := by decide +kernel
theorem dX4_delayOf_104 : decode cX4_delayOf 104 = .ok (.aload_n 0, 1) := by decide +kernel
theorem dX4_delayOf_105 : decode cX4_delayOf 105 = .ok (.getfield 93, 3) := by decide +kernel
theorem dX4_delayOf_108 : decode cX4_delayOf 108 = .ok (.iload 5, 2) := by decide +kernel
theorem dX4_delayOf_110 : decode cX4_delayOf 110 = .ok (.laload, 1) := by decide +kernel
theorem dX4_delayOf_111 : decode cX4_delayOf 111 = .ok (.lmul, 1) := by decide +kernel
theorem dX4_delayOf_112 : decode cX4_delayOf 112 = .ok (.ladd, 1) := by decide +kernel
theorem dX4_delayOf_113 : decode cX4_delayOf 113 = .ok (.goto 4, 3) := by decide +kernel
theorem dX4_delayOf_116 : decode cX4_delayOf 116 = .ok (.lload_n 3, 1) := by decide +kernel
theorem dX4_delayOf_117 : decode cX4_delayOf 117 = .ok (.lstore_n 3, 1) := by decide +kernel
theorem dX4_delayOf_118 : decode cX4_delayOf 118 = .ok (.aload_n 0, 1) := by decide +kernel
theorem dX4_delayOf_119 : decode cX4_delayOf 119 = .ok (.getfield 41, 3) := by decide +kernel
theorem dX4_delayOf_122 : decode cX4_delayOf 122 = .ok (.iload 5, 2) := by decide +kernel
theorem dX4_delayOf_124 : decode cX4_delayOf 124 = .ok (.iaload, 1) := by decide +kernel
theorem dX4_delayOf_125 : decode cX4_delayOf 125 = .ok (.istore 5, 2) := by decide +kernel
theorem dX4_delayOf_127 : decode cX4_delayOf 127 = .ok (.goto (-122), 3) := by decide +kernel
theorem dX4_delayOf_130 : decode cX4_delayOf 130 = .ok (.lload_n 3, 1) := by decide +kernel
theorem dX4_delayOf_131 : decode cX4_delayOf 131 = .ok (.lreturn, 1) := by decide +kernel
set_option maxRecDepth 20000 in
theorem ggX4_delay_X4_number : GoodIn wsX4_delay wsX4_number := goodIn_r _ [8, 2, 9, 10, 33, 34, 35, 36, 37, 38, 39, 40, 41, 42, 43, 44, 45, 46, 47, 48, 49, 50, 51, 52, 53, 54, 55, 56, 57, 58, 59, 60, 61, 62, 63, 64, 65, 66, 67, 68, 69] (by decide +kernel) (by decide +kernel)
set_option maxRecDepth 20000 in
theorem gX4_delay_X4_number : GoodIn wsX4_delay (wsV RX4 187 RX4 yX4_number wsX4_number) := goodIn_app (goodIn_of _ (by decide +kernel)) ggX4_delay_X4_number
set_option maxRecDepth 20000 in
theorem ggX4_delay_X4_weigh : GoodIn wsX4_delay wsX4_weigh := goodIn_r _ [14, 9, 15, 16, 17, 2, 18, 19, 20, 21, 22, 23, 33, 34, 35, 36, 37, 38, 39, 40, 41, 42, 43, 44, 45, 46, 47, 48, 49, 50, 51, 52, 53, 54, 55, 56, 57, 58, 59, 60, 61, 62, 63, 64, 65, 66, 67, 68, 69] (by decide +kernel) (by decide +kernel)
set_option maxRecDepth 20000 in
theorem gX4_delay_X4_weigh : GoodIn wsX4_delay (wsV RX4 193 RX4 yX4_weigh wsX4_weigh) := goodIn_app (goodIn_of _ (by decide +kernel)) ggX4_delay_X4_weigh
set_option maxRecDepth 20000 in
theorem ggX4_delay_X4_delayOf : GoodIn wsX4_delay wsX4_delayOf := goodIn_r _ [27, 22, 28, 21, 29, 20, 2, 30, 31, 17, 32, 33, 34, 35, 36, 37, 38, 39, 40, 41, 42, 43, 44, 45, 46, 47, 48, 49, 50, 51, 52, 53, 54, 55, 56, 57, 58, 59, 60, 61, 62, 63, 64, 65, 66, 67, 68, 69] (by decide +kernel) (by decide +kernel)
set_option maxRecDepth 20000 in
theorem gX4_delay_X4_delayOf : GoodIn wsX4_delay (wsV RX4 199 RX4 yX4_delayOf wsX4_delayOf) := goodIn_app (goodIn_of _ (by decide +kernel)) ggX4_delay_X4_delayOf
theorem dX4_delay_0 : decode cX4_delay 0 = .ok (.aload_n 0, 1) := by decide +kernel
theorem dX4_delay_1 : decode cX4_delay 1 = .ok (.aload_n 0, 1) := by decide +kernel
theorem dX4_delay_2 : decode cX4_delay 2 = .ok (.getfield 115, 3) := by decide +kernel
theorem dX4_delay_5 : decode cX4_delay 5 = .ok (.ifCond .ne 7, 3) := by decide +kernel
theorem dX4_delay_8 : decode cX4_delay 8 = .ok (.iconst 1, 1) := by decide +kernel
theorem dX4_delay_9 : decode cX4_delay 9 = .ok (.goto 20, 3) := by decide +kernel
theorem dX4_delay_12 : decode cX4_delay 12 = .ok (.iload_n 1, 1) := by decide +kernel
theorem dX4_delay_13 : decode cX4_delay 13 = .ok (.ifCond .lt 11, 3) := by decide +kernel
theorem dX4_delay_16 : decode cX4_delay 16 = .ok (.iload_n 1, 1) := by decide +kernel
theorem dX4_delay_17 : decode cX4_delay 17 = .ok (.aload_n 0, 1) := by decide +kernel
theorem dX4_delay_18 : decode cX4_delay 18 = .ok (.getfield 112, 3) := by decide +kernel
theorem dX4_delay_21 : decode cX4_delay 21 = .ok (.if_icmp .lt 7, 3) := by decide +kernel
theorem dX4_delay_24 : decode cX4_delay 24 = .ok (.iconst 2, 1) := by decide +kernel
theorem dX4_delay_25 : decode cX4_delay 25 = .ok (.goto 4, 3) := by decide +kernel
theorem dX4_delay_28 : decode cX4_delay 28 = .ok (.iconst 0, 1) := by decide +kernel
theorem dX4_delay_29 : decode cX4_delay 29 = .ok (.putfield 100, 3) := by decide +kernel
theorem dX4_delay_32 : decode cX4_delay 32 = .ok (.aload_n 0, 1) := by decide +kernel
theorem dX4_delay_33 : decode cX4_delay 33 = .ok (.getfield 100, 3) := by decide +kernel
theorem dX4_delay_36 : decode cX4_delay 36 = .ok (.ifCond .le 5, 3) := by decide +kernel
theorem dX4_delay_39 : decode cX4_delay 39 = .ok (.lconst 0, 1) := by decide +kernel
theorem dX4_delay_40 : decode cX4_delay 40 = .ok (.lreturn, 1) := by decide +kernel
theorem dX4_delay_41 : decode cX4_delay 41 = .ok (.aload_n 0, 1) := by decide +kernel
theorem dX4_delay_42 : decode cX4_delay 42 = .ok (.aload_n 0, 1) := by decide +kernel
theorem dX4_delay_43 : decode cX4_delay 43 = .ok (.invokevirtual 187, 3) := by decide +kernel
theorem dX4_delay_46 : decode cX4_delay 46 = .ok (.invokevirtual 193, 3) := by decide +kernel
theorem dX4_delay_49 : decode cX4_delay 49 = .ok (.aload_n 0, 1) := by decide +kernel
theorem dX4_delay_50 : decode cX4_delay 50 = .ok (.iload_n 1, 1) := by decide +kernel
theorem dX4_delay_51 : decode cX4_delay 51 = .ok (.aload_n 0, 1) := by decide +kernel
theorem dX4_delay_52 : decode cX4_delay 52 = .ok (.invokevirtual 187, 3) := by decide +kernel
theorem dX4_delay_55 : decode cX4_delay 55 = .ok (.invokevirtual 199, 3) := by decide +kernel
theorem dX4_delay_58 : decode cX4_delay 58 = .ok (.lreturn, 1) := by decide +kernel
set_option maxRecDepth 20000 in
theorem ggX4_slackOf_X4_weigh : GoodIn wsX4_slackOf wsX4_weigh := goodIn_r _ [8, 9, 10, 11, 12, 1, 13, 14, 15, 16, 17, 18, 28, 29, 30, 31, 32, 33, 34, 35, 36, 37, 38, 39, 40, 41, 42, 43, 44, 45, 46, 47, 48, 49, 50, 51, 52, 53, 54, 55, 56, 57, 58, 59, 60, 61, 62, 63, 64] (by decide +kernel) (by decide +kernel)
set_option maxRecDepth 20000 in
theorem gX4_slackOf_X4_weigh : GoodIn wsX4_slackOf (wsV RX4 193 RX4 yX4_weigh wsX4_weigh) := goodIn_app (goodIn_of _ (by decide +kernel)) ggX4_slackOf_X4_weigh
set_option maxRecDepth 20000 in
theorem ggX4_slackOf_X4_delayOf : GoodIn wsX4_slackOf wsX4_delayOf := goodIn_r _ [22, 17, 23, 16, 24, 15, 1, 25, 26, 12, 27, 28, 29, 30, 31, 32, 33, 34, 35, 36, 37, 38, 39, 40, 41, 42, 43, 44, 45, 46, 47, 48, 49, 50, 51, 52, 53, 54, 55, 56, 57, 58, 59, 60, 61, 62, 63, 64] (by decide +kernel) (by decide +kernel)
set_option maxRecDepth 20000 in
theorem gX4_slackOf_X4_delayOf : GoodIn wsX4_slackOf (wsV RX4 199 RX4 yX4_delayOf wsX4_delayOf) := goodIn_app (goodIn_of _ (by decide +kernel)) ggX4_slackOf_X4_delayOf
theorem dX4_slackOf_0 : decode cX4_slackOf 0 = .ok (.aload_n 0, 1) := by decide +kernel
theorem dX4_slackOf_1 : decode cX4_slackOf 1 = .ok (.iload_n 1, 1) := by decide +kernel
theorem dX4_slackOf_2 : decode cX4_slackOf 2 = .ok (.invokevirtual 193, 3) := by decide +kernel
theorem dX4_slackOf_5 : decode cX4_slackOf 5 = .ok (.lconst 0, 1) := by decide +kernel
theorem dX4_slackOf_6 : decode cX4_slackOf 6 = .ok (.lstore_n 2, 1) := by decide +kernel
theorem dX4_slackOf_7 : decode cX4_slackOf 7 = .ok (.iconst 0, 1) := by decide +kernel
theorem dX4_slackOf_8 : decode cX4_slackOf 8 = .ok (.istore 4, 2) := by decide +kernel
theorem dX4_slackOf_10 : decode cX4_slackOf 10 = .ok (.iload 4, 2) := by decide +kernel
theorem dX4_slackOf_12 : decode cX4_slackOf 12 = .ok (.aload_n 0, 1) := by decide +kernel
theorem dX4_slackOf_13 : decode cX4_slackOf 13 = .ok (.getfield 112, 3) := by decide +kernel
theorem dX4_slackOf_16 : decode cX4_slackOf 16 = .ok (.if_icmp .ge 50, 3) := by decide +kernel
theorem dX4_slackOf_19 : decode cX4_slackOf 19 = .ok (.ldc2_w 203, 3) := by decide +kernel
theorem dX4_slackOf_22 : decode cX4_slackOf 22 = .ok (.aload_n 0, 1) := by decide +kernel
theorem dX4_slackOf_23 : decode cX4_slackOf 23 = .ok (.getfield 19, 3) := by decide +kernel
theorem dX4_slackOf_26 : decode cX4_slackOf 26 = .ok (.iload 4, 2) := by decide +kernel
theorem dX4_slackOf_28 : decode cX4_slackOf 28 = .ok (.iaload, 1) := by decide +kernel
theorem dX4_slackOf_29 : decode cX4_slackOf 29 = .ok (.i2l, 1) := by decide +kernel
theorem dX4_slackOf_30 : decode cX4_slackOf 30 = .ok (.lmul, 1) := by decide +kernel
theorem dX4_slackOf_31 : decode cX4_slackOf 31 = .ok (.aload_n 0, 1) := by decide +kernel
theorem dX4_slackOf_32 : decode cX4_slackOf 32 = .ok (.iload 4, 2) := by decide +kernel
theorem dX4_slackOf_34 : decode cX4_slackOf 34 = .ok (.iload_n 1, 1) := by decide +kernel
theorem dX4_slackOf_35 : decode cX4_slackOf 35 = .ok (.invokevirtual 199, 3) := by decide +kernel
theorem dX4_slackOf_38 : decode cX4_slackOf 38 = .ok (.lsub, 1) := by decide +kernel
theorem dX4_slackOf_39 : decode cX4_slackOf 39 = .ok (.lstore 5, 2) := by decide +kernel
theorem dX4_slackOf_41 : decode cX4_slackOf 41 = .ok (.iload 4, 2) := by decide +kernel
theorem dX4_slackOf_43 : decode cX4_slackOf 43 = .ok (.ifCond .eq 10, 3) := by decide +kernel
theorem dX4_slackOf_46 : decode cX4_slackOf 46 = .ok (.lload 5, 2) := by decide +kernel
theorem dX4_slackOf_48 : decode cX4_slackOf 48 = .ok (.lload_n 2, 1) := by decide +kernel
theorem dX4_slackOf_49 : decode cX4_slackOf 49 = .ok (.lcmp, 1) := by decide +kernel
theorem dX4_slackOf_50 : decode cX4_slackOf 50 = .ok (.ifCond .ge 8, 3) := by decide +kernel
theorem dX4_slackOf_53 : decode cX4_slackOf 53 = .ok (.lload 5, 2) := by decide +kernel
theorem dX4_slackOf_55 : decode cX4_slackOf 55 = .ok (.goto 4, 3) := by decide +kernel
theorem dX4_slackOf_58 : decode cX4_slackOf 58 = .ok (.lload_n 2, 1) := by decide +kernel
theorem dX4_slackOf_59 : decode cX4_slackOf 59 = .ok (.lstore_n 2, 1) := by decide +kernel
theorem dX4_slackOf_60 : decode cX4_slackOf 60 = .ok (.iinc 4 1, 3) := by decide +kernel
theorem dX4_slackOf_63 : decode cX4_slackOf 63 = .ok (.goto (-53), 3) := by decide +kernel
theorem dX4_slackOf_66 : decode cX4_slackOf 66 = .ok (.lload_n 2, 1) := by decide +kernel
theorem dX4_slackOf_67 : decode cX4_slackOf 67 = .ok (.lreturn, 1) := by decide +kernel
set_option maxRecDepth 20000 in
theorem ggX4_slack_X4_number : GoodIn wsX4_slack wsX4_number := goodIn_r _ [7, 8, 9, 10, 39, 40, 41, 42, 43, 44, 45, 46, 47, 48, 49, 50, 51, 52, 53, 54, 55, 56, 57, 58, 59, 60, 61, 62, 63, 64, 65, 66, 67, 68, 69, 70, 71, 72, 73, 74, 75] (by decide +kernel) (by decide +kernel)
set_option maxRecDepth 20000 in
theorem gX4_slack_X4_number : GoodIn wsX4_slack (wsV RX4 187 RX4 yX4_number wsX4_number) := goodIn_app (goodIn_of _ (by decide +kernel)) ggX4_slack_X4_number
set_option maxRecDepth 20000 in
theorem ggX4_slack_X4_slackOf : GoodIn wsX4_slack wsX4_slackOf := goodIn_r _ [14, 8, 15, 16, 17, 18, 19, 6, 20, 9, 21, 22, 23, 24, 25, 26, 27, 28, 29, 30, 31, 32, 33, 34, 35, 36, 37, 38, 39, 40, 41, 42, 43, 44, 45, 46, 47, 48, 49, 50, 51, 52, 53, 54, 55, 56, 57, 58, 59, 60, 61, 62, 63, 64, 65, 66, 67, 68, 69, 70, 71, 72, 73, 74, 75] (by decide +kernel) (by decide +kernel)
set_option maxRecDepth 20000 in
theorem gX4_slack_X4_slackOf : GoodIn wsX4_slack (wsV RX4 205 RX4 yX4_slackOf wsX4_slackOf) := goodIn_app (goodIn_of _ (by decide +kernel)) ggX4_slack_X4_slackOf
theorem dX4_slack_0 : decode cX4_slack 0 = .ok (.aload_n 0, 1) := by decide +kernel
theorem dX4_slack_1 : decode cX4_slack 1 = .ok (.aload_n 0, 1) := by decide +kernel
theorem dX4_slack_2 : decode cX4_slack 2 = .ok (.getfield 115, 3) := by decide +kernel
theorem dX4_slack_5 : decode cX4_slack 5 = .ok (.ifCond .eq 7, 3) := by decide +kernel
theorem dX4_slack_8 : decode cX4_slack 8 = .ok (.iconst 0, 1) := by decide +kernel
theorem dX4_slack_9 : decode cX4_slack 9 = .ok (.goto 4, 3) := by decide +kernel
theorem dX4_slack_12 : decode cX4_slack 12 = .ok (.iconst 1, 1) := by decide +kernel
theorem dX4_slack_13 : decode cX4_slack 13 = .ok (.putfield 100, 3) := by decide +kernel
theorem dX4_slack_16 : decode cX4_slack 16 = .ok (.aload_n 0, 1) := by decide +kernel
theorem dX4_slack_17 : decode cX4_slack 17 = .ok (.getfield 115, 3) := by decide +kernel
theorem dX4_slack_20 : decode cX4_slack 20 = .ok (.ifCond .eq 14, 3) := by decide +kernel
theorem dX4_slack_23 : decode cX4_slack 23 = .ok (.aload_n 0, 1) := by decide +kernel
theorem dX4_slack_24 : decode cX4_slack 24 = .ok (.aload_n 0, 1) := by decide +kernel
theorem dX4_slack_25 : decode cX4_slack 25 = .ok (.invokevirtual 187, 3) := by decide +kernel
theorem dX4_slack_28 : decode cX4_slack 28 = .ok (.invokevirtual 205, 3) := by decide +kernel
theorem dX4_slack_31 : decode cX4_slack 31 = .ok (.goto 4, 3) := by decide +kernel
theorem dX4_slack_34 : decode cX4_slack 34 = .ok (.lconst 0, 1) := by decide +kernel
theorem dX4_slack_35 : decode cX4_slack 35 = .ok (.lreturn, 1) := by decide +kernel
set_option maxRecDepth 20000 in
theorem ggX4_bestSetting_X4_slackOf : GoodIn wsX4_bestSetting wsX4_slackOf := goodIn_r _ [6, 1, 7, 8, 9, 10, 11, 5, 12, 13, 14, 15, 16, 17, 18, 19, 20, 21, 22, 23, 24, 25, 26, 27, 28, 29, 30, 31, 32, 33, 34, 35, 36, 37, 38, 39, 40, 41, 42, 43, 44, 45, 46, 47, 48, 49, 50, 51, 52, 53, 54, 55, 56, 57, 58, 59, 60, 61, 62, 63, 64, 65, 66, 67, 68] (by decide +kernel) (by decide +kernel)
set_option maxRecDepth 20000 in
theorem gX4_bestSetting_X4_slackOf : GoodIn wsX4_bestSetting (wsV RX4 205 RX4 yX4_slackOf wsX4_slackOf) := goodIn_app (goodIn_of _ (by decide +kernel)) ggX4_bestSetting_X4_slackOf
theorem dX4_bestSetting_0 : decode cX4_bestSetting 0 = .ok (.iconst 0, 1) := by decide +kernel
theorem dX4_bestSetting_1 : decode cX4_bestSetting 1 = .ok (.istore_n 1, 1) := by decide +kernel
theorem dX4_bestSetting_2 : decode cX4_bestSetting 2 = .ok (.aload_n 0, 1) := by decide +kernel
theorem dX4_bestSetting_3 : decode cX4_bestSetting 3 = .ok (.iconst 0, 1) := by decide +kernel
theorem dX4_bestSetting_4 : decode cX4_bestSetting 4 = .ok (.invokevirtual 205, 3) := by decide +kernel
theorem dX4_bestSetting_7 : decode cX4_bestSetting 7 = .ok (.lstore_n 2, 1) := by decide +kernel
theorem dX4_bestSetting_8 : decode cX4_bestSetting 8 = .ok (.iconst 1, 1) := by decide +kernel
theorem dX4_bestSetting_9 : decode cX4_bestSetting 9 = .ok (.istore 4, 2) := by decide +kernel
theorem dX4_bestSetting_11 : decode cX4_bestSetting 11 = .ok (.iload 4, 2) := by decide +kernel
theorem dX4_bestSetting_13 : decode cX4_bestSetting 13 = .ok (.iconst 1, 1) := by decide +kernel
theorem dX4_bestSetting_14 : decode cX4_bestSetting 14 = .ok (.aload_n 0, 1) := by decide +kernel
theorem dX4_bestSetting_15 : decode cX4_bestSetting 15 = .ok (.getfield 112, 3) := by decide +kernel
theorem dX4_bestSetting_18 : decode cX4_bestSetting 18 = .ok (.iconst 1, 1) := by decide +kernel
theorem dX4_bestSetting_19 : decode cX4_bestSetting 19 = .ok (.isub, 1) := by decide +kernel
theorem dX4_bestSetting_20 : decode cX4_bestSetting 20 = .ok (.ishl, 1) := by decide +kernel
theorem dX4_bestSetting_21 : decode cX4_bestSetting 21 = .ok (.if_icmp .ge 30, 3) := by decide +kernel
theorem dX4_bestSetting_24 : decode cX4_bestSetting 24 = .ok (.aload_n 0, 1) := by decide +kernel
theorem dX4_bestSetting_25 : decode cX4_bestSetting 25 = .ok (.iload 4, 2) := by decide +kernel
theorem dX4_bestSetting_27 : decode cX4_bestSetting 27 = .ok (.invokevirtual 205, 3) := by decide +kernel
theorem dX4_bestSetting_30 : decode cX4_bestSetting 30 = .ok (.lstore 5, 2) := by decide +kernel
theorem dX4_bestSetting_32 : decode cX4_bestSetting 32 = .ok (.lload 5, 2) := by decide +kernel
theorem dX4_bestSetting_34 : decode cX4_bestSetting 34 = .ok (.lload_n 2, 1) := by decide +kernel
theorem dX4_bestSetting_35 : decode cX4_bestSetting 35 = .ok (.lcmp, 1) := by decide +kernel
theorem dX4_bestSetting_36 : decode cX4_bestSetting 36 = .ok (.ifCond .le 9, 3) := by decide +kernel
theorem dX4_bestSetting_39 : decode cX4_bestSetting 39 = .ok (.lload 5, 2) := by decide +kernel
theorem dX4_bestSetting_41 : decode cX4_bestSetting 41 = .ok (.lstore_n 2, 1) := by decide +kernel
theorem dX4_bestSetting_42 : decode cX4_bestSetting 42 = .ok (.iload 4, 2) := by decide +kernel
theorem dX4_bestSetting_44 : decode cX4_bestSetting 44 = .ok (.istore_n 1, 1) := by decide +kernel
theorem dX4_bestSetting_45 : decode cX4_bestSetting 45 = .ok (.iinc 4 1, 3) := by decide +kernel
theorem dX4_bestSetting_48 : decode cX4_bestSetting 48 = .ok (.goto (-37), 3) := by decide +kernel
theorem dX4_bestSetting_51 : decode cX4_bestSetting 51 = .ok (.iload_n 1, 1) := by decide +kernel
theorem dX4_bestSetting_52 : decode cX4_bestSetting 52 = .ok (.ireturn, 1) := by decide +kernel
set_option maxRecDepth 20000 in
theorem ggX4_best_X4_bestSetting : GoodIn wsX4_best wsX4_bestSetting := goodIn_r _ [7, 8, 9, 10, 11, 6, 12, 13, 14, 15, 16, 17, 18, 19, 20, 21, 22, 23, 24, 25, 26, 27, 28, 29, 30, 31, 32, 33, 34, 35, 36, 37, 38, 39, 40, 41, 42, 43, 44, 45, 46, 47, 48, 49, 50, 51, 52, 53, 54, 55, 56, 57, 58, 59, 60, 61, 62, 63, 64, 65, 66, 67, 68, 69, 70, 71, 72, 73, 74] (by decide +kernel) (by decide +kernel)
set_option maxRecDepth 20000 in
theorem gX4_best_X4_bestSetting : GoodIn wsX4_best (wsV RX4 209 RX4 yX4_bestSetting wsX4_bestSetting) := goodIn_app (goodIn_of _ (by decide +kernel)) ggX4_best_X4_bestSetting
set_option maxRecDepth 20000 in
theorem ggX4_best_X4_slackOf : GoodIn wsX4_best wsX4_slackOf := goodIn_r _ [12, 8, 13, 14, 15, 16, 17, 6, 18, 19, 20, 21, 22, 23, 24, 25, 26, 27, 28, 29, 30, 31, 32, 33, 34, 35, 36, 37, 38, 39, 40, 41, 42, 43, 44, 45, 46, 47, 48, 49, 50, 51, 52, 53, 54, 55, 56, 57, 58, 59, 60, 61, 62, 63, 64, 65, 66, 67, 68, 69, 70, 71, 72, 73, 74] (by decide +kernel) (by decide +kernel)
set_option maxRecDepth 20000 in
theorem gX4_best_X4_slackOf : GoodIn wsX4_best (wsV RX4 205 RX4 yX4_slackOf wsX4_slackOf) := goodIn_app (goodIn_of _ (by decide +kernel)) ggX4_best_X4_slackOf
theorem dX4_best_0 : decode cX4_best 0 = .ok (.aload_n 0, 1) := by decide +kernel
theorem dX4_best_1 : decode cX4_best 1 = .ok (.aload_n 0, 1) := by decide +kernel
theorem dX4_best_2 : decode cX4_best 2 = .ok (.getfield 115, 3) := by decide +kernel
theorem dX4_best_5 : decode cX4_best 5 = .ok (.ifCond .eq 7, 3) := by decide +kernel
theorem dX4_best_8 : decode cX4_best 8 = .ok (.iconst 0, 1) := by decide +kernel
theorem dX4_best_9 : decode cX4_best 9 = .ok (.goto 4, 3) := by decide +kernel
theorem dX4_best_12 : decode cX4_best 12 = .ok (.iconst 1, 1) := by decide +kernel
theorem dX4_best_13 : decode cX4_best 13 = .ok (.putfield 100, 3) := by decide +kernel
theorem dX4_best_16 : decode cX4_best 16 = .ok (.aload_n 0, 1) := by decide +kernel
theorem dX4_best_17 : decode cX4_best 17 = .ok (.getfield 115, 3) := by decide +kernel
theorem dX4_best_20 : decode cX4_best 20 = .ok (.ifCond .eq 14, 3) := by decide +kernel
theorem dX4_best_23 : decode cX4_best 23 = .ok (.aload_n 0, 1) := by decide +kernel
theorem dX4_best_24 : decode cX4_best 24 = .ok (.aload_n 0, 1) := by decide +kernel
theorem dX4_best_25 : decode cX4_best 25 = .ok (.invokevirtual 209, 3) := by decide +kernel
theorem dX4_best_28 : decode cX4_best 28 = .ok (.invokevirtual 205, 3) := by decide +kernel
theorem dX4_best_31 : decode cX4_best 31 = .ok (.goto 4, 3) := by decide +kernel
theorem dX4_best_34 : decode cX4_best 34 = .ok (.lconst 0, 1) := by decide +kernel
theorem dX4_best_35 : decode cX4_best 35 = .ok (.lreturn, 1) := by decide +kernel
set_option maxRecDepth 20000 in
theorem ggX4_improve_X4_bestSetting : GoodIn wsX4_improve wsX4_bestSetting := goodIn_r _ [10, 3, 11, 12, 13, 9, 14, 15, 16, 17, 18, 19, 20, 4, 21, 22, 23, 24, 25, 26, 27, 28, 29, 30, 31, 32, 33, 34, 35, 36, 37, 38, 39, 40, 41, 42, 43, 44, 45, 46, 47, 48, 49, 50, 51, 52, 53, 54, 55, 56, 57, 58, 59, 60, 61, 62, 63, 64, 65, 66, 67, 68, 69, 70, 71, 72, 73, 74, 75] (by decide +kernel) (by decide +kernel)
set_option maxRecDepth 20000 in
theorem gX4_improve_X4_bestSetting : GoodIn wsX4_improve (wsV RX4 209 RX4 yX4_bestSetting wsX4_bestSetting) := goodIn_app (goodIn_of _ (by decide +kernel)) ggX4_improve_X4_bestSetting
theorem dX4_improve_0 : decode cX4_improve 0 = .ok (.aload_n 0, 1) := by decide +kernel
theorem dX4_improve_1 : decode cX4_improve 1 = .ok (.aload_n 0, 1) := by decide +kernel
theorem dX4_improve_2 : decode cX4_improve 2 = .ok (.getfield 115, 3) := by decide +kernel
theorem dX4_improve_5 : decode cX4_improve 5 = .ok (.ifCond .eq 7, 3) := by decide +kernel
theorem dX4_improve_8 : decode cX4_improve 8 = .ok (.iconst 0, 1) := by decide +kernel
theorem dX4_improve_9 : decode cX4_improve 9 = .ok (.goto 4, 3) := by decide +kernel
theorem dX4_improve_12 : decode cX4_improve 12 = .ok (.iconst 1, 1) := by decide +kernel
theorem dX4_improve_13 : decode cX4_improve 13 = .ok (.putfield 100, 3) := by decide +kernel
theorem dX4_improve_16 : decode cX4_improve 16 = .ok (.aload_n 0, 1) := by decide +kernel
theorem dX4_improve_17 : decode cX4_improve 17 = .ok (.getfield 115, 3) := by decide +kernel
theorem dX4_improve_20 : decode cX4_improve 20 = .ok (.ifCond .ne 5, 3) := by decide +kernel
theorem dX4_improve_23 : decode cX4_improve 23 = .ok (.iconst 0, 1) := by decide +kernel
theorem dX4_improve_24 : decode cX4_improve 24 = .ok (.ireturn, 1) := by decide +kernel
theorem dX4_improve_25 : decode cX4_improve 25 = .ok (.aload_n 0, 1) := by decide +kernel
theorem dX4_improve_26 : decode cX4_improve 26 = .ok (.invokevirtual 209, 3) := by decide +kernel
theorem dX4_improve_29 : decode cX4_improve 29 = .ok (.istore_n 1, 1) := by decide +kernel
theorem dX4_improve_30 : decode cX4_improve 30 = .ok (.aload_n 0, 1) := by decide +kernel
theorem dX4_improve_31 : decode cX4_improve 31 = .ok (.getfield 112, 3) := by decide +kernel
theorem dX4_improve_34 : decode cX4_improve 34 = .ok (.istore_n 2, 1) := by decide +kernel
theorem dX4_improve_35 : decode cX4_improve 35 = .ok (.iload_n 2, 1) := by decide +kernel
theorem dX4_improve_36 : decode cX4_improve 36 = .ok (.aload_n 0, 1) := by decide +kernel
theorem dX4_improve_37 : decode cX4_improve 37 = .ok (.getfield 140, 3) := by decide +kernel
theorem dX4_improve_40 : decode cX4_improve 40 = .ok (.if_icmp .ge 34, 3) := by decide +kernel
theorem dX4_improve_43 : decode cX4_improve 43 = .ok (.aload_n 0, 1) := by decide +kernel
theorem dX4_improve_44 : decode cX4_improve 44 = .ok (.getfield 68, 3) := by decide +kernel
theorem dX4_improve_47 : decode cX4_improve 47 = .ok (.iload_n 2, 1) := by decide +kernel
theorem dX4_improve_48 : decode cX4_improve 48 = .ok (.iload_n 1, 1) := by decide +kernel
theorem dX4_improve_49 : decode cX4_improve 49 = .ok (.iload_n 2, 1) := by decide +kernel
theorem dX4_improve_50 : decode cX4_improve 50 = .ok (.aload_n 0, 1) := by decide +kernel
theorem dX4_improve_51 : decode cX4_improve 51 = .ok (.getfield 112, 3) := by decide +kernel
theorem dX4_improve_54 : decode cX4_improve 54 = .ok (.isub, 1) := by decide +kernel
theorem dX4_improve_55 : decode cX4_improve 55 = .ok (.ishr, 1) := by decide +kernel
theorem dX4_improve_56 : decode cX4_improve 56 = .ok (.iconst 1, 1) := by decide +kernel
theorem dX4_improve_57 : decode cX4_improve 57 = .ok (.iand, 1) := by decide +kernel
theorem dX4_improve_58 : decode cX4_improve 58 = .ok (.iconst 1, 1) := by decide +kernel
theorem dX4_improve_59 : decode cX4_improve 59 = .ok (.if_icmp .ne 7, 3) := by decide +kernel
theorem dX4_improve_62 : decode cX4_improve 62 = .ok (.iconst 1, 1) := by decide +kernel
theorem dX4_improve_63 : decode cX4_improve 63 = .ok (.goto 4, 3) := by decide +kernel
theorem dX4_improve_66 : decode cX4_improve 66 = .ok (.iconst 0, 1) := by decide +kernel
theorem dX4_improve_67 : decode cX4_improve 67 = .ok (.bastore, 1) := by decide +kernel
theorem dX4_improve_68 : decode cX4_improve 68 = .ok (.iinc 2 1, 3) := by decide +kernel
theorem dX4_improve_71 : decode cX4_improve 71 = .ok (.goto (-36), 3) := by decide +kernel
theorem dX4_improve_74 : decode cX4_improve 74 = .ok (.iload_n 1, 1) := by decide +kernel
theorem dX4_improve_75 : decode cX4_improve 75 = .ok (.ireturn, 1) := by decide +kernel
theorem dJ9_abs_0f7a4_0 : decode cJ9_abs_0f7a4 0 = .ok (.iload_n 0, 1) := by decide +kernel
theorem dJ9_abs_0f7a4_1 : decode cJ9_abs_0f7a4 1 = .ok (.ifCond .ge 8, 3) := by decide +kernel
theorem dJ9_abs_0f7a4_4 : decode cJ9_abs_0f7a4 4 = .ok (.iload_n 0, 1) := by decide +kernel
theorem dJ9_abs_0f7a4_5 : decode cJ9_abs_0f7a4 5 = .ok (.ineg, 1) := by decide +kernel
theorem dJ9_abs_0f7a4_6 : decode cJ9_abs_0f7a4 6 = .ok (.goto 4, 3) := by decide +kernel
theorem dJ9_abs_0f7a4_9 : decode cJ9_abs_0f7a4 9 = .ok (.iload_n 0, 1) := by decide +kernel
theorem dJ9_abs_0f7a4_10 : decode cJ9_abs_0f7a4 10 = .ok (.ireturn, 1) := by decide +kernel
theorem dJ9_max_7cf53_0 : decode cJ9_max_7cf53 0 = .ok (.iload_n 0, 1) := by decide +kernel
theorem dJ9_max_7cf53_1 : decode cJ9_max_7cf53 1 = .ok (.iload_n 1, 1) := by decide +kernel
theorem dJ9_max_7cf53_2 : decode cJ9_max_7cf53 2 = .ok (.if_icmp .lt 7, 3) := by decide +kernel
theorem dJ9_max_7cf53_5 : decode cJ9_max_7cf53 5 = .ok (.iload_n 0, 1) := by decide +kernel
theorem dJ9_max_7cf53_6 : decode cJ9_max_7cf53 6 = .ok (.goto 4, 3) := by decide +kernel
theorem dJ9_max_7cf53_9 : decode cJ9_max_7cf53 9 = .ok (.iload_n 1, 1) := by decide +kernel
theorem dJ9_max_7cf53_10 : decode cJ9_max_7cf53 10 = .ok (.ireturn, 1) := by decide +kernel
theorem dJ9_min_7cf53_0 : decode cJ9_min_7cf53 0 = .ok (.iload_n 0, 1) := by decide +kernel
theorem dJ9_min_7cf53_1 : decode cJ9_min_7cf53 1 = .ok (.iload_n 1, 1) := by decide +kernel
theorem dJ9_min_7cf53_2 : decode cJ9_min_7cf53 2 = .ok (.if_icmp .gt 7, 3) := by decide +kernel
theorem dJ9_min_7cf53_5 : decode cJ9_min_7cf53 5 = .ok (.iload_n 0, 1) := by decide +kernel
theorem dJ9_min_7cf53_6 : decode cJ9_min_7cf53 6 = .ok (.goto 4, 3) := by decide +kernel
theorem dJ9_min_7cf53_9 : decode cJ9_min_7cf53 9 = .ok (.iload_n 1, 1) := by decide +kernel
theorem dJ9_min_7cf53_10 : decode cJ9_min_7cf53 10 = .ok (.ireturn, 1) := by decide +kernel
theorem dJ9_min_f86c9_0 : decode cJ9_min_f86c9 0 = .ok (.lload_n 0, 1) := by decide +kernel
theorem dJ9_min_f86c9_1 : decode cJ9_min_f86c9 1 = .ok (.lload_n 2, 1) := by decide +kernel
theorem dJ9_min_f86c9_2 : decode cJ9_min_f86c9 2 = .ok (.lcmp, 1) := by decide +kernel
theorem dJ9_min_f86c9_3 : decode cJ9_min_f86c9 3 = .ok (.ifCond .gt 7, 3) := by decide +kernel
theorem dJ9_min_f86c9_6 : decode cJ9_min_f86c9 6 = .ok (.lload_n 0, 1) := by decide +kernel
theorem dJ9_min_f86c9_7 : decode cJ9_min_f86c9 7 = .ok (.goto 4, 3) := by decide +kernel
theorem dJ9_min_f86c9_10 : decode cJ9_min_f86c9 10 = .ok (.lload_n 2, 1) := by decide +kernel
theorem dJ9_min_f86c9_11 : decode cJ9_min_f86c9 11 = .ok (.lreturn, 1) := by decide +kernel
set_option maxRecDepth 20000 in
theorem ggL_sink_X3_sink : GoodIn wsL_sink wsX3_sink := goodIn_ca (goodIn_ca (goodIn_r _ [7, 8, 9, 10, 11, 12, 13, 14, 15, 16, 17, 6, 18, 19, 20, 21, 22, 23, 24, 25, 26, 27, 28, 29, 30, 31, 32, 33, 34, 35, 36, 37, 38, 39, 40, 41, 42, 43] (by decide +kernel) (by decide +kernel)) (goodIn_sub (fun _ h => List.mem_cons_of_mem _ (List.mem_append_left _ (List.mem_append_right _ h))) (by decide +kernel))) (goodIn_sub (fun _ h => List.mem_cons_of_mem _ (List.mem_append_right _ h)) (by decide +kernel))
set_option maxRecDepth 20000 in
theorem gL_sink_X3_sink : GoodIn wsL_sink (wsV RL 7 RX3 yX3_sink wsX3_sink) := goodIn_app (goodIn_of _ (by decide +kernel)) ggL_sink_X3_sink
theorem dL_sink_0 : decode cL_sink 0 = .ok (.aload 5, 2) := by decide +kernel
theorem dL_sink_2 : decode cL_sink 2 = .ok (.iconst 0, 1) := by decide +kernel
theorem dL_sink_3 : decode cL_sink 3 = .ok (.aload_n 0, 1) := by decide +kernel
theorem dL_sink_4 : decode cL_sink 4 = .ok (.iload_n 1, 1) := by decide +kernel
theorem dL_sink_5 : decode cL_sink 5 = .ok (.iload_n 2, 1) := by decide +kernel
theorem dL_sink_6 : decode cL_sink 6 = .ok (.iload_n 3, 1) := by decide +kernel
theorem dL_sink_7 : decode cL_sink 7 = .ok (.iload 4, 2) := by decide +kernel
theorem dL_sink_9 : decode cL_sink 9 = .ok (.invokevirtual 7, 3) := by decide +kernel
theorem dL_sink_12 : decode cL_sink 12 = .ok (.i2l, 1) := by decide +kernel
theorem dL_sink_13 : decode cL_sink 13 = .ok (.lastore, 1) := by decide +kernel
theorem dL_sink_14 : decode cL_sink 14 = .ok (.goto 11, 3) := by decide +kernel
theorem dL_sink_17 : decode cL_sink 17 = .ok (.astore 6, 2) := by decide +kernel
theorem dL_sink_19 : decode cL_sink 19 = .ok (.iconst 1, 1) := by decide +kernel
theorem dL_sink_20 : decode cL_sink 20 = .ok (.ireturn, 1) := by decide +kernel
theorem dL_sink_21 : decode cL_sink 21 = .ok (.astore 6, 2) := by decide +kernel
theorem dL_sink_23 : decode cL_sink 23 = .ok (.iconst 2, 1) := by decide +kernel
theorem dL_sink_24 : decode cL_sink 24 = .ok (.ireturn, 1) := by decide +kernel
theorem dL_sink_25 : decode cL_sink 25 = .ok (.iconst 0, 1) := by decide +kernel
theorem dL_sink_26 : decode cL_sink 26 = .ok (.ireturn, 1) := by decide +kernel
set_option maxRecDepth 20000 in
theorem ggL_cut_X3_cut : GoodIn wsL_cut wsX3_cut := goodIn_ca (goodIn_r _ [6, 7, 8, 9, 10, 11, 12, 13, 5, 14, 15, 16, 17, 18, 19, 20, 21, 22, 23, 24, 25, 26] (by decide +kernel) (by decide +kernel)) (goodIn_sub (fun _ h => List.mem_cons_of_mem _ (List.mem_append_right _ h)) (by decide +kernel))
set_option maxRecDepth 20000 in
theorem gL_cut_X3_cut : GoodIn wsL_cut (wsV RL 17 RX3 yX3_cut wsX3_cut) := goodIn_app (goodIn_of _ (by decide +kernel)) ggL_cut_X3_cut
theorem dL_cut_0 : decode cL_cut 0 = .ok (.aload_n 0, 1) := by decide +kernel
theorem dL_cut_1 : decode cL_cut 1 = .ok (.iload_n 1, 1) := by decide +kernel
theorem dL_cut_2 : decode cL_cut 2 = .ok (.invokevirtual 17, 3) := by decide +kernel
theorem dL_cut_5 : decode cL_cut 5 = .ok (.goto 6, 3) := by decide +kernel
theorem dL_cut_8 : decode cL_cut 8 = .ok (.astore_n 2, 1) := by decide +kernel
theorem dL_cut_9 : decode cL_cut 9 = .ok (.iconst 1, 1) := by decide +kernel
theorem dL_cut_10 : decode cL_cut 10 = .ok (.ireturn, 1) := by decide +kernel
theorem dL_cut_11 : decode cL_cut 11 = .ok (.iconst 0, 1) := by decide +kernel
theorem dL_cut_12 : decode cL_cut 12 = .ok (.ireturn, 1) := by decide +kernel
set_option maxRecDepth 20000 in
theorem ggL_source_X3_source : GoodIn wsL_source wsX3_source := goodIn_ca (goodIn_r _ [6, 7, 8, 9, 10, 11, 12, 13, 5, 14, 15, 16, 17, 18, 19, 20, 21, 22, 23, 24] (by decide +kernel) (by decide +kernel)) (goodIn_sub (fun _ h => List.mem_cons_of_mem _ (List.mem_append_right _ h)) (by decide +kernel))
set_option maxRecDepth 20000 in
theorem gL_source_X3_source : GoodIn wsL_source (wsV RL 21 RX3 yX3_source wsX3_source) := goodIn_app (goodIn_of _ (by decide +kernel)) ggL_source_X3_source
theorem dL_source_0 : decode cL_source 0 = .ok (.aload_n 0, 1) := by decide +kernel
theorem dL_source_1 : decode cL_source 1 = .ok (.iload_n 1, 1) := by decide +kernel
theorem dL_source_2 : decode cL_source 2 = .ok (.iload_n 2, 1) := by decide +kernel
theorem dL_source_3 : decode cL_source 3 = .ok (.invokevirtual 21, 3) := by decide +kernel
theorem dL_source_6 : decode cL_source 6 = .ok (.goto 6, 3) := by decide +kernel
theorem dL_source_9 : decode cL_source 9 = .ok (.astore_n 3, 1) := by decide +kernel
theorem dL_source_10 : decode cL_source 10 = .ok (.iconst 1, 1) := by decide +kernel
theorem dL_source_11 : decode cL_source 11 = .ok (.ireturn, 1) := by decide +kernel
theorem dL_source_12 : decode cL_source 12 = .ok (.iconst 0, 1) := by decide +kernel
theorem dL_source_13 : decode cL_source 13 = .ok (.ireturn, 1) := by decide +kernel
set_option maxRecDepth 20000 in
theorem ggL_wires_X3_wires : GoodIn wsL_wires wsX3_wires := goodIn_ca (goodIn_r _ [6, 7, 8, 9, 10, 11, 12, 13, 5, 14, 15, 16, 17, 18, 19, 20, 21, 22, 23, 24, 25, 26, 27, 28, 29, 30, 31] (by decide +kernel) (by decide +kernel)) (goodIn_sub (fun _ h => List.mem_cons_of_mem _ (List.mem_append_right _ h)) (by decide +kernel))
set_option maxRecDepth 20000 in
theorem gL_wires_X3_wires : GoodIn wsL_wires (wsV RL 25 RX3 yX3_wires wsX3_wires) := goodIn_app (goodIn_of _ (by decide +kernel)) ggL_wires_X3_wires
theorem dL_wires_0 : decode cL_wires 0 = .ok (.aload_n 0, 1) := by decide +kernel
theorem dL_wires_1 : decode cL_wires 1 = .ok (.iload_n 1, 1) := by decide +kernel
theorem dL_wires_2 : decode cL_wires 2 = .ok (.iload_n 2, 1) := by decide +kernel
theorem dL_wires_3 : decode cL_wires 3 = .ok (.invokevirtual 25, 3) := by decide +kernel
theorem dL_wires_6 : decode cL_wires 6 = .ok (.goto 6, 3) := by decide +kernel
theorem dL_wires_9 : decode cL_wires 9 = .ok (.astore_n 3, 1) := by decide +kernel
theorem dL_wires_10 : decode cL_wires 10 = .ok (.iconst 1, 1) := by decide +kernel
theorem dL_wires_11 : decode cL_wires 11 = .ok (.ireturn, 1) := by decide +kernel
theorem dL_wires_12 : decode cL_wires 12 = .ok (.iconst 0, 1) := by decide +kernel
theorem dL_wires_13 : decode cL_wires 13 = .ok (.ireturn, 1) := by decide +kernel
set_option maxRecDepth 20000 in
theorem ggL_buffer_X3_buffer : GoodIn wsL_buffer wsX3_buffer := goodIn_ca (goodIn_r _ [6, 7, 8, 9, 10, 11, 12, 13, 14, 15, 16, 5, 17, 18, 19, 20, 21, 22, 23, 24, 25, 26, 27, 28, 29, 30, 31, 32, 33, 34] (by decide +kernel) (by decide +kernel)) (goodIn_sub (fun _ h => List.mem_cons_of_mem _ (List.mem_append_right _ h)) (by decide +kernel))
set_option maxRecDepth 20000 in
theorem gL_buffer_X3_buffer : GoodIn wsL_buffer (wsV RL 28 RX3 yX3_buffer wsX3_buffer) := goodIn_app (goodIn_of _ (by decide +kernel)) ggL_buffer_X3_buffer
theorem dL_buffer_0 : decode cL_buffer 0 = .ok (.aload_n 0, 1) := by decide +kernel
theorem dL_buffer_1 : decode cL_buffer 1 = .ok (.iload_n 1, 1) := by decide +kernel
theorem dL_buffer_2 : decode cL_buffer 2 = .ok (.iload_n 2, 1) := by decide +kernel
theorem dL_buffer_3 : decode cL_buffer 3 = .ok (.iload_n 3, 1) := by decide +kernel
theorem dL_buffer_4 : decode cL_buffer 4 = .ok (.invokevirtual 28, 3) := by decide +kernel
theorem dL_buffer_7 : decode cL_buffer 7 = .ok (.goto 7, 3) := by decide +kernel
theorem dL_buffer_10 : decode cL_buffer 10 = .ok (.astore 4, 2) := by decide +kernel
theorem dL_buffer_12 : decode cL_buffer 12 = .ok (.iconst 1, 1) := by decide +kernel
theorem dL_buffer_13 : decode cL_buffer 13 = .ok (.ireturn, 1) := by decide +kernel
theorem dL_buffer_14 : decode cL_buffer 14 = .ok (.iconst 0, 1) := by decide +kernel
theorem dL_buffer_15 : decode cL_buffer 15 = .ok (.ireturn, 1) := by decide +kernel
set_option maxRecDepth 20000 in
theorem ggL_build_X3_build : GoodIn wsL_build wsX3_build := goodIn_ca (goodIn_ca (goodIn_r _ [7, 8, 9, 10, 11, 12, 13, 14, 15, 16, 17, 18, 19, 20, 21, 6, 22, 23, 24, 25, 26, 27, 28, 29, 30, 31, 32, 33, 34, 35, 36, 37, 38, 39, 40, 41, 42, 43, 44, 45, 46, 47, 48, 49, 50, 51, 52, 53, 54, 55, 56, 57, 58, 59, 60, 61, 62, 63, 64, 65, 66, 67, 68, 69, 70, 71, 72, 73, 74, 75, 76, 77, 78, 79, 80, 81, 82, 83, 84, 85, 86, 87, 88, 89, 90, 91, 92, 93, 94, 95, 96, 97, 98, 99, 100, 101, 102, 103, 104, 105, 106, 107, 108, 109, 110, 111, 112, 113, 114, 115, 116, 117, 118, 119, 120, 121, 122, 123, 124, 125, 126, 127, 128, 129, 130, 131, 132, 133, 134, 135, 136] (by decide +kernel) (by decide +kernel)) (goodIn_sub (fun _ h => List.mem_cons_of_mem _ (List.mem_append_left _ (List.mem_append_right _ h))) (by decide +kernel))) (goodIn_sub (fun _ h => List.mem_cons_of_mem _ (List.mem_append_right _ h)) (by decide +kernel))
set_option maxRecDepth 20000 in
theorem gL_build_X3_build : GoodIn wsL_build (wsV RL 32 RX3 yX3_build wsX3_build) := goodIn_app (goodIn_of _ (by decide +kernel)) ggL_build_X3_build
theorem dL_build_0 : decode cL_build 0 = .ok (.aload_n 2, 1) := by decide +kernel
theorem dL_build_1 : decode cL_build 1 = .ok (.iconst 0, 1) := by decide +kernel
theorem dL_build_2 : decode cL_build 2 = .ok (.aload_n 0, 1) := by decide +kernel
theorem dL_build_3 : decode cL_build 3 = .ok (.iload_n 1, 1) := by decide +kernel
theorem dL_build_4 : decode cL_build 4 = .ok (.invokevirtual 32, 3) := by decide +kernel
theorem dL_build_7 : decode cL_build 7 = .ok (.i2l, 1) := by decide +kernel
theorem dL_build_8 : decode cL_build 8 = .ok (.lastore, 1) := by decide +kernel
theorem dL_build_9 : decode cL_build 9 = .ok (.goto 9, 3) := by decide +kernel
theorem dL_build_12 : decode cL_build 12 = .ok (.astore_n 3, 1) := by decide +kernel
theorem dL_build_13 : decode cL_build 13 = .ok (.iconst 1, 1) := by decide +kernel
theorem dL_build_14 : decode cL_build 14 = .ok (.ireturn, 1) := by decide +kernel
theorem dL_build_15 : decode cL_build 15 = .ok (.astore_n 3, 1) := by decide +kernel
theorem dL_build_16 : decode cL_build 16 = .ok (.iconst 2, 1) := by decide +kernel
theorem dL_build_17 : decode cL_build 17 = .ok (.ireturn, 1) := by decide +kernel
theorem dL_build_18 : decode cL_build 18 = .ok (.iconst 0, 1) := by decide +kernel
theorem dL_build_19 : decode cL_build 19 = .ok (.ireturn, 1) := by decide +kernel
set_option maxRecDepth 20000 in
theorem ggL_node_X3_node : GoodIn wsL_node wsX3_node := goodIn_ca (goodIn_ca (goodIn_r _ [7, 8, 9, 10, 11, 12, 13, 14, 6, 15, 16, 17, 18, 19, 20, 21, 22, 23, 24, 25, 26, 27, 28, 29, 30, 31, 32, 33, 34, 35, 36, 37, 38, 39, 40, 41, 42, 43, 44, 45, 46, 47, 48, 49, 50, 51, 52, 53, 54, 55, 56, 57, 58] (by decide +kernel) (by decide +kernel)) (goodIn_sub (fun _ h => List.mem_cons_of_mem _ (List.mem_append_left _ (List.mem_append_right _ h))) (by decide +kernel))) (goodIn_sub (fun _ h => List.mem_cons_of_mem _ (List.mem_append_right _ h)) (by decide +kernel))
set_option maxRecDepth 20000 in
theorem gL_node_X3_node : GoodIn wsL_node (wsV RL 38 RX3 yX3_node wsX3_node) := goodIn_app (goodIn_of _ (by decide +kernel)) ggL_node_X3_node
theorem dL_node_0 : decode cL_node 0 = .ok (.aload_n 3, 1) := by decide +kernel
theorem dL_node_1 : decode cL_node 1 = .ok (.iconst 0, 1) := by decide +kernel
theorem dL_node_2 : decode cL_node 2 = .ok (.aload_n 0, 1) := by decide +kernel
theorem dL_node_3 : decode cL_node 3 = .ok (.iload_n 1, 1) := by decide +kernel
theorem dL_node_4 : decode cL_node 4 = .ok (.iload_n 2, 1) := by decide +kernel
theorem dL_node_5 : decode cL_node 5 = .ok (.invokevirtual 38, 3) := by decide +kernel
theorem dL_node_8 : decode cL_node 8 = .ok (.i2l, 1) := by decide +kernel
theorem dL_node_9 : decode cL_node 9 = .ok (.lastore, 1) := by decide +kernel
theorem dL_node_10 : decode cL_node 10 = .ok (.goto 11, 3) := by decide +kernel
theorem dL_node_13 : decode cL_node 13 = .ok (.astore 4, 2) := by decide +kernel
theorem dL_node_15 : decode cL_node 15 = .ok (.iconst 1, 1) := by decide +kernel
theorem dL_node_16 : decode cL_node 16 = .ok (.ireturn, 1) := by decide +kernel
theorem dL_node_17 : decode cL_node 17 = .ok (.astore 4, 2) := by decide +kernel
theorem dL_node_19 : decode cL_node 19 = .ok (.iconst 2, 1) := by decide +kernel
theorem dL_node_20 : decode cL_node 20 = .ok (.ireturn, 1) := by decide +kernel
theorem dL_node_21 : decode cL_node 21 = .ok (.iconst 0, 1) := by decide +kernel
theorem dL_node_22 : decode cL_node 22 = .ok (.ireturn, 1) := by decide +kernel
set_option maxRecDepth 20000 in
theorem ggL_length_X3_length : GoodIn wsL_length wsX3_length := goodIn_ca (goodIn_r _ [6, 7, 8, 9, 10, 5, 11, 12, 13, 14, 15, 16, 17, 18, 19, 20, 21, 22, 23, 24, 25, 26, 27, 28, 29, 30, 31, 32, 33, 34, 35, 36, 37, 38, 39, 40, 41, 42] (by decide +kernel) (by decide +kernel)) (goodIn_sub (fun _ h => List.mem_cons_of_mem _ (List.mem_append_right _ h)) (by decide +kernel))
end
section
set_option maxRecDepth 20000 in
theorem gL_length_X3_length : GoodIn wsL_length (wsV RL 46 RX3 yX3_length wsX3_length) := goodIn_app (goodIn_of _ (by decide +kernel)) ggL_length_X3_length
theorem dL_length_0 : decode cL_length 0 = .ok (.aload_n 1, 1) := by decide +kernel
theorem dL_length_1 : decode cL_length 1 = .ok (.iconst 0, 1) := by decide +kernel
theorem dL_length_2 : decode cL_length 2 = .ok (.aload_n 0, 1) := by decide +kernel
theorem dL_length_3 : decode cL_length 3 = .ok (.invokevirtual 46, 3) := by decide +kernel
theorem dL_length_6 : decode cL_length 6 = .ok (.i2l, 1) := by decide +kernel
theorem dL_length_7 : decode cL_length 7 = .ok (.lastore, 1) := by decide +kernel
theorem dL_length_8 : decode cL_length 8 = .ok (.goto 6, 3) := by decide +kernel
theorem dL_length_11 : decode cL_length 11 = .ok (.astore_n 2, 1) := by decide +kernel
theorem dL_length_12 : decode cL_length 12 = .ok (.iconst 1, 1) := by decide +kernel
theorem dL_length_13 : decode cL_length 13 = .ok (.ireturn, 1) := by decide +kernel
theorem dL_length_14 : decode cL_length 14 = .ok (.iconst 0, 1) := by decide +kernel
theorem dL_length_15 : decode cL_length 15 = .ok (.ireturn, 1) := by decide +kernel
set_option maxRecDepth 20000 in
theorem ggL_depth_X3_depth : GoodIn wsL_depth wsX3_depth := goodIn_ca (goodIn_ca (goodIn_r _ [7, 8, 9, 10, 11, 6, 12, 13, 14, 15, 16, 17, 18, 19, 20, 21, 22, 23, 24, 25, 26, 27, 28, 29, 30, 31, 32, 33, 34, 35, 36, 37, 38, 39, 40, 41, 42, 43, 44, 45, 46, 47, 48, 49, 50, 51, 52, 53, 54] (by decide +kernel) (by decide +kernel)) (goodIn_sub (fun _ h => List.mem_cons_of_mem _ (List.mem_append_left _ (List.mem_append_right _ h))) (by decide +kernel))) (goodIn_sub (fun _ h => List.mem_cons_of_mem _ (List.mem_append_right _ h)) (by decide +kernel))
set_option maxRecDepth 20000 in
theorem gL_depth_X3_depth : GoodIn wsL_depth (wsV RL 50 RX3 yX3_depth wsX3_depth) := goodIn_app (goodIn_of _ (by decide +kernel)) ggL_depth_X3_depth
theorem dL_depth_0 : decode cL_depth 0 = .ok (.aload_n 2, 1) := by decide +kernel
theorem dL_depth_1 : decode cL_depth 1 = .ok (.iconst 0, 1) := by decide +kernel
theorem dL_depth_2 : decode cL_depth 2 = .ok (.aload_n 0, 1) := by decide +kernel
theorem dL_depth_3 : decode cL_depth 3 = .ok (.iload_n 1, 1) := by decide +kernel
theorem dL_depth_4 : decode cL_depth 4 = .ok (.invokevirtual 50, 3) := by decide +kernel
theorem dL_depth_7 : decode cL_depth 7 = .ok (.i2l, 1) := by decide +kernel
theorem dL_depth_8 : decode cL_depth 8 = .ok (.lastore, 1) := by decide +kernel
theorem dL_depth_9 : decode cL_depth 9 = .ok (.goto 9, 3) := by decide +kernel
theorem dL_depth_12 : decode cL_depth 12 = .ok (.astore_n 3, 1) := by decide +kernel
theorem dL_depth_13 : decode cL_depth 13 = .ok (.iconst 1, 1) := by decide +kernel
theorem dL_depth_14 : decode cL_depth 14 = .ok (.ireturn, 1) := by decide +kernel
theorem dL_depth_15 : decode cL_depth 15 = .ok (.astore_n 3, 1) := by decide +kernel
theorem dL_depth_16 : decode cL_depth 16 = .ok (.iconst 2, 1) := by decide +kernel
theorem dL_depth_17 : decode cL_depth 17 = .ok (.ireturn, 1) := by decide +kernel
theorem dL_depth_18 : decode cL_depth 18 = .ok (.iconst 0, 1) := by decide +kernel
theorem dL_depth_19 : decode cL_depth 19 = .ok (.ireturn, 1) := by decide +kernel
set_option maxRecDepth 20000 in
theorem ggL_set_X3_set : GoodIn wsL_set wsX3_set := goodIn_ca (goodIn_ca (goodIn_r _ [7, 8, 9, 10, 11, 12, 13, 14, 15, 16, 6, 17, 18, 19, 20, 21, 22, 23, 24, 25, 26, 27, 28, 29, 30, 31, 32, 33, 34, 35, 36, 37, 38, 39, 40, 41, 42, 43, 44, 45, 46, 47, 48, 49, 50] (by decide +kernel) (by decide +kernel)) (goodIn_sub (fun _ h => List.mem_cons_of_mem _ (List.mem_append_left _ (List.mem_append_right _ h))) (by decide +kernel))) (goodIn_sub (fun _ h => List.mem_cons_of_mem _ (List.mem_append_right _ h)) (by decide +kernel))
set_option maxRecDepth 20000 in
theorem gL_set_X3_set : GoodIn wsL_set (wsV RL 53 RX3 yX3_set wsX3_set) := goodIn_app (goodIn_of _ (by decide +kernel)) ggL_set_X3_set
theorem dL_set_0 : decode cL_set 0 = .ok (.aload_n 3, 1) := by decide +kernel
theorem dL_set_1 : decode cL_set 1 = .ok (.iconst 0, 1) := by decide +kernel
theorem dL_set_2 : decode cL_set 2 = .ok (.aload_n 0, 1) := by decide +kernel
theorem dL_set_3 : decode cL_set 3 = .ok (.iload_n 1, 1) := by decide +kernel
theorem dL_set_4 : decode cL_set 4 = .ok (.iload_n 2, 1) := by decide +kernel
theorem dL_set_5 : decode cL_set 5 = .ok (.invokevirtual 53, 3) := by decide +kernel
theorem dL_set_8 : decode cL_set 8 = .ok (.ifCond .eq 7, 3) := by decide +kernel
theorem dL_set_11 : decode cL_set 11 = .ok (.lconst 1, 1) := by decide +kernel
theorem dL_set_12 : decode cL_set 12 = .ok (.goto 4, 3) := by decide +kernel
theorem dL_set_15 : decode cL_set 15 = .ok (.lconst 0, 1) := by decide +kernel
theorem dL_set_16 : decode cL_set 16 = .ok (.lastore, 1) := by decide +kernel
theorem dL_set_17 : decode cL_set 17 = .ok (.goto 11, 3) := by decide +kernel
theorem dL_set_20 : decode cL_set 20 = .ok (.astore 4, 2) := by decide +kernel
theorem dL_set_22 : decode cL_set 22 = .ok (.iconst 1, 1) := by decide +kernel
theorem dL_set_23 : decode cL_set 23 = .ok (.ireturn, 1) := by decide +kernel
theorem dL_set_24 : decode cL_set 24 = .ok (.astore 4, 2) := by decide +kernel
theorem dL_set_26 : decode cL_set 26 = .ok (.iconst 2, 1) := by decide +kernel
theorem dL_set_27 : decode cL_set 27 = .ok (.ireturn, 1) := by decide +kernel
theorem dL_set_28 : decode cL_set 28 = .ok (.iconst 0, 1) := by decide +kernel
theorem dL_set_29 : decode cL_set 29 = .ok (.ireturn, 1) := by decide +kernel
set_option maxRecDepth 20000 in
theorem ggL_setting_X3_setting : GoodIn wsL_setting wsX3_setting := goodIn_ca (goodIn_r _ [6, 7, 8, 9, 10, 5, 11, 12, 13, 14, 15, 16, 17, 18, 19, 20, 21] (by decide +kernel) (by decide +kernel)) (goodIn_sub (fun _ h => List.mem_cons_of_mem _ (List.mem_append_right _ h)) (by decide +kernel))
set_option maxRecDepth 20000 in
theorem gL_setting_X3_setting : GoodIn wsL_setting (wsV RL 57 RX3 yX3_setting wsX3_setting) := goodIn_app (goodIn_of _ (by decide +kernel)) ggL_setting_X3_setting
theorem dL_setting_0 : decode cL_setting 0 = .ok (.aload_n 1, 1) := by decide +kernel
theorem dL_setting_1 : decode cL_setting 1 = .ok (.iconst 0, 1) := by decide +kernel
theorem dL_setting_2 : decode cL_setting 2 = .ok (.aload_n 0, 1) := by decide +kernel
theorem dL_setting_3 : decode cL_setting 3 = .ok (.invokevirtual 57, 3) := by decide +kernel
theorem dL_setting_6 : decode cL_setting 6 = .ok (.i2l, 1) := by decide +kernel
theorem dL_setting_7 : decode cL_setting 7 = .ok (.lastore, 1) := by decide +kernel
theorem dL_setting_8 : decode cL_setting 8 = .ok (.goto 6, 3) := by decide +kernel
theorem dL_setting_11 : decode cL_setting 11 = .ok (.astore_n 2, 1) := by decide +kernel
theorem dL_setting_12 : decode cL_setting 12 = .ok (.iconst 1, 1) := by decide +kernel
theorem dL_setting_13 : decode cL_setting 13 = .ok (.ireturn, 1) := by decide +kernel
theorem dL_setting_14 : decode cL_setting 14 = .ok (.iconst 0, 1) := by decide +kernel
theorem dL_setting_15 : decode cL_setting 15 = .ok (.ireturn, 1) := by decide +kernel
set_option maxRecDepth 20000 in
theorem ggL_load_X3_load : GoodIn wsL_load wsX3_load := goodIn_ca (goodIn_ca (goodIn_r _ [7, 8, 9, 10, 11, 12, 13, 14, 15, 16, 17, 18, 19, 6, 20, 21, 22, 23, 24, 25, 26, 27, 28, 29, 30, 31, 32, 33, 34, 35, 36, 37, 38, 39, 40, 41, 42, 43, 44, 45, 46, 47, 48, 49, 50, 51, 52, 53, 54, 55, 56, 57, 58, 59, 60, 61, 62, 63, 64, 65, 66, 67, 68, 69, 70, 71, 72, 73, 74, 75, 76, 77, 78, 79, 80, 81, 82, 83, 84, 85, 86, 87, 88, 89, 90, 91, 92, 93, 94, 95, 96, 97, 98, 99, 100, 101, 102, 103, 104, 105, 106, 107, 108, 109, 110, 111, 112, 113, 114, 115, 116, 117, 118, 119] (by decide +kernel) (by decide +kernel)) (goodIn_sub (fun _ h => List.mem_cons_of_mem _ (List.mem_append_left _ (List.mem_append_right _ h))) (by decide +kernel))) (goodIn_sub (fun _ h => List.mem_cons_of_mem _ (List.mem_append_right _ h)) (by decide +kernel))
set_option maxRecDepth 20000 in
theorem gL_load_X3_load : GoodIn wsL_load (wsV RL 60 RX3 yX3_load wsX3_load) := goodIn_app (goodIn_of _ (by decide +kernel)) ggL_load_X3_load
theorem dL_load_0 : decode cL_load 0 = .ok (.aload_n 3, 1) := by decide +kernel
theorem dL_load_1 : decode cL_load 1 = .ok (.iconst 0, 1) := by decide +kernel
theorem dL_load_2 : decode cL_load 2 = .ok (.aload_n 0, 1) := by decide +kernel
theorem dL_load_3 : decode cL_load 3 = .ok (.iload_n 1, 1) := by decide +kernel
theorem dL_load_4 : decode cL_load 4 = .ok (.iload_n 2, 1) := by decide +kernel
theorem dL_load_5 : decode cL_load 5 = .ok (.invokevirtual 60, 3) := by decide +kernel
theorem dL_load_8 : decode cL_load 8 = .ok (.lastore, 1) := by decide +kernel
theorem dL_load_9 : decode cL_load 9 = .ok (.goto 11, 3) := by decide +kernel
theorem dL_load_12 : decode cL_load 12 = .ok (.astore 4, 2) := by decide +kernel
theorem dL_load_14 : decode cL_load 14 = .ok (.iconst 1, 1) := by decide +kernel
theorem dL_load_15 : decode cL_load 15 = .ok (.ireturn, 1) := by decide +kernel
theorem dL_load_16 : decode cL_load 16 = .ok (.astore 4, 2) := by decide +kernel
theorem dL_load_18 : decode cL_load 18 = .ok (.iconst 2, 1) := by decide +kernel
theorem dL_load_19 : decode cL_load 19 = .ok (.ireturn, 1) := by decide +kernel
theorem dL_load_20 : decode cL_load 20 = .ok (.iconst 0, 1) := by decide +kernel
theorem dL_load_21 : decode cL_load 21 = .ok (.ireturn, 1) := by decide +kernel
set_option maxRecDepth 20000 in
theorem ggL_delay_X3_delay : GoodIn wsL_delay wsX3_delay := goodIn_ca (goodIn_ca (goodIn_r _ [7, 8, 9, 10, 11, 12, 13, 14, 6, 15, 16, 17, 18, 19, 20, 21, 22, 23, 24, 25, 26, 27, 28, 29, 30, 31, 32, 33, 34, 35, 36, 37, 38, 39, 40, 41, 42, 43, 44, 45, 46, 47, 48, 49, 50, 51, 52, 53, 54, 55, 56, 57, 58, 59, 60, 61, 62, 63, 64, 65, 66, 67, 68, 69, 70, 71, 72, 73, 74, 75, 76, 77, 78, 79, 80, 81, 82, 83, 84, 85, 86, 87, 88, 89, 90, 91, 92, 93, 94, 95, 96, 97, 98, 99, 100, 101, 102, 103, 104, 105, 106, 107, 108, 109, 110, 111, 112, 113, 114, 115, 116, 117, 118, 119, 120, 121, 122, 123, 124, 125, 126] (by decide +kernel) (by decide +kernel)) (goodIn_sub (fun _ h => List.mem_cons_of_mem _ (List.mem_append_left _ (List.mem_append_right _ h))) (by decide +kernel))) (goodIn_sub (fun _ h => List.mem_cons_of_mem _ (List.mem_append_right _ h)) (by decide +kernel))
set_option maxRecDepth 20000 in
theorem gL_delay_X3_delay : GoodIn wsL_delay (wsV RL 64 RX3 yX3_delay wsX3_delay) := goodIn_app (goodIn_of _ (by decide +kernel)) ggL_delay_X3_delay
theorem dL_delay_0 : decode cL_delay 0 = .ok (.aload_n 2, 1) := by decide +kernel
theorem dL_delay_1 : decode cL_delay 1 = .ok (.iconst 0, 1) := by decide +kernel
theorem dL_delay_2 : decode cL_delay 2 = .ok (.aload_n 0, 1) := by decide +kernel
theorem dL_delay_3 : decode cL_delay 3 = .ok (.iload_n 1, 1) := by decide +kernel
theorem dL_delay_4 : decode cL_delay 4 = .ok (.invokevirtual 64, 3) := by decide +kernel
theorem dL_delay_7 : decode cL_delay 7 = .ok (.lastore, 1) := by decide +kernel
theorem dL_delay_8 : decode cL_delay 8 = .ok (.goto 9, 3) := by decide +kernel
theorem dL_delay_11 : decode cL_delay 11 = .ok (.astore_n 3, 1) := by decide +kernel
theorem dL_delay_12 : decode cL_delay 12 = .ok (.iconst 1, 1) := by decide +kernel
theorem dL_delay_13 : decode cL_delay 13 = .ok (.ireturn, 1) := by decide +kernel
theorem dL_delay_14 : decode cL_delay 14 = .ok (.astore_n 3, 1) := by decide +kernel
theorem dL_delay_15 : decode cL_delay 15 = .ok (.iconst 2, 1) := by decide +kernel
theorem dL_delay_16 : decode cL_delay 16 = .ok (.ireturn, 1) := by decide +kernel
theorem dL_delay_17 : decode cL_delay 17 = .ok (.iconst 0, 1) := by decide +kernel
theorem dL_delay_18 : decode cL_delay 18 = .ok (.ireturn, 1) := by decide +kernel
set_option maxRecDepth 20000 in
theorem ggL_slack_X3_slack : GoodIn wsL_slack wsX3_slack := goodIn_ca (goodIn_r _ [6, 7, 8, 9, 10, 11, 12, 13, 5, 14, 15, 16, 17, 18, 19, 20, 21, 22, 23, 24, 25, 26, 27, 28, 29, 30, 31, 32, 33, 34, 35, 36, 37, 38, 39, 40, 41, 42, 43, 44, 45, 46, 47, 48, 49, 50, 51, 52, 53, 54, 55, 56, 57, 58, 59, 60, 61, 62, 63, 64, 65, 66, 67, 68, 69, 70, 71, 72, 73, 74, 75, 76, 77, 78, 79, 80, 81, 82, 83, 84, 85, 86, 87, 88, 89, 90, 91, 92, 93, 94, 95, 96, 97, 98, 99, 100, 101, 102, 103, 104, 105, 106, 107, 108, 109, 110, 111, 112, 113, 114] (by decide +kernel) (by decide +kernel)) (goodIn_sub (fun _ h => List.mem_cons_of_mem _ (List.mem_append_right _ h)) (by decide +kernel))
set_option maxRecDepth 20000 in
theorem gL_slack_X3_slack : GoodIn wsL_slack (wsV RL 68 RX3 yX3_slack wsX3_slack) := goodIn_app (goodIn_of _ (by decide +kernel)) ggL_slack_X3_slack
theorem dL_slack_0 : decode cL_slack 0 = .ok (.aload_n 1, 1) := by decide +kernel
theorem dL_slack_1 : decode cL_slack 1 = .ok (.iconst 0, 1) := by decide +kernel
theorem dL_slack_2 : decode cL_slack 2 = .ok (.aload_n 0, 1) := by decide +kernel
theorem dL_slack_3 : decode cL_slack 3 = .ok (.invokevirtual 68, 3) := by decide +kernel
theorem dL_slack_6 : decode cL_slack 6 = .ok (.lastore, 1) := by decide +kernel
theorem dL_slack_7 : decode cL_slack 7 = .ok (.goto 6, 3) := by decide +kernel
theorem dL_slack_10 : decode cL_slack 10 = .ok (.astore_n 2, 1) := by decide +kernel
theorem dL_slack_11 : decode cL_slack 11 = .ok (.iconst 1, 1) := by decide +kernel
theorem dL_slack_12 : decode cL_slack 12 = .ok (.ireturn, 1) := by decide +kernel
theorem dL_slack_13 : decode cL_slack 13 = .ok (.iconst 0, 1) := by decide +kernel
theorem dL_slack_14 : decode cL_slack 14 = .ok (.ireturn, 1) := by decide +kernel
set_option maxRecDepth 20000 in
theorem ggL_best_X3_best : GoodIn wsL_best wsX3_best := goodIn_ca (goodIn_r _ [6, 7, 8, 9, 10, 11, 12, 13, 5, 14, 15, 16, 17, 18, 19, 20, 21, 22, 23, 24, 25, 26, 27, 28, 29, 30, 31, 32, 33, 34, 35, 36, 37, 38, 39, 40, 41, 42, 43, 44, 45, 46, 47, 48, 49, 50, 51, 52, 53, 54, 55, 56, 57, 58, 59, 60, 61, 62, 63, 64, 65, 66, 67, 68, 69, 70, 71, 72, 73, 74, 75, 76, 77, 78, 79, 80, 81, 82, 83, 84, 85, 86, 87, 88, 89, 90, 91, 92, 93, 94, 95, 96, 97, 98, 99, 100, 101, 102, 103, 104, 105, 106, 107, 108, 109, 110, 111, 112, 113, 114, 115, 116, 117, 118, 119, 120, 121, 122, 123] (by decide +kernel) (by decide +kernel)) (goodIn_sub (fun _ h => List.mem_cons_of_mem _ (List.mem_append_right _ h)) (by decide +kernel))
set_option maxRecDepth 20000 in
theorem gL_best_X3_best : GoodIn wsL_best (wsV RL 72 RX3 yX3_best wsX3_best) := goodIn_app (goodIn_of _ (by decide +kernel)) ggL_best_X3_best
theorem dL_best_0 : decode cL_best 0 = .ok (.aload_n 1, 1) := by decide +kernel
theorem dL_best_1 : decode cL_best 1 = .ok (.iconst 0, 1) := by decide +kernel
theorem dL_best_2 : decode cL_best 2 = .ok (.aload_n 0, 1) := by decide +kernel
theorem dL_best_3 : decode cL_best 3 = .ok (.invokevirtual 72, 3) := by decide +kernel
theorem dL_best_6 : decode cL_best 6 = .ok (.lastore, 1) := by decide +kernel
theorem dL_best_7 : decode cL_best 7 = .ok (.goto 6, 3) := by decide +kernel
theorem dL_best_10 : decode cL_best 10 = .ok (.astore_n 2, 1) := by decide +kernel
theorem dL_best_11 : decode cL_best 11 = .ok (.iconst 1, 1) := by decide +kernel
theorem dL_best_12 : decode cL_best 12 = .ok (.ireturn, 1) := by decide +kernel
theorem dL_best_13 : decode cL_best 13 = .ok (.iconst 0, 1) := by decide +kernel
theorem dL_best_14 : decode cL_best 14 = .ok (.ireturn, 1) := by decide +kernel
set_option maxRecDepth 20000 in
theorem ggL_improve_X3_improve : GoodIn wsL_improve wsX3_improve := goodIn_ca (goodIn_r _ [6, 7, 8, 9, 10, 11, 12, 13, 14, 5, 15, 16, 17, 18, 19, 20, 21, 22, 23, 24, 25, 26, 27, 28, 29, 30, 31, 32, 33, 34, 35, 36, 37, 38, 39, 40, 41, 42, 43, 44, 45, 46, 47, 48, 49, 50, 51, 52, 53, 54, 55, 56, 57, 58, 59, 60, 61, 62, 63, 64, 65, 66, 67, 68, 69, 70, 71, 72, 73, 74, 75, 76, 77, 78, 79, 80, 81, 82, 83, 84, 85, 86, 87, 88, 89, 90, 91, 92, 93, 94, 95, 96, 97, 98, 99, 100, 101, 102, 103, 104, 105, 106, 107, 108, 109, 110, 111, 112, 113, 114, 115, 116, 117, 118, 119, 120, 121, 122, 123, 124] (by decide +kernel) (by decide +kernel)) (goodIn_sub (fun _ h => List.mem_cons_of_mem _ (List.mem_append_right _ h)) (by decide +kernel))
set_option maxRecDepth 20000 in
theorem gL_improve_X3_improve : GoodIn wsL_improve (wsV RL 75 RX3 yX3_improve wsX3_improve) := goodIn_app (goodIn_of _ (by decide +kernel)) ggL_improve_X3_improve
theorem dL_improve_0 : decode cL_improve 0 = .ok (.aload_n 1, 1) := by decide +kernel
theorem dL_improve_1 : decode cL_improve 1 = .ok (.iconst 0, 1) := by decide +kernel
theorem dL_improve_2 : decode cL_improve 2 = .ok (.aload_n 0, 1) := by decide +kernel
theorem dL_improve_3 : decode cL_improve 3 = .ok (.invokevirtual 75, 3) := by decide +kernel
theorem dL_improve_6 : decode cL_improve 6 = .ok (.i2l, 1) := by decide +kernel
theorem dL_improve_7 : decode cL_improve 7 = .ok (.lastore, 1) := by decide +kernel
theorem dL_improve_8 : decode cL_improve 8 = .ok (.goto 6, 3) := by decide +kernel
theorem dL_improve_11 : decode cL_improve 11 = .ok (.astore_n 2, 1) := by decide +kernel
theorem dL_improve_12 : decode cL_improve 12 = .ok (.iconst 1, 1) := by decide +kernel
theorem dL_improve_13 : decode cL_improve 13 = .ok (.ireturn, 1) := by decide +kernel
theorem dL_improve_14 : decode cL_improve 14 = .ok (.iconst 0, 1) := by decide +kernel
theorem dL_improve_15 : decode cL_improve 15 = .ok (.ireturn, 1) := by decide +kernel
set_option maxRecDepth 20000 in
theorem ggL_law_X3_init : GoodIn wsL_law wsX3_init := goodIn_r _ [9, 10, 11, 12, 13, 14, 15, 16, 17, 18, 19, 20, 21, 22, 23, 24, 25, 26, 27, 28, 29, 30, 31, 32, 33, 34, 35, 36, 37, 38, 39, 40, 41, 42, 43, 44, 45, 46, 47, 48, 49, 50, 51, 52, 53, 54, 55, 56, 57, 6, 58, 59, 60, 61, 62, 63, 64, 65, 66, 67, 626, 627, 628, 629, 630, 582, 583, 584, 585, 586, 587, 588, 631, 632, 633, 634, 635, 636, 637, 638, 639, 640, 641, 642, 643, 644, 645, 646, 647, 648, 649, 650, 651, 652, 653, 654] (by decide +kernel) (by decide +kernel)
set_option maxRecDepth 20000 in
theorem gL_law_X3_init : GoodIn wsL_law (wsX3_init) := ggL_law_X3_init
set_option maxRecDepth 20000 in
theorem ggL_law_X4_init : GoodIn wsL_law wsX4_init := goodIn_r _ [70, 71, 11, 12, 32, 72, 73, 74, 75, 76, 77, 78, 79, 80, 81, 82, 83, 84, 85, 86, 87, 88, 89, 90, 91, 92, 93, 94, 95, 96, 97, 98, 99, 6, 100, 101, 589, 590, 591, 592, 593, 594, 595, 596, 597, 598, 599, 600, 601, 602, 603, 604, 605, 606, 607, 608, 609, 610, 611, 612, 613, 614, 615, 616, 617, 618, 619, 620, 621, 622, 623, 624, 625] (by decide +kernel) (by decide +kernel)
set_option maxRecDepth 20000 in
theorem gL_law_X4_init : GoodIn wsL_law (wsX4_init) := ggL_law_X4_init
set_option maxRecDepth 20000 in
theorem ggL_law_L_sink : GoodIn wsL_law wsL_sink := goodIn_ca (goodIn_ca (goodIn_r _ [105, 106, 107, 108, 109, 110, 2, 111, 112, 113, 114, 115, 116, 16, 117, 27, 118, 119, 120, 121, 122, 123, 124, 125, 126, 15, 127, 37, 33, 34, 35, 36, 582, 583, 584, 585, 586, 587, 588, 626, 627, 628, 629, 630] (by decide +kernel) (by decide +kernel)) (goodIn_sub (fun _ h => List.mem_append_left _ (List.mem_append_left _ (List.mem_append_left _ (List.mem_append_left _ (List.mem_append_right _ h))))) (by decide +kernel))) (goodIn_sub (fun _ h => List.mem_append_left _ (List.mem_append_left _ (List.mem_append_left _ (List.mem_append_right _ h)))) (by decide +kernel))
set_option maxRecDepth 20000 in
theorem gL_law_L_sink : GoodIn wsL_law (va_wsS RL 82 yL_sink wsL_sink) := goodIn_app (goodIn_of _ (by decide +kernel)) ggL_law_L_sink
set_option maxRecDepth 20000 in
theorem ggL_law_X4_sink : GoodIn wsL_law wsX4_sink := goodIn_r _ [131, 132, 133, 134, 72, 73, 74, 75, 135, 136, 137, 5, 138, 139, 140, 141, 589, 590, 591, 592, 593, 594, 595, 596, 597, 598, 599, 600, 601, 602, 603, 604, 605, 606, 607, 608, 609, 610, 611, 612, 613, 614, 615, 616, 617, 618, 619, 620, 621, 622, 623, 624, 625] (by decide +kernel) (by decide +kernel)
set_option maxRecDepth 20000 in
theorem gL_law_X4_sink : GoodIn wsL_law (wsV RL 87 RX4 yX4_sink wsX4_sink) := goodIn_app (goodIn_of _ (by decide +kernel)) ggL_law_X4_sink
set_option maxRecDepth 20000 in
theorem ggL_law_X4_thrown : GoodIn wsL_law wsX4_thrown := goodIn_r _ [145, 134, 589, 590, 591, 592, 593, 594, 595, 596, 597, 598, 599, 600, 601, 602, 603, 604, 605, 606, 607, 608, 609, 610, 611, 612, 613, 614, 615, 616, 617, 618, 619, 620, 621, 622, 623, 624, 625] (by decide +kernel) (by decide +kernel)
set_option maxRecDepth 20000 in
theorem gL_law_X4_thrown : GoodIn wsL_law (wsV RL 88 RX4 yX4_thrown wsX4_thrown) := goodIn_app (goodIn_of _ (by decide +kernel)) ggL_law_X4_thrown
set_option maxRecDepth 20000 in
theorem ggL_law_L_cut : GoodIn wsL_law wsL_cut := goodIn_ca (goodIn_r _ [148, 106, 149, 150, 151, 2, 152, 112, 113, 16, 117, 27, 121, 122, 123, 582, 583, 584, 585, 586, 587, 588, 626, 627, 628, 629, 630] (by decide +kernel) (by decide +kernel)) (goodIn_sub (fun _ h => List.mem_append_left _ (List.mem_append_left _ (List.mem_append_left _ (List.mem_append_left _ (List.mem_append_right _ h))))) (by decide +kernel))
set_option maxRecDepth 20000 in
theorem gL_law_L_cut : GoodIn wsL_law (va_wsS RL 91 yL_cut wsL_cut) := goodIn_app (goodIn_of _ (by decide +kernel)) ggL_law_L_cut
set_option maxRecDepth 20000 in
theorem ggL_law_X4_cut : GoodIn wsL_law wsX4_cut := goodIn_r _ [156, 133, 134, 135, 139, 140, 5, 141, 589, 590, 591, 592, 593, 594, 595, 596, 597, 598, 599, 600, 601, 602, 603, 604, 605, 606, 607, 608, 609, 610, 611, 612, 613, 614, 615, 616, 617, 618, 619, 620, 621, 622, 623, 624, 625] (by decide +kernel) (by decide +kernel)
set_option maxRecDepth 20000 in
theorem gL_law_X4_cut : GoodIn wsL_law (wsV RL 94 RX4 yX4_cut wsX4_cut) := goodIn_app (goodIn_of _ (by decide +kernel)) ggL_law_X4_cut
set_option maxRecDepth 20000 in
theorem ggL_law_L_source : GoodIn wsL_law wsL_source := goodIn_ca (goodIn_r _ [159, 106, 160, 161, 162, 2, 163, 112, 113, 27, 25, 26, 118, 119, 120, 121, 122, 123, 582, 583, 584, 585, 586, 587, 588] (by decide +kernel) (by decide +kernel)) (goodIn_sub (fun _ h => List.mem_append_left _ (List.mem_append_left _ (List.mem_append_left _ (List.mem_append_left _ (List.mem_append_right _ h))))) (by decide +kernel))
set_option maxRecDepth 20000 in
theorem gL_law_L_source : GoodIn wsL_law (va_wsS RL 95 yL_source wsL_source) := goodIn_app (goodIn_of _ (by decide +kernel)) ggL_law_L_source
set_option maxRecDepth 20000 in
theorem ggL_law_X4_source : GoodIn wsL_law wsX4_source := goodIn_r _ [167, 134, 168, 169, 135, 136, 137, 5, 138, 589, 590, 591, 592, 593, 594, 595, 596, 597, 598, 599, 600, 601, 602, 603, 604, 605, 606, 607, 608, 609, 610, 611, 612, 613, 614, 615, 616, 617, 618, 619, 620, 621, 622, 623, 624, 625] (by decide +kernel) (by decide +kernel)
set_option maxRecDepth 20000 in
theorem gL_law_X4_source : GoodIn wsL_law (wsV RL 98 RX4 yX4_source wsX4_source) := goodIn_app (goodIn_of _ (by decide +kernel)) ggL_law_X4_source
set_option maxRecDepth 20000 in
theorem ggL_law_L_wires : GoodIn wsL_law wsL_wires := goodIn_ca (goodIn_r _ [172, 106, 173, 174, 175, 2, 176, 112, 113, 24, 177, 178, 121, 122, 123, 582, 583, 584, 585, 586, 587, 588, 645, 646, 647, 648, 649, 650, 651, 652, 653, 654] (by decide +kernel) (by decide +kernel)) (goodIn_sub (fun _ h => List.mem_append_left _ (List.mem_append_left _ (List.mem_append_left _ (List.mem_append_left _ (List.mem_append_right _ h))))) (by decide +kernel))
set_option maxRecDepth 20000 in
theorem gL_law_L_wires : GoodIn wsL_law (va_wsS RL 99 yL_wires wsL_wires) := goodIn_app (goodIn_of _ (by decide +kernel)) ggL_law_L_wires
set_option maxRecDepth 20000 in
theorem ggL_law_X4_wires : GoodIn wsL_law wsX4_wires := goodIn_r _ [182, 134, 76, 77, 139, 140, 5, 141, 589, 590, 591, 592, 593, 594, 595, 596, 597, 598, 599, 600, 601, 602, 603, 604, 605, 606, 607, 608, 609, 610, 611, 612, 613, 614, 615, 616, 617, 618, 619, 620, 621, 622, 623, 624, 625] (by decide +kernel) (by decide +kernel)
set_option maxRecDepth 20000 in
theorem gL_law_X4_wires : GoodIn wsL_law (wsV RL 101 RX4 yX4_wires wsX4_wires) := goodIn_app (goodIn_of _ (by decide +kernel)) ggL_law_X4_wires
set_option maxRecDepth 20000 in
theorem ggL_law_L_buffer : GoodIn wsL_law wsL_buffer := goodIn_ca (goodIn_r _ [185, 106, 186, 187, 188, 2, 189, 112, 113, 190, 116, 24, 191, 192, 193, 121, 122, 123, 582, 583, 584, 585, 586, 587, 588, 645, 646, 647, 648, 649, 650, 651, 652, 653, 654] (by decide +kernel) (by decide +kernel)) (goodIn_sub (fun _ h => List.mem_append_left _ (List.mem_append_left _ (List.mem_append_left _ (List.mem_append_left _ (List.mem_append_right _ h))))) (by decide +kernel))
set_option maxRecDepth 20000 in
theorem gL_law_L_buffer : GoodIn wsL_law (va_wsS RL 102 yL_buffer wsL_buffer) := goodIn_app (goodIn_of _ (by decide +kernel)) ggL_law_L_buffer
set_option maxRecDepth 20000 in
theorem ggL_law_X4_buffer : GoodIn wsL_law wsX4_buffer := goodIn_r _ [197, 198, 132, 134, 78, 79, 199, 139, 140, 5, 141, 589, 590, 591, 592, 593, 594, 595, 596, 597, 598, 599, 600, 601, 602, 603, 604, 605, 606, 607, 608, 609, 610, 611, 612, 613, 614, 615, 616, 617, 618, 619, 620, 621, 622, 623, 624, 625] (by decide +kernel) (by decide +kernel)
set_option maxRecDepth 20000 in
theorem gL_law_X4_buffer : GoodIn wsL_law (wsV RL 105 RX4 yX4_buffer wsX4_buffer) := goodIn_app (goodIn_of _ (by decide +kernel)) ggL_law_X4_buffer
set_option maxRecDepth 20000 in
theorem ggL_law_X3_sinks : GoodIn wsL_law wsX3_sinks := goodIn_r _ [203, 16, 117, 582, 583, 584, 585, 586, 587, 588, 626, 627, 628, 629, 630] (by decide +kernel) (by decide +kernel)
set_option maxRecDepth 20000 in
theorem gL_law_X3_sinks : GoodIn wsL_law (wsV RL 106 RX3 yX3_sinks wsX3_sinks) := goodIn_app (goodIn_of _ (by decide +kernel)) ggL_law_X3_sinks
set_option maxRecDepth 20000 in
theorem ggL_law_X4_sinks : GoodIn wsL_law wsX4_sinks := goodIn_r _ [207, 134, 133, 589, 590, 591, 592, 593, 594, 595, 596, 597, 598, 599, 600, 601, 602, 603, 604, 605, 606, 607, 608, 609, 610, 611, 612, 613, 614, 615, 616, 617, 618, 619, 620, 621, 622, 623, 624, 625] (by decide +kernel) (by decide +kernel)
set_option maxRecDepth 20000 in
theorem gL_law_X4_sinks : GoodIn wsL_law (wsV RL 109 RX4 yX4_sinks wsX4_sinks) := goodIn_app (goodIn_of _ (by decide +kernel)) ggL_law_X4_sinks
set_option maxRecDepth 20000 in
theorem ggL_law_L_build : GoodIn wsL_law wsL_build := goodIn_ca (goodIn_ca (goodIn_r _ [210, 106, 211, 212, 213, 214, 2, 215, 112, 113, 216, 217, 16, 117, 20, 25, 26, 27, 28, 218, 121, 122, 123, 219, 220, 221, 19, 222, 223, 53, 54, 224, 225, 41, 42, 43, 44, 45, 46, 47, 48, 226, 227, 228, 229, 230, 231, 232, 233, 234, 235, 236, 237, 238, 239, 240, 241, 242, 243, 244, 245, 246, 247, 248, 249, 250, 251, 252, 253, 49, 254, 255, 256, 257, 258, 259, 260, 261, 262, 263, 264, 52, 265, 266, 267, 268, 269, 270, 271, 272, 273, 274, 15, 275, 33, 34, 276, 277, 278, 279, 280, 281, 50, 282, 283, 284, 51, 285, 286, 287, 288, 582, 583, 584, 585, 586, 587, 588, 626, 627, 628, 629, 630, 631, 632, 633, 634, 635, 636, 637, 638, 639, 640, 641, 642, 643, 644] (by decide +kernel) (by decide +kernel)) (goodIn_sub (fun _ h => List.mem_append_left _ (List.mem_append_left _ (List.mem_append_left _ (List.mem_append_left _ (List.mem_append_right _ h))))) (by decide +kernel))) (goodIn_sub (fun _ h => List.mem_append_left _ (List.mem_append_left _ (List.mem_append_right _ h))) (by decide +kernel))
set_option maxRecDepth 20000 in
theorem gL_law_L_build : GoodIn wsL_law (va_wsS RL 110 yL_build wsL_build) := goodIn_app (goodIn_of _ (by decide +kernel)) ggL_law_L_build
set_option maxRecDepth 20000 in
theorem ggL_law_X4_build : GoodIn wsL_law wsX4_build := goodIn_r _ [292, 133, 134, 293, 135, 294, 295, 296, 5, 297, 72, 73, 80, 81, 82, 87, 93, 92, 298, 299, 300, 301, 83, 84, 85, 86, 302, 303, 304, 305, 94, 306, 95, 96, 98, 97, 99, 307, 308, 309, 310, 311, 312, 313, 314, 315, 316, 317, 318, 319, 320, 321, 322, 88, 323, 324, 325, 326, 327, 328, 329, 330, 331, 332, 333, 334, 335, 336, 337, 338, 339, 340, 341, 342, 343, 168, 169, 89, 90, 344, 345, 346, 589, 590, 591, 592, 593, 594, 595, 596, 597, 598, 599, 600, 601, 602, 603, 604, 605, 606, 607, 608, 609, 610, 611, 612, 613, 614, 615, 616, 617, 618, 619, 620, 621, 622, 623, 624, 625] (by decide +kernel) (by decide +kernel)
set_option maxRecDepth 20000 in
theorem gL_law_X4_build : GoodIn wsL_law (wsV RL 113 RX4 yX4_build wsX4_build) := goodIn_app (goodIn_of _ (by decide +kernel)) ggL_law_X4_build
set_option maxRecDepth 20000 in
theorem ggL_law_L_node : GoodIn wsL_law wsL_node := goodIn_ca (goodIn_ca (goodIn_r _ [349, 350, 351, 352, 353, 354, 2, 355, 356, 357, 20, 218, 358, 359, 360, 361, 362, 363, 27, 121, 122, 123, 364, 365, 366, 19, 367, 41, 42, 43, 44, 45, 46, 47, 48, 49, 50, 51, 582, 583, 584, 585, 586, 587, 588, 631, 632, 633, 634, 635, 636, 637, 638, 639, 640, 641, 642, 643, 644] (by decide +kernel) (by decide +kernel)) (goodIn_sub (fun _ h => List.mem_append_left _ (List.mem_append_right _ h)) (by decide +kernel))) (goodIn_sub (fun _ h => List.mem_append_right _ h) (by decide +kernel))
set_option maxRecDepth 20000 in
theorem gL_law_L_node : GoodIn wsL_law (va_wsS RL 114 yL_node wsL_node) := goodIn_app (goodIn_of _ (by decide +kernel)) ggL_law_L_node
set_option maxRecDepth 20000 in
theorem ggL_law_X4_node : GoodIn wsL_law wsX4_node := goodIn_r _ [371, 135, 134, 80, 81, 82, 83, 84, 85, 86, 87, 88, 89, 90, 372, 373, 374, 5, 375, 293, 589, 590, 591, 592, 593, 594, 595, 596, 597, 598, 599, 600, 601, 602, 603, 604, 605, 606, 607, 608, 609, 610, 611, 612, 613, 614, 615, 616, 617, 618, 619, 620, 621, 622, 623, 624, 625] (by decide +kernel) (by decide +kernel)
set_option maxRecDepth 20000 in
theorem gL_law_X4_node : GoodIn wsL_law (wsV RL 117 RX4 yX4_node wsX4_node) := goodIn_app (goodIn_of _ (by decide +kernel)) ggL_law_X4_node
set_option maxRecDepth 20000 in
theorem ggL_law_L_length : GoodIn wsL_law wsL_length := goodIn_ca (goodIn_r _ [378, 350, 379, 380, 381, 2, 382, 20, 358, 359, 360, 361, 362, 363, 27, 383, 384, 385, 19, 386, 54, 49, 582, 583, 584, 585, 586, 587, 588, 631, 632, 633, 634, 635, 636, 637, 638, 639, 640, 641, 642, 643, 644] (by decide +kernel) (by decide +kernel)) (goodIn_sub (fun _ h => List.mem_append_right _ h) (by decide +kernel))
set_option maxRecDepth 20000 in
theorem gL_law_L_length : GoodIn wsL_law (va_wsS RL 118 yL_length wsL_length) := goodIn_app (goodIn_of _ (by decide +kernel)) ggL_law_L_length
set_option maxRecDepth 20000 in
theorem ggL_law_X4_length : GoodIn wsL_law wsX4_length := goodIn_r _ [390, 135, 134, 293, 88, 589, 590, 591, 592, 593, 594, 595, 596, 597, 598, 599, 600, 601, 602, 603, 604, 605, 606, 607, 608, 609, 610, 611, 612, 613, 614, 615, 616, 617, 618, 619, 620, 621, 622, 623, 624, 625] (by decide +kernel) (by decide +kernel)
set_option maxRecDepth 20000 in
theorem gL_law_X4_length : GoodIn wsL_law (wsV RL 121 RX4 yX4_length wsX4_length) := goodIn_app (goodIn_of _ (by decide +kernel)) ggL_law_X4_length
set_option maxRecDepth 20000 in
theorem ggL_law_L_depth : GoodIn wsL_law wsL_depth := goodIn_ca (goodIn_ca (goodIn_r _ [393, 350, 351, 394, 395, 396, 2, 397, 20, 358, 359, 360, 361, 362, 363, 27, 398, 399, 400, 401, 356, 357, 402, 121, 122, 123, 403, 404, 405, 19, 406, 53, 54, 43, 582, 583, 584, 585, 586, 587, 588, 631, 632, 633, 634, 635, 636, 637, 638, 639, 640, 641, 642, 643, 644] (by decide +kernel) (by decide +kernel)) (goodIn_sub (fun _ h => List.mem_append_right _ h) (by decide +kernel))) (goodIn_sub (fun _ h => List.mem_append_left _ (List.mem_append_right _ h)) (by decide +kernel))
set_option maxRecDepth 20000 in
theorem gL_law_L_depth : GoodIn wsL_law (va_wsS RL 122 yL_depth wsL_depth) := goodIn_app (goodIn_of _ (by decide +kernel)) ggL_law_L_depth
set_option maxRecDepth 20000 in
theorem ggL_law_X4_depth : GoodIn wsL_law wsX4_depth := goodIn_r _ [410, 135, 133, 134, 82, 589, 590, 591, 592, 593, 594, 595, 596, 597, 598, 599, 600, 601, 602, 603, 604, 605, 606, 607, 608, 609, 610, 611, 612, 613, 614, 615, 616, 617, 618, 619, 620, 621, 622, 623, 624, 625] (by decide +kernel) (by decide +kernel)
set_option maxRecDepth 20000 in
theorem gL_law_X4_depth : GoodIn wsL_law (wsV RL 124 RX4 yX4_depth wsX4_depth) := goodIn_app (goodIn_of _ (by decide +kernel)) ggL_law_X4_depth
set_option maxRecDepth 20000 in
theorem ggL_law_L_set : GoodIn wsL_law wsL_set := goodIn_ca (goodIn_ca (goodIn_r _ [413, 350, 351, 414, 415, 416, 2, 417, 356, 357, 20, 402, 218, 28, 358, 359, 360, 361, 362, 363, 27, 121, 122, 123, 418, 419, 420, 19, 421, 53, 582, 583, 584, 585, 586, 587, 588, 631, 632, 633, 634, 635, 636, 637, 638, 639, 640, 641, 642, 643, 644] (by decide +kernel) (by decide +kernel)) (goodIn_sub (fun _ h => List.mem_append_left _ (List.mem_append_right _ h)) (by decide +kernel))) (goodIn_sub (fun _ h => List.mem_append_right _ h) (by decide +kernel))
set_option maxRecDepth 20000 in
theorem gL_law_L_set : GoodIn wsL_law (va_wsS RL 125 yL_set wsL_set) := goodIn_app (goodIn_of _ (by decide +kernel)) ggL_law_L_set
set_option maxRecDepth 20000 in
theorem ggL_law_X4_set : GoodIn wsL_law wsX4_set := goodIn_r _ [425, 135, 133, 293, 134, 92, 589, 590, 591, 592, 593, 594, 595, 596, 597, 598, 599, 600, 601, 602, 603, 604, 605, 606, 607, 608, 609, 610, 611, 612, 613, 614, 615, 616, 617, 618, 619, 620, 621, 622, 623, 624, 625] (by decide +kernel) (by decide +kernel)
set_option maxRecDepth 20000 in
theorem gL_law_X4_set : GoodIn wsL_law (wsV RL 128 RX4 yX4_set wsX4_set) := goodIn_app (goodIn_of _ (by decide +kernel)) ggL_law_X4_set
set_option maxRecDepth 20000 in
theorem ggL_law_L_setting : GoodIn wsL_law wsL_setting := goodIn_ca (goodIn_r _ [428, 350, 429, 430, 431, 2, 432, 28, 358, 359, 360, 361, 362, 363, 27, 582, 583, 584, 585, 586, 587, 588] (by decide +kernel) (by decide +kernel)) (goodIn_sub (fun _ h => List.mem_append_right _ h) (by decide +kernel))
set_option maxRecDepth 20000 in
theorem gL_law_L_setting : GoodIn wsL_law (va_wsS RL 129 yL_setting wsL_setting) := goodIn_app (goodIn_of _ (by decide +kernel)) ggL_law_L_setting
set_option maxRecDepth 20000 in
theorem ggL_law_X4_setting : GoodIn wsL_law wsX4_setting := goodIn_r _ [436, 135, 134, 437, 438, 439, 5, 440, 133, 293, 92, 589, 590, 591, 592, 593, 594, 595, 596, 597, 598, 599, 600, 601, 602, 603, 604, 605, 606, 607, 608, 609, 610, 611, 612, 613, 614, 615, 616, 617, 618, 619, 620, 621, 622, 623, 624, 625] (by decide +kernel) (by decide +kernel)
set_option maxRecDepth 20000 in
theorem gL_law_X4_setting : GoodIn wsL_law (wsV RL 131 RX4 yX4_setting wsX4_setting) := goodIn_app (goodIn_of _ (by decide +kernel)) ggL_law_X4_setting
set_option maxRecDepth 20000 in
theorem ggL_law_L_load : GoodIn wsL_law wsL_load := goodIn_ca (goodIn_ca (goodIn_r _ [443, 350, 351, 444, 445, 446, 2, 447, 356, 357, 20, 218, 24, 16, 28, 448, 449, 358, 359, 360, 361, 362, 363, 27, 121, 122, 123, 450, 451, 452, 23, 453, 454, 455, 456, 457, 458, 459, 58, 460, 461, 59, 60, 462, 463, 464, 419, 420, 19, 421, 53, 465, 466, 467, 468, 469, 470, 471, 472, 245, 473, 63, 474, 475, 476, 477, 62, 478, 479, 480, 481, 482, 483, 484, 485, 486, 61, 487, 488, 489, 490, 491, 65, 64, 582, 583, 584, 585, 586, 587, 588, 631, 632, 633, 634, 635, 636, 637, 638, 639, 640, 641, 642, 643, 644, 645, 646, 647, 648, 649, 650, 651, 652, 653, 654, 626, 627, 628, 629, 630] (by decide +kernel) (by decide +kernel)) (goodIn_sub (fun _ h => List.mem_append_left _ (List.mem_append_right _ h)) (by decide +kernel))) (goodIn_sub (fun _ h => List.mem_append_right _ h) (by decide +kernel))
set_option maxRecDepth 20000 in
theorem gL_law_L_load : GoodIn wsL_law (va_wsS RL 132 yL_load wsL_load) := goodIn_app (goodIn_of _ (by decide +kernel)) ggL_law_L_load
set_option maxRecDepth 20000 in
theorem ggL_law_X4_load : GoodIn wsL_law wsX4_load := goodIn_r _ [495, 135, 134, 101, 100, 372, 373, 374, 5, 375, 293, 437, 438, 439, 440, 133, 92, 496, 497, 498, 499, 80, 81, 500, 74, 77, 88, 78, 589, 590, 591, 592, 593, 594, 595, 596, 597, 598, 599, 600, 601, 602, 603, 604, 605, 606, 607, 608, 609, 610, 611, 612, 613, 614, 615, 616, 617, 618, 619, 620, 621, 622, 623, 624, 625] (by decide +kernel) (by decide +kernel)
set_option maxRecDepth 20000 in
theorem gL_law_X4_load : GoodIn wsL_law (wsV RL 134 RX4 yX4_load wsX4_load) := goodIn_app (goodIn_of _ (by decide +kernel)) ggL_law_X4_load
set_option maxRecDepth 20000 in
theorem ggL_law_L_delay : GoodIn wsL_law wsL_delay := goodIn_ca (goodIn_ca (goodIn_r _ [503, 350, 351, 504, 505, 506, 2, 507, 24, 20, 16, 28, 358, 359, 360, 361, 362, 363, 27, 398, 399, 400, 401, 356, 357, 402, 121, 122, 123, 450, 451, 452, 23, 453, 454, 455, 456, 457, 458, 459, 58, 460, 461, 59, 60, 462, 463, 464, 419, 420, 19, 421, 53, 465, 466, 467, 468, 469, 470, 471, 472, 245, 473, 63, 474, 475, 476, 477, 62, 478, 479, 480, 481, 482, 483, 484, 485, 486, 61, 487, 488, 489, 490, 491, 65, 64, 508, 509, 510, 511, 512, 582, 583, 584, 585, 586, 587, 588, 631, 632, 633, 634, 635, 636, 637, 638, 639, 640, 641, 642, 643, 644, 645, 646, 647, 648, 649, 650, 651, 652, 653, 654, 626, 627, 628, 629, 630] (by decide +kernel) (by decide +kernel)) (goodIn_sub (fun _ h => List.mem_append_right _ h) (by decide +kernel))) (goodIn_sub (fun _ h => List.mem_append_left _ (List.mem_append_right _ h)) (by decide +kernel))
set_option maxRecDepth 20000 in
theorem gL_law_L_delay : GoodIn wsL_law (va_wsS RL 135 yL_delay wsL_delay) := goodIn_app (goodIn_of _ (by decide +kernel)) ggL_law_L_delay
set_option maxRecDepth 20000 in
theorem ggL_law_X4_delay : GoodIn wsL_law wsX4_delay := goodIn_r _ [516, 135, 133, 134, 437, 438, 439, 5, 440, 293, 92, 496, 497, 498, 499, 80, 81, 100, 500, 74, 101, 77, 88, 78, 517, 518, 519, 520, 76, 521, 199, 79, 82, 589, 590, 591, 592, 593, 594, 595, 596, 597, 598, 599, 600, 601, 602, 603, 604, 605, 606, 607, 608, 609, 610, 611, 612, 613, 614, 615, 616, 617, 618, 619, 620, 621, 622, 623, 624, 625] (by decide +kernel) (by decide +kernel)
set_option maxRecDepth 20000 in
theorem gL_law_X4_delay : GoodIn wsL_law (wsV RL 137 RX4 yX4_delay wsX4_delay) := goodIn_app (goodIn_of _ (by decide +kernel)) ggL_law_X4_delay
set_option maxRecDepth 20000 in
theorem ggL_law_L_slack : GoodIn wsL_law wsL_slack := goodIn_ca (goodIn_r _ [524, 350, 525, 526, 527, 2, 528, 24, 20, 16, 28, 358, 359, 360, 361, 362, 363, 27, 450, 451, 452, 23, 453, 454, 455, 456, 457, 458, 459, 58, 460, 461, 59, 60, 462, 463, 464, 419, 420, 19, 421, 53, 465, 466, 467, 468, 469, 470, 471, 472, 245, 473, 63, 474, 475, 476, 477, 62, 478, 479, 480, 481, 482, 483, 484, 485, 486, 61, 487, 488, 489, 490, 491, 65, 64, 529, 530, 531, 532, 582, 583, 584, 585, 586, 587, 588, 631, 632, 633, 634, 635, 636, 637, 638, 639, 640, 641, 642, 643, 644, 645, 646, 647, 648, 649, 650, 651, 652, 653, 654, 626, 627, 628, 629, 630] (by decide +kernel) (by decide +kernel)) (goodIn_sub (fun _ h => List.mem_append_right _ h) (by decide +kernel))
set_option maxRecDepth 20000 in
theorem gL_law_L_slack : GoodIn wsL_law (va_wsS RL 138 yL_slack wsL_slack) := goodIn_app (goodIn_of _ (by decide +kernel)) ggL_law_L_slack
set_option maxRecDepth 20000 in
theorem ggL_law_X4_slack : GoodIn wsL_law wsX4_slack := goodIn_r _ [536, 135, 134, 437, 438, 439, 5, 440, 133, 293, 92, 537, 538, 539, 540, 541, 75, 496, 497, 498, 499, 80, 81, 100, 500, 74, 101, 77, 88, 78, 517, 518, 519, 520, 76, 521, 199, 79, 82, 589, 590, 591, 592, 593, 594, 595, 596, 597, 598, 599, 600, 601, 602, 603, 604, 605, 606, 607, 608, 609, 610, 611, 612, 613, 614, 615, 616, 617, 618, 619, 620, 621, 622, 623, 624, 625] (by decide +kernel) (by decide +kernel)
set_option maxRecDepth 20000 in
theorem gL_law_X4_slack : GoodIn wsL_law (wsV RL 140 RX4 yX4_slack wsX4_slack) := goodIn_app (goodIn_of _ (by decide +kernel)) ggL_law_X4_slack
set_option maxRecDepth 20000 in
theorem ggL_law_L_best : GoodIn wsL_law wsL_best := goodIn_ca (goodIn_r _ [544, 350, 545, 546, 547, 2, 548, 24, 20, 16, 549, 358, 359, 360, 361, 362, 363, 27, 550, 551, 552, 23, 553, 67, 454, 456, 457, 458, 459, 58, 460, 461, 59, 60, 462, 463, 554, 555, 556, 455, 557, 530, 531, 532, 479, 480, 481, 482, 483, 484, 485, 486, 61, 478, 487, 474, 475, 476, 477, 62, 558, 559, 560, 561, 66, 465, 466, 467, 468, 469, 470, 471, 472, 245, 473, 63, 488, 489, 490, 491, 65, 64, 464, 419, 420, 19, 421, 53, 582, 583, 584, 585, 586, 587, 588, 645, 646, 647, 648, 649, 650, 651, 652, 653, 654, 631, 632, 633, 634, 635, 636, 637, 638, 639, 640, 641, 642, 643, 644, 626, 627, 628, 629, 630] (by decide +kernel) (by decide +kernel)) (goodIn_sub (fun _ h => List.mem_append_right _ h) (by decide +kernel))
set_option maxRecDepth 20000 in
theorem gL_law_L_best : GoodIn wsL_law (va_wsS RL 141 yL_best wsL_best) := goodIn_app (goodIn_of _ (by decide +kernel)) ggL_law_L_best
set_option maxRecDepth 20000 in
theorem ggL_law_X4_best : GoodIn wsL_law wsX4_best := goodIn_r _ [565, 135, 134, 566, 567, 568, 5, 569, 133, 537, 538, 539, 540, 541, 75, 496, 497, 498, 499, 293, 80, 81, 100, 500, 74, 101, 77, 88, 78, 517, 518, 519, 520, 76, 521, 199, 79, 82, 589, 590, 591, 592, 593, 594, 595, 596, 597, 598, 599, 600, 601, 602, 603, 604, 605, 606, 607, 608, 609, 610, 611, 612, 613, 614, 615, 616, 617, 618, 619, 620, 621, 622, 623, 624, 625] (by decide +kernel) (by decide +kernel)
set_option maxRecDepth 20000 in
theorem gL_law_X4_best : GoodIn wsL_law (wsV RL 143 RX4 yX4_best wsX4_best) := goodIn_app (goodIn_of _ (by decide +kernel)) ggL_law_X4_best
set_option maxRecDepth 20000 in
theorem ggL_law_L_improve : GoodIn wsL_law wsL_improve := goodIn_ca (goodIn_r _ [572, 350, 573, 574, 575, 2, 576, 24, 20, 16, 577, 28, 358, 359, 360, 361, 362, 363, 27, 550, 551, 552, 23, 553, 67, 454, 456, 457, 458, 459, 58, 460, 461, 59, 60, 462, 463, 554, 555, 556, 455, 557, 530, 531, 532, 479, 480, 481, 482, 483, 484, 485, 486, 61, 478, 487, 474, 475, 476, 477, 62, 558, 559, 560, 561, 66, 465, 466, 467, 468, 469, 470, 471, 472, 245, 473, 63, 488, 489, 490, 491, 65, 64, 464, 419, 420, 19, 421, 53, 582, 583, 584, 585, 586, 587, 588, 645, 646, 647, 648, 649, 650, 651, 652, 653, 654, 631, 632, 633, 634, 635, 636, 637, 638, 639, 640, 641, 642, 643, 644, 626, 627, 628, 629, 630] (by decide +kernel) (by decide +kernel)) (goodIn_sub (fun _ h => List.mem_append_right _ h) (by decide +kernel))
set_option maxRecDepth 20000 in
theorem gL_law_L_improve : GoodIn wsL_law (va_wsS RL 144 yL_improve wsL_improve) := goodIn_app (goodIn_of _ (by decide +kernel)) ggL_law_L_improve
set_option maxRecDepth 20000 in
theorem ggL_law_X4_improve : GoodIn wsL_law wsX4_improve := goodIn_r _ [581, 135, 134, 133, 293, 92, 566, 567, 568, 5, 569, 537, 538, 539, 540, 541, 75, 496, 497, 498, 499, 80, 81, 100, 500, 74, 101, 77, 88, 78, 517, 518, 519, 520, 76, 521, 199, 79, 82, 589, 590, 591, 592, 593, 594, 595, 596, 597, 598, 599, 600, 601, 602, 603, 604, 605, 606, 607, 608, 609, 610, 611, 612, 613, 614, 615, 616, 617, 618, 619, 620, 621, 622, 623, 624, 625] (by decide +kernel) (by decide +kernel)
set_option maxRecDepth 20000 in
theorem gL_law_X4_improve : GoodIn wsL_law (wsV RL 146 RX4 yX4_improve wsX4_improve) := goodIn_app (goodIn_of _ (by decide +kernel)) ggL_law_X4_improve
theorem dL_law_0 : decode cL_law 0 = .ok (.new 8, 3) := by decide +kernel
theorem dL_law_3 : decode cL_law 3 = .ok (.dup, 1) := by decide +kernel
theorem dL_law_4 : decode cL_law 4 = .ok (.invokespecial 78, 3) := by decide +kernel
theorem dL_law_7 : decode cL_law 7 = .ok (.astore_n 1, 1) := by decide +kernel
theorem dL_law_8 : decode cL_law 8 = .ok (.new 79, 3) := by decide +kernel
theorem dL_law_11 : decode cL_law 11 = .ok (.dup, 1) := by decide +kernel
theorem dL_law_12 : decode cL_law 12 = .ok (.invokespecial 81, 3) := by decide +kernel
theorem dL_law_15 : decode cL_law 15 = .ok (.astore_n 2, 1) := by decide +kernel
theorem dL_law_16 : decode cL_law 16 = .ok (.iconst 1, 1) := by decide +kernel
theorem dL_law_17 : decode cL_law 17 = .ok (.newarray .long, 2) := by decide +kernel
theorem dL_law_19 : decode cL_law 19 = .ok (.astore_n 3, 1) := by decide +kernel
theorem dL_law_20 : decode cL_law 20 = .ok (.iconst 0, 1) := by decide +kernel
theorem dL_law_21 : decode cL_law 21 = .ok (.istore 4, 2) := by decide +kernel
theorem dL_law_23 : decode cL_law 23 = .ok (.iload 4, 2) := by decide +kernel
theorem dL_law_25 : decode cL_law 25 = .ok (.aload_n 0, 1) := by decide +kernel
theorem dL_law_26 : decode cL_law 26 = .ok (.arraylength, 1) := by decide +kernel
theorem dL_law_27 : decode cL_law 27 = .ok (.iconst 5, 1) := by decide +kernel
theorem dL_law_28 : decode cL_law 28 = .ok (.isub, 1) := by decide +kernel
theorem dL_law_29 : decode cL_law 29 = .ok (.if_icmp .gt 1021, 3) := by decide +kernel
theorem dL_law_32 : decode cL_law 32 = .ok (.aload_n 0, 1) := by decide +kernel
theorem dL_law_33 : decode cL_law 33 = .ok (.iload 4, 2) := by decide +kernel
theorem dL_law_35 : decode cL_law 35 = .ok (.iaload, 1) := by decide +kernel
theorem dL_law_36 : decode cL_law 36 = .ok (.bipush 31, 2) := by decide +kernel
theorem dL_law_38 : decode cL_law 38 = .ok (.iand, 1) := by decide +kernel
theorem dL_law_39 : decode cL_law 39 = .ok (.tableswitch 1005 0 16 #[81, 173, 209, 257, 305, 365, 378, 434, 502, 546, 602, 693, 737, 820, 875, 918, 961], 81) := by decide +kernel
theorem dL_law_120 : decode cL_law 120 = .ok (.aload_n 1, 1) := by decide +kernel
theorem dL_law_121 : decode cL_law 121 = .ok (.aload_n 0, 1) := by decide +kernel
theorem dL_law_122 : decode cL_law 122 = .ok (.iload 4, 2) := by decide +kernel
theorem dL_law_124 : decode cL_law 124 = .ok (.iconst 1, 1) := by decide +kernel
theorem dL_law_125 : decode cL_law 125 = .ok (.iadd, 1) := by decide +kernel
theorem dL_law_126 : decode cL_law 126 = .ok (.iaload, 1) := by decide +kernel
theorem dL_law_127 : decode cL_law 127 = .ok (.aload_n 0, 1) := by decide +kernel
theorem dL_law_128 : decode cL_law 128 = .ok (.iload 4, 2) := by decide +kernel
theorem dL_law_130 : decode cL_law 130 = .ok (.iconst 2, 1) := by decide +kernel
theorem dL_law_131 : decode cL_law 131 = .ok (.iadd, 1) := by decide +kernel
theorem dL_law_132 : decode cL_law 132 = .ok (.iaload, 1) := by decide +kernel
theorem dL_law_133 : decode cL_law 133 = .ok (.aload_n 0, 1) := by decide +kernel
theorem dL_law_134 : decode cL_law 134 = .ok (.iload 4, 2) := by decide +kernel
theorem dL_law_136 : decode cL_law 136 = .ok (.iconst 3, 1) := by decide +kernel
theorem dL_law_137 : decode cL_law 137 = .ok (.iadd, 1) := by decide +kernel
theorem dL_law_138 : decode cL_law 138 = .ok (.iaload, 1) := by decide +kernel
theorem dL_law_139 : decode cL_law 139 = .ok (.aload_n 0, 1) := by decide +kernel
theorem dL_law_140 : decode cL_law 140 = .ok (.iload 4, 2) := by decide +kernel
theorem dL_law_142 : decode cL_law 142 = .ok (.iconst 4, 1) := by decide +kernel
theorem dL_law_143 : decode cL_law 143 = .ok (.iadd, 1) := by decide +kernel
theorem dL_law_144 : decode cL_law 144 = .ok (.iaload, 1) := by decide +kernel
theorem dL_law_145 : decode cL_law 145 = .ok (.aload_n 3, 1) := by decide +kernel
theorem dL_law_146 : decode cL_law 146 = .ok (.invokestatic 82, 3) := by decide +kernel
theorem dL_law_149 : decode cL_law 149 = .ok (.istore 5, 2) := by decide +kernel
theorem dL_law_151 : decode cL_law 151 = .ok (.aload_n 2, 1) := by decide +kernel
theorem dL_law_152 : decode cL_law 152 = .ok (.aload_n 0, 1) := by decide +kernel
theorem dL_law_153 : decode cL_law 153 = .ok (.iload 4, 2) := by decide +kernel
theorem dL_law_155 : decode cL_law 155 = .ok (.iconst 1, 1) := by decide +kernel
theorem dL_law_156 : decode cL_law 156 = .ok (.iadd, 1) := by decide +kernel
theorem dL_law_157 : decode cL_law 157 = .ok (.iaload, 1) := by decide +kernel
theorem dL_law_158 : decode cL_law 158 = .ok (.aload_n 0, 1) := by decide +kernel
theorem dL_law_159 : decode cL_law 159 = .ok (.iload 4, 2) := by decide +kernel
theorem dL_law_161 : decode cL_law 161 = .ok (.iconst 2, 1) := by decide +kernel
theorem dL_law_162 : decode cL_law 162 = .ok (.iadd, 1) := by decide +kernel
theorem dL_law_163 : decode cL_law 163 = .ok (.iaload, 1) := by decide +kernel
theorem dL_law_164 : decode cL_law 164 = .ok (.aload_n 0, 1) := by decide +kernel
theorem dL_law_165 : decode cL_law 165 = .ok (.iload 4, 2) := by decide +kernel
theorem dL_law_167 : decode cL_law 167 = .ok (.iconst 3, 1) := by decide +kernel
theorem dL_law_168 : decode cL_law 168 = .ok (.iadd, 1) := by decide +kernel
theorem dL_law_169 : decode cL_law 169 = .ok (.iaload, 1) := by decide +kernel
theorem dL_law_170 : decode cL_law 170 = .ok (.aload_n 0, 1) := by decide +kernel
theorem dL_law_171 : decode cL_law 171 = .ok (.iload 4, 2) := by decide +kernel
theorem dL_law_173 : decode cL_law 173 = .ok (.iconst 4, 1) := by decide +kernel
theorem dL_law_174 : decode cL_law 174 = .ok (.iadd, 1) := by decide +kernel
theorem dL_law_175 : decode cL_law 175 = .ok (.iaload, 1) := by decide +kernel
theorem dL_law_176 : decode cL_law 176 = .ok (.invokevirtual 87, 3) := by decide +kernel
theorem dL_law_179 : decode cL_law 179 = .ok (.istore 6, 2) := by decide +kernel
theorem dL_law_181 : decode cL_law 181 = .ok (.aload_n 2, 1) := by decide +kernel
theorem dL_law_182 : decode cL_law 182 = .ok (.invokevirtual 88, 3) := by decide +kernel
theorem dL_law_185 : decode cL_law 185 = .ok (.iload 5, 2) := by decide +kernel
theorem dL_law_187 : decode cL_law 187 = .ok (.if_icmp .eq 5, 3) := by decide +kernel
theorem dL_law_190 : decode cL_law 190 = .ok (.iconst 0, 1) := by decide +kernel
theorem dL_law_191 : decode cL_law 191 = .ok (.ireturn, 1) := by decide +kernel
theorem dL_law_192 : decode cL_law 192 = .ok (.iload 5, 2) := by decide +kernel
theorem dL_law_194 : decode cL_law 194 = .ok (.ifCond .ne 15, 3) := by decide +kernel
theorem dL_law_197 : decode cL_law 197 = .ok (.aload_n 3, 1) := by decide +kernel
theorem dL_law_198 : decode cL_law 198 = .ok (.iconst 0, 1) := by decide +kernel
theorem dL_law_199 : decode cL_law 199 = .ok (.laload, 1) := by decide +kernel
theorem dL_law_200 : decode cL_law 200 = .ok (.iload 6, 2) := by decide +kernel
theorem dL_law_202 : decode cL_law 202 = .ok (.i2l, 1) := by decide +kernel
theorem dL_law_203 : decode cL_law 203 = .ok (.lcmp, 1) := by decide +kernel
theorem dL_law_204 : decode cL_law 204 = .ok (.ifCond .eq 5, 3) := by decide +kernel
theorem dL_law_207 : decode cL_law 207 = .ok (.iconst 0, 1) := by decide +kernel
theorem dL_law_208 : decode cL_law 208 = .ok (.ireturn, 1) := by decide +kernel
theorem dL_law_209 : decode cL_law 209 = .ok (.goto 835, 3) := by decide +kernel
theorem dL_law_212 : decode cL_law 212 = .ok (.aload_n 1, 1) := by decide +kernel
theorem dL_law_213 : decode cL_law 213 = .ok (.aload_n 0, 1) := by decide +kernel
theorem dL_law_214 : decode cL_law 214 = .ok (.iload 4, 2) := by decide +kernel
theorem dL_law_216 : decode cL_law 216 = .ok (.iconst 1, 1) := by decide +kernel
theorem dL_law_217 : decode cL_law 217 = .ok (.iadd, 1) := by decide +kernel
theorem dL_law_218 : decode cL_law 218 = .ok (.iaload, 1) := by decide +kernel
theorem dL_law_219 : decode cL_law 219 = .ok (.invokestatic 91, 3) := by decide +kernel
theorem dL_law_222 : decode cL_law 222 = .ok (.istore 5, 2) := by decide +kernel
theorem dL_law_224 : decode cL_law 224 = .ok (.aload_n 2, 1) := by decide +kernel
theorem dL_law_225 : decode cL_law 225 = .ok (.aload_n 0, 1) := by decide +kernel
theorem dL_law_226 : decode cL_law 226 = .ok (.iload 4, 2) := by decide +kernel
theorem dL_law_228 : decode cL_law 228 = .ok (.iconst 1, 1) := by decide +kernel
theorem dL_law_229 : decode cL_law 229 = .ok (.iadd, 1) := by decide +kernel
theorem dL_law_230 : decode cL_law 230 = .ok (.iaload, 1) := by decide +kernel
theorem dL_law_231 : decode cL_law 231 = .ok (.invokevirtual 94, 3) := by decide +kernel
theorem dL_law_234 : decode cL_law 234 = .ok (.aload_n 2, 1) := by decide +kernel
theorem dL_law_235 : decode cL_law 235 = .ok (.invokevirtual 88, 3) := by decide +kernel
theorem dL_law_238 : decode cL_law 238 = .ok (.iload 5, 2) := by decide +kernel
theorem dL_law_240 : decode cL_law 240 = .ok (.if_icmp .eq 5, 3) := by decide +kernel
theorem dL_law_243 : decode cL_law 243 = .ok (.iconst 0, 1) := by decide +kernel
theorem dL_law_244 : decode cL_law 244 = .ok (.ireturn, 1) := by decide +kernel
theorem dL_law_245 : decode cL_law 245 = .ok (.goto 799, 3) := by decide +kernel
theorem dL_law_248 : decode cL_law 248 = .ok (.aload_n 1, 1) := by decide +kernel
theorem dL_law_249 : decode cL_law 249 = .ok (.aload_n 0, 1) := by decide +kernel
theorem dL_law_250 : decode cL_law 250 = .ok (.iload 4, 2) := by decide +kernel
theorem dL_law_252 : decode cL_law 252 = .ok (.iconst 1, 1) := by decide +kernel
theorem dL_law_253 : decode cL_law 253 = .ok (.iadd, 1) := by decide +kernel
theorem dL_law_254 : decode cL_law 254 = .ok (.iaload, 1) := by decide +kernel
theorem dL_law_255 : decode cL_law 255 = .ok (.aload_n 0, 1) := by decide +kernel
theorem dL_law_256 : decode cL_law 256 = .ok (.iload 4, 2) := by decide +kernel
theorem dL_law_258 : decode cL_law 258 = .ok (.iconst 2, 1) := by decide +kernel
theorem dL_law_259 : decode cL_law 259 = .ok (.iadd, 1) := by decide +kernel
theorem dL_law_260 : decode cL_law 260 = .ok (.iaload, 1) := by decide +kernel
theorem dL_law_261 : decode cL_law 261 = .ok (.invokestatic 95, 3) := by decide +kernel
theorem dL_law_264 : decode cL_law 264 = .ok (.istore 5, 2) := by decide +kernel
theorem dL_law_266 : decode cL_law 266 = .ok (.aload_n 2, 1) := by decide +kernel
theorem dL_law_267 : decode cL_law 267 = .ok (.aload_n 0, 1) := by decide +kernel
theorem dL_law_268 : decode cL_law 268 = .ok (.iload 4, 2) := by decide +kernel
theorem dL_law_270 : decode cL_law 270 = .ok (.iconst 1, 1) := by decide +kernel
theorem dL_law_271 : decode cL_law 271 = .ok (.iadd, 1) := by decide +kernel
theorem dL_law_272 : decode cL_law 272 = .ok (.iaload, 1) := by decide +kernel
theorem dL_law_273 : decode cL_law 273 = .ok (.aload_n 0, 1) := by decide +kernel
theorem dL_law_274 : decode cL_law 274 = .ok (.iload 4, 2) := by decide +kernel
theorem dL_law_276 : decode cL_law 276 = .ok (.iconst 2, 1) := by decide +kernel
theorem dL_law_277 : decode cL_law 277 = .ok (.iadd, 1) := by decide +kernel
theorem dL_law_278 : decode cL_law 278 = .ok (.iaload, 1) := by decide +kernel
theorem dL_law_279 : decode cL_law 279 = .ok (.invokevirtual 98, 3) := by decide +kernel
theorem dL_law_282 : decode cL_law 282 = .ok (.aload_n 2, 1) := by decide +kernel
theorem dL_law_283 : decode cL_law 283 = .ok (.invokevirtual 88, 3) := by decide +kernel
theorem dL_law_286 : decode cL_law 286 = .ok (.iload 5, 2) := by decide +kernel
theorem dL_law_288 : decode cL_law 288 = .ok (.if_icmp .eq 5, 3) := by decide +kernel
theorem dL_law_291 : decode cL_law 291 = .ok (.iconst 0, 1) := by decide +kernel
theorem dL_law_292 : decode cL_law 292 = .ok (.ireturn, 1) := by decide +kernel
theorem dL_law_293 : decode cL_law 293 = .ok (.goto 751, 3) := by decide +kernel
theorem dL_law_296 : decode cL_law 296 = .ok (.aload_n 1, 1) := by decide +kernel
theorem dL_law_297 : decode cL_law 297 = .ok (.aload_n 0, 1) := by decide +kernel
theorem dL_law_298 : decode cL_law 298 = .ok (.iload 4, 2) := by decide +kernel
theorem dL_law_300 : decode cL_law 300 = .ok (.iconst 1, 1) := by decide +kernel
theorem dL_law_301 : decode cL_law 301 = .ok (.iadd, 1) := by decide +kernel
theorem dL_law_302 : decode cL_law 302 = .ok (.iaload, 1) := by decide +kernel
theorem dL_law_303 : decode cL_law 303 = .ok (.aload_n 0, 1) := by decide +kernel
theorem dL_law_304 : decode cL_law 304 = .ok (.iload 4, 2) := by decide +kernel
theorem dL_law_306 : decode cL_law 306 = .ok (.iconst 2, 1) := by decide +kernel
theorem dL_law_307 : decode cL_law 307 = .ok (.iadd, 1) := by decide +kernel
theorem dL_law_308 : decode cL_law 308 = .ok (.iaload, 1) := by decide +kernel
theorem dL_law_309 : decode cL_law 309 = .ok (.invokestatic 99, 3) := by decide +kernel
theorem dL_law_312 : decode cL_law 312 = .ok (.istore 5, 2) := by decide +kernel
theorem dL_law_314 : decode cL_law 314 = .ok (.aload_n 2, 1) := by decide +kernel
theorem dL_law_315 : decode cL_law 315 = .ok (.aload_n 0, 1) := by decide +kernel
theorem dL_law_316 : decode cL_law 316 = .ok (.iload 4, 2) := by decide +kernel
theorem dL_law_318 : decode cL_law 318 = .ok (.iconst 1, 1) := by decide +kernel
theorem dL_law_319 : decode cL_law 319 = .ok (.iadd, 1) := by decide +kernel
theorem dL_law_320 : decode cL_law 320 = .ok (.iaload, 1) := by decide +kernel
theorem dL_law_321 : decode cL_law 321 = .ok (.aload_n 0, 1) := by decide +kernel
theorem dL_law_322 : decode cL_law 322 = .ok (.iload 4, 2) := by decide +kernel
theorem dL_law_324 : decode cL_law 324 = .ok (.iconst 2, 1) := by decide +kernel
theorem dL_law_325 : decode cL_law 325 = .ok (.iadd, 1) := by decide +kernel
theorem dL_law_326 : decode cL_law 326 = .ok (.iaload, 1) := by decide +kernel
theorem dL_law_327 : decode cL_law 327 = .ok (.invokevirtual 101, 3) := by decide +kernel
theorem dL_law_330 : decode cL_law 330 = .ok (.aload_n 2, 1) := by decide +kernel
theorem dL_law_331 : decode cL_law 331 = .ok (.invokevirtual 88, 3) := by decide +kernel
theorem dL_law_334 : decode cL_law 334 = .ok (.iload 5, 2) := by decide +kernel
theorem dL_law_336 : decode cL_law 336 = .ok (.if_icmp .eq 5, 3) := by decide +kernel
theorem dL_law_339 : decode cL_law 339 = .ok (.iconst 0, 1) := by decide +kernel
theorem dL_law_340 : decode cL_law 340 = .ok (.ireturn, 1) := by decide +kernel
theorem dL_law_341 : decode cL_law 341 = .ok (.goto 703, 3) := by decide +kernel
theorem dL_law_344 : decode cL_law 344 = .ok (.aload_n 1, 1) := by decide +kernel
theorem dL_law_345 : decode cL_law 345 = .ok (.aload_n 0, 1) := by decide +kernel
theorem dL_law_346 : decode cL_law 346 = .ok (.iload 4, 2) := by decide +kernel
theorem dL_law_348 : decode cL_law 348 = .ok (.iconst 1, 1) := by decide +kernel
theorem dL_law_349 : decode cL_law 349 = .ok (.iadd, 1) := by decide +kernel
theorem dL_law_350 : decode cL_law 350 = .ok (.iaload, 1) := by decide +kernel
theorem dL_law_351 : decode cL_law 351 = .ok (.aload_n 0, 1) := by decide +kernel
theorem dL_law_352 : decode cL_law 352 = .ok (.iload 4, 2) := by decide +kernel
theorem dL_law_354 : decode cL_law 354 = .ok (.iconst 2, 1) := by decide +kernel
theorem dL_law_355 : decode cL_law 355 = .ok (.iadd, 1) := by decide +kernel
theorem dL_law_356 : decode cL_law 356 = .ok (.iaload, 1) := by decide +kernel
theorem dL_law_357 : decode cL_law 357 = .ok (.aload_n 0, 1) := by decide +kernel
theorem dL_law_358 : decode cL_law 358 = .ok (.iload 4, 2) := by decide +kernel
theorem dL_law_360 : decode cL_law 360 = .ok (.iconst 3, 1) := by decide +kernel
theorem dL_law_361 : decode cL_law 361 = .ok (.iadd, 1) := by decide +kernel
theorem dL_law_362 : decode cL_law 362 = .ok (.iaload, 1) := by decide +kernel
theorem dL_law_363 : decode cL_law 363 = .ok (.invokestatic 102, 3) := by decide +kernel
theorem dL_law_366 : decode cL_law 366 = .ok (.istore 5, 2) := by decide +kernel
theorem dL_law_368 : decode cL_law 368 = .ok (.aload_n 2, 1) := by decide +kernel
theorem dL_law_369 : decode cL_law 369 = .ok (.aload_n 0, 1) := by decide +kernel
theorem dL_law_370 : decode cL_law 370 = .ok (.iload 4, 2) := by decide +kernel
theorem dL_law_372 : decode cL_law 372 = .ok (.iconst 1, 1) := by decide +kernel
theorem dL_law_373 : decode cL_law 373 = .ok (.iadd, 1) := by decide +kernel
theorem dL_law_374 : decode cL_law 374 = .ok (.iaload, 1) := by decide +kernel
theorem dL_law_375 : decode cL_law 375 = .ok (.aload_n 0, 1) := by decide +kernel
theorem dL_law_376 : decode cL_law 376 = .ok (.iload 4, 2) := by decide +kernel
theorem dL_law_378 : decode cL_law 378 = .ok (.iconst 2, 1) := by decide +kernel
theorem dL_law_379 : decode cL_law 379 = .ok (.iadd, 1) := by decide +kernel
theorem dL_law_380 : decode cL_law 380 = .ok (.iaload, 1) := by decide +kernel
theorem dL_law_381 : decode cL_law 381 = .ok (.aload_n 0, 1) := by decide +kernel
theorem dL_law_382 : decode cL_law 382 = .ok (.iload 4, 2) := by decide +kernel
theorem dL_law_384 : decode cL_law 384 = .ok (.iconst 3, 1) := by decide +kernel
theorem dL_law_385 : decode cL_law 385 = .ok (.iadd, 1) := by decide +kernel
theorem dL_law_386 : decode cL_law 386 = .ok (.iaload, 1) := by decide +kernel
theorem dL_law_387 : decode cL_law 387 = .ok (.invokevirtual 105, 3) := by decide +kernel
theorem dL_law_390 : decode cL_law 390 = .ok (.aload_n 2, 1) := by decide +kernel
theorem dL_law_391 : decode cL_law 391 = .ok (.invokevirtual 88, 3) := by decide +kernel
theorem dL_law_394 : decode cL_law 394 = .ok (.iload 5, 2) := by decide +kernel
theorem dL_law_396 : decode cL_law 396 = .ok (.if_icmp .eq 5, 3) := by decide +kernel
theorem dL_law_399 : decode cL_law 399 = .ok (.iconst 0, 1) := by decide +kernel
theorem dL_law_400 : decode cL_law 400 = .ok (.ireturn, 1) := by decide +kernel
theorem dL_law_401 : decode cL_law 401 = .ok (.goto 643, 3) := by decide +kernel
theorem dL_law_404 : decode cL_law 404 = .ok (.aload_n 1, 1) := by decide +kernel
theorem dL_law_405 : decode cL_law 405 = .ok (.invokevirtual 106, 3) := by decide +kernel
theorem dL_law_408 : decode cL_law 408 = .ok (.aload_n 2, 1) := by decide +kernel
theorem dL_law_409 : decode cL_law 409 = .ok (.invokevirtual 109, 3) := by decide +kernel
theorem dL_law_412 : decode cL_law 412 = .ok (.if_icmp .eq 632, 3) := by decide +kernel
theorem dL_law_415 : decode cL_law 415 = .ok (.iconst 0, 1) := by decide +kernel
theorem dL_law_416 : decode cL_law 416 = .ok (.ireturn, 1) := by decide +kernel
theorem dL_law_417 : decode cL_law 417 = .ok (.aload_n 1, 1) := by decide +kernel
theorem dL_law_418 : decode cL_law 418 = .ok (.aload_n 0, 1) := by decide +kernel
theorem dL_law_419 : decode cL_law 419 = .ok (.iload 4, 2) := by decide +kernel
theorem dL_law_421 : decode cL_law 421 = .ok (.iconst 1, 1) := by decide +kernel
theorem dL_law_422 : decode cL_law 422 = .ok (.iadd, 1) := by decide +kernel
theorem dL_law_423 : decode cL_law 423 = .ok (.iaload, 1) := by decide +kernel
theorem dL_law_424 : decode cL_law 424 = .ok (.aload_n 3, 1) := by decide +kernel
theorem dL_law_425 : decode cL_law 425 = .ok (.invokestatic 110, 3) := by decide +kernel
theorem dL_law_428 : decode cL_law 428 = .ok (.istore 5, 2) := by decide +kernel
theorem dL_law_430 : decode cL_law 430 = .ok (.aload_n 2, 1) := by decide +kernel
theorem dL_law_431 : decode cL_law 431 = .ok (.aload_n 0, 1) := by decide +kernel
theorem dL_law_432 : decode cL_law 432 = .ok (.iload 4, 2) := by decide +kernel
theorem dL_law_434 : decode cL_law 434 = .ok (.iconst 1, 1) := by decide +kernel
theorem dL_law_435 : decode cL_law 435 = .ok (.iadd, 1) := by decide +kernel
theorem dL_law_436 : decode cL_law 436 = .ok (.iaload, 1) := by decide +kernel
theorem dL_law_437 : decode cL_law 437 = .ok (.invokevirtual 113, 3) := by decide +kernel
theorem dL_law_440 : decode cL_law 440 = .ok (.istore 6, 2) := by decide +kernel
theorem dL_law_442 : decode cL_law 442 = .ok (.aload_n 2, 1) := by decide +kernel
theorem dL_law_443 : decode cL_law 443 = .ok (.invokevirtual 88, 3) := by decide +kernel
theorem dL_law_446 : decode cL_law 446 = .ok (.iload 5, 2) := by decide +kernel
theorem dL_law_448 : decode cL_law 448 = .ok (.if_icmp .eq 5, 3) := by decide +kernel
theorem dL_law_451 : decode cL_law 451 = .ok (.iconst 0, 1) := by decide +kernel
theorem dL_law_452 : decode cL_law 452 = .ok (.ireturn, 1) := by decide +kernel
theorem dL_law_453 : decode cL_law 453 = .ok (.iload 5, 2) := by decide +kernel
theorem dL_law_455 : decode cL_law 455 = .ok (.ifCond .ne 15, 3) := by decide +kernel
theorem dL_law_458 : decode cL_law 458 = .ok (.aload_n 3, 1) := by decide +kernel
theorem dL_law_459 : decode cL_law 459 = .ok (.iconst 0, 1) := by decide +kernel
theorem dL_law_460 : decode cL_law 460 = .ok (.laload, 1) := by decide +kernel
theorem dL_law_461 : decode cL_law 461 = .ok (.iload 6, 2) := by decide +kernel
theorem dL_law_463 : decode cL_law 463 = .ok (.i2l, 1) := by decide +kernel
theorem dL_law_464 : decode cL_law 464 = .ok (.lcmp, 1) := by decide +kernel
theorem dL_law_465 : decode cL_law 465 = .ok (.ifCond .eq 5, 3) := by decide +kernel
theorem dL_law_468 : decode cL_law 468 = .ok (.iconst 0, 1) := by decide +kernel
theorem dL_law_469 : decode cL_law 469 = .ok (.ireturn, 1) := by decide +kernel
theorem dL_law_470 : decode cL_law 470 = .ok (.goto 574, 3) := by decide +kernel
theorem dL_law_473 : decode cL_law 473 = .ok (.aload_n 1, 1) := by decide +kernel
theorem dL_law_474 : decode cL_law 474 = .ok (.aload_n 0, 1) := by decide +kernel
theorem dL_law_475 : decode cL_law 475 = .ok (.iload 4, 2) := by decide +kernel
theorem dL_law_477 : decode cL_law 477 = .ok (.iconst 1, 1) := by decide +kernel
theorem dL_law_478 : decode cL_law 478 = .ok (.iadd, 1) := by decide +kernel
theorem dL_law_479 : decode cL_law 479 = .ok (.iaload, 1) := by decide +kernel
theorem dL_law_480 : decode cL_law 480 = .ok (.aload_n 0, 1) := by decide +kernel
theorem dL_law_481 : decode cL_law 481 = .ok (.iload 4, 2) := by decide +kernel
theorem dL_law_483 : decode cL_law 483 = .ok (.iconst 2, 1) := by decide +kernel
theorem dL_law_484 : decode cL_law 484 = .ok (.iadd, 1) := by decide +kernel
theorem dL_law_485 : decode cL_law 485 = .ok (.iaload, 1) := by decide +kernel
theorem dL_law_486 : decode cL_law 486 = .ok (.aload_n 3, 1) := by decide +kernel
theorem dL_law_487 : decode cL_law 487 = .ok (.invokestatic 114, 3) := by decide +kernel
theorem dL_law_490 : decode cL_law 490 = .ok (.istore 5, 2) := by decide +kernel
theorem dL_law_492 : decode cL_law 492 = .ok (.aload_n 2, 1) := by decide +kernel
theorem dL_law_493 : decode cL_law 493 = .ok (.aload_n 0, 1) := by decide +kernel
theorem dL_law_494 : decode cL_law 494 = .ok (.iload 4, 2) := by decide +kernel
theorem dL_law_496 : decode cL_law 496 = .ok (.iconst 1, 1) := by decide +kernel
theorem dL_law_497 : decode cL_law 497 = .ok (.iadd, 1) := by decide +kernel
theorem dL_law_498 : decode cL_law 498 = .ok (.iaload, 1) := by decide +kernel
theorem dL_law_499 : decode cL_law 499 = .ok (.aload_n 0, 1) := by decide +kernel
theorem dL_law_500 : decode cL_law 500 = .ok (.iload 4, 2) := by decide +kernel
theorem dL_law_502 : decode cL_law 502 = .ok (.iconst 2, 1) := by decide +kernel
theorem dL_law_503 : decode cL_law 503 = .ok (.iadd, 1) := by decide +kernel
theorem dL_law_504 : decode cL_law 504 = .ok (.iaload, 1) := by decide +kernel
theorem dL_law_505 : decode cL_law 505 = .ok (.invokevirtual 117, 3) := by decide +kernel
theorem dL_law_508 : decode cL_law 508 = .ok (.istore 6, 2) := by decide +kernel
theorem dL_law_510 : decode cL_law 510 = .ok (.aload_n 2, 1) := by decide +kernel
theorem dL_law_511 : decode cL_law 511 = .ok (.invokevirtual 88, 3) := by decide +kernel
theorem dL_law_514 : decode cL_law 514 = .ok (.iload 5, 2) := by decide +kernel
theorem dL_law_516 : decode cL_law 516 = .ok (.if_icmp .eq 5, 3) := by decide +kernel
theorem dL_law_519 : decode cL_law 519 = .ok (.iconst 0, 1) := by decide +kernel
theorem dL_law_520 : decode cL_law 520 = .ok (.ireturn, 1) := by decide +kernel
theorem dL_law_521 : decode cL_law 521 = .ok (.iload 5, 2) := by decide +kernel
theorem dL_law_523 : decode cL_law 523 = .ok (.ifCond .ne 15, 3) := by decide +kernel
theorem dL_law_526 : decode cL_law 526 = .ok (.aload_n 3, 1) := by decide +kernel
theorem dL_law_527 : decode cL_law 527 = .ok (.iconst 0, 1) := by decide +kernel
theorem dL_law_528 : decode cL_law 528 = .ok (.laload, 1) := by decide +kernel
theorem dL_law_529 : decode cL_law 529 = .ok (.iload 6, 2) := by decide +kernel
theorem dL_law_531 : decode cL_law 531 = .ok (.i2l, 1) := by decide +kernel
theorem dL_law_532 : decode cL_law 532 = .ok (.lcmp, 1) := by decide +kernel
theorem dL_law_533 : decode cL_law 533 = .ok (.ifCond .eq 5, 3) := by decide +kernel
theorem dL_law_536 : decode cL_law 536 = .ok (.iconst 0, 1) := by decide +kernel
theorem dL_law_537 : decode cL_law 537 = .ok (.ireturn, 1) := by decide +kernel
theorem dL_law_538 : decode cL_law 538 = .ok (.goto 506, 3) := by decide +kernel
theorem dL_law_541 : decode cL_law 541 = .ok (.aload_n 1, 1) := by decide +kernel
theorem dL_law_542 : decode cL_law 542 = .ok (.aload_n 3, 1) := by decide +kernel
theorem dL_law_543 : decode cL_law 543 = .ok (.invokestatic 118, 3) := by decide +kernel
theorem dL_law_546 : decode cL_law 546 = .ok (.istore 5, 2) := by decide +kernel
theorem dL_law_548 : decode cL_law 548 = .ok (.aload_n 2, 1) := by decide +kernel
theorem dL_law_549 : decode cL_law 549 = .ok (.invokevirtual 121, 3) := by decide +kernel
theorem dL_law_552 : decode cL_law 552 = .ok (.istore 6, 2) := by decide +kernel
theorem dL_law_554 : decode cL_law 554 = .ok (.aload_n 2, 1) := by decide +kernel
theorem dL_law_555 : decode cL_law 555 = .ok (.invokevirtual 88, 3) := by decide +kernel
theorem dL_law_558 : decode cL_law 558 = .ok (.iload 5, 2) := by decide +kernel
theorem dL_law_560 : decode cL_law 560 = .ok (.if_icmp .eq 5, 3) := by decide +kernel
theorem dL_law_563 : decode cL_law 563 = .ok (.iconst 0, 1) := by decide +kernel
theorem dL_law_564 : decode cL_law 564 = .ok (.ireturn, 1) := by decide +kernel
theorem dL_law_565 : decode cL_law 565 = .ok (.iload 5, 2) := by decide +kernel
theorem dL_law_567 : decode cL_law 567 = .ok (.ifCond .ne 15, 3) := by decide +kernel
theorem dL_law_570 : decode cL_law 570 = .ok (.aload_n 3, 1) := by decide +kernel
theorem dL_law_571 : decode cL_law 571 = .ok (.iconst 0, 1) := by decide +kernel
theorem dL_law_572 : decode cL_law 572 = .ok (.laload, 1) := by decide +kernel
theorem dL_law_573 : decode cL_law 573 = .ok (.iload 6, 2) := by decide +kernel
theorem dL_law_575 : decode cL_law 575 = .ok (.i2l, 1) := by decide +kernel
theorem dL_law_576 : decode cL_law 576 = .ok (.lcmp, 1) := by decide +kernel
theorem dL_law_577 : decode cL_law 577 = .ok (.ifCond .eq 5, 3) := by decide +kernel
theorem dL_law_580 : decode cL_law 580 = .ok (.iconst 0, 1) := by decide +kernel
theorem dL_law_581 : decode cL_law 581 = .ok (.ireturn, 1) := by decide +kernel
theorem dL_law_582 : decode cL_law 582 = .ok (.goto 462, 3) := by decide +kernel
theorem dL_law_585 : decode cL_law 585 = .ok (.aload_n 1, 1) := by decide +kernel
theorem dL_law_586 : decode cL_law 586 = .ok (.aload_n 0, 1) := by decide +kernel
theorem dL_law_587 : decode cL_law 587 = .ok (.iload 4, 2) := by decide +kernel
theorem dL_law_589 : decode cL_law 589 = .ok (.iconst 1, 1) := by decide +kernel
theorem dL_law_590 : decode cL_law 590 = .ok (.iadd, 1) := by decide +kernel
theorem dL_law_591 : decode cL_law 591 = .ok (.iaload, 1) := by decide +kernel
theorem dL_law_592 : decode cL_law 592 = .ok (.aload_n 3, 1) := by decide +kernel
theorem dL_law_593 : decode cL_law 593 = .ok (.invokestatic 122, 3) := by decide +kernel
theorem dL_law_596 : decode cL_law 596 = .ok (.istore 5, 2) := by decide +kernel
theorem dL_law_598 : decode cL_law 598 = .ok (.aload_n 2, 1) := by decide +kernel
theorem dL_law_599 : decode cL_law 599 = .ok (.aload_n 0, 1) := by decide +kernel
theorem dL_law_600 : decode cL_law 600 = .ok (.iload 4, 2) := by decide +kernel
theorem dL_law_602 : decode cL_law 602 = .ok (.iconst 1, 1) := by decide +kernel
theorem dL_law_603 : decode cL_law 603 = .ok (.iadd, 1) := by decide +kernel
theorem dL_law_604 : decode cL_law 604 = .ok (.iaload, 1) := by decide +kernel
theorem dL_law_605 : decode cL_law 605 = .ok (.invokevirtual 124, 3) := by decide +kernel
theorem dL_law_608 : decode cL_law 608 = .ok (.istore 6, 2) := by decide +kernel
theorem dL_law_610 : decode cL_law 610 = .ok (.aload_n 2, 1) := by decide +kernel
theorem dL_law_611 : decode cL_law 611 = .ok (.invokevirtual 88, 3) := by decide +kernel
theorem dL_law_614 : decode cL_law 614 = .ok (.iload 5, 2) := by decide +kernel
theorem dL_law_616 : decode cL_law 616 = .ok (.if_icmp .eq 5, 3) := by decide +kernel
theorem dL_law_619 : decode cL_law 619 = .ok (.iconst 0, 1) := by decide +kernel
theorem dL_law_620 : decode cL_law 620 = .ok (.ireturn, 1) := by decide +kernel
theorem dL_law_621 : decode cL_law 621 = .ok (.iload 5, 2) := by decide +kernel
theorem dL_law_623 : decode cL_law 623 = .ok (.ifCond .ne 15, 3) := by decide +kernel
theorem dL_law_626 : decode cL_law 626 = .ok (.aload_n 3, 1) := by decide +kernel
theorem dL_law_627 : decode cL_law 627 = .ok (.iconst 0, 1) := by decide +kernel
theorem dL_law_628 : decode cL_law 628 = .ok (.laload, 1) := by decide +kernel
theorem dL_law_629 : decode cL_law 629 = .ok (.iload 6, 2) := by decide +kernel
theorem dL_law_631 : decode cL_law 631 = .ok (.i2l, 1) := by decide +kernel
theorem dL_law_632 : decode cL_law 632 = .ok (.lcmp, 1) := by decide +kernel
theorem dL_law_633 : decode cL_law 633 = .ok (.ifCond .eq 5, 3) := by decide +kernel
theorem dL_law_636 : decode cL_law 636 = .ok (.iconst 0, 1) := by decide +kernel
theorem dL_law_637 : decode cL_law 637 = .ok (.ireturn, 1) := by decide +kernel
theorem dL_law_638 : decode cL_law 638 = .ok (.goto 406, 3) := by decide +kernel
theorem dL_law_641 : decode cL_law 641 = .ok (.aload_n 1, 1) := by decide +kernel
theorem dL_law_642 : decode cL_law 642 = .ok (.aload_n 0, 1) := by decide +kernel
theorem dL_law_643 : decode cL_law 643 = .ok (.iload 4, 2) := by decide +kernel
theorem dL_law_645 : decode cL_law 645 = .ok (.iconst 1, 1) := by decide +kernel
theorem dL_law_646 : decode cL_law 646 = .ok (.iadd, 1) := by decide +kernel
theorem dL_law_647 : decode cL_law 647 = .ok (.iaload, 1) := by decide +kernel
theorem dL_law_648 : decode cL_law 648 = .ok (.aload_n 0, 1) := by decide +kernel
theorem dL_law_649 : decode cL_law 649 = .ok (.iload 4, 2) := by decide +kernel
theorem dL_law_651 : decode cL_law 651 = .ok (.iconst 2, 1) := by decide +kernel
theorem dL_law_652 : decode cL_law 652 = .ok (.iadd, 1) := by decide +kernel
theorem dL_law_653 : decode cL_law 653 = .ok (.iaload, 1) := by decide +kernel
theorem dL_law_654 : decode cL_law 654 = .ok (.ifCond .eq 7, 3) := by decide +kernel
theorem dL_law_657 : decode cL_law 657 = .ok (.iconst 1, 1) := by decide +kernel
theorem dL_law_658 : decode cL_law 658 = .ok (.goto 4, 3) := by decide +kernel
theorem dL_law_661 : decode cL_law 661 = .ok (.iconst 0, 1) := by decide +kernel
theorem dL_law_662 : decode cL_law 662 = .ok (.aload_n 3, 1) := by decide +kernel
theorem dL_law_663 : decode cL_law 663 = .ok (.invokestatic 125, 3) := by decide +kernel
theorem dL_law_666 : decode cL_law 666 = .ok (.istore 5, 2) := by decide +kernel
theorem dL_law_668 : decode cL_law 668 = .ok (.aload_n 2, 1) := by decide +kernel
theorem dL_law_669 : decode cL_law 669 = .ok (.aload_n 0, 1) := by decide +kernel
theorem dL_law_670 : decode cL_law 670 = .ok (.iload 4, 2) := by decide +kernel
theorem dL_law_672 : decode cL_law 672 = .ok (.iconst 1, 1) := by decide +kernel
theorem dL_law_673 : decode cL_law 673 = .ok (.iadd, 1) := by decide +kernel
theorem dL_law_674 : decode cL_law 674 = .ok (.iaload, 1) := by decide +kernel
theorem dL_law_675 : decode cL_law 675 = .ok (.aload_n 0, 1) := by decide +kernel
theorem dL_law_676 : decode cL_law 676 = .ok (.iload 4, 2) := by decide +kernel
theorem dL_law_678 : decode cL_law 678 = .ok (.iconst 2, 1) := by decide +kernel
theorem dL_law_679 : decode cL_law 679 = .ok (.iadd, 1) := by decide +kernel
theorem dL_law_680 : decode cL_law 680 = .ok (.iaload, 1) := by decide +kernel
theorem dL_law_681 : decode cL_law 681 = .ok (.ifCond .eq 7, 3) := by decide +kernel
theorem dL_law_684 : decode cL_law 684 = .ok (.iconst 1, 1) := by decide +kernel
theorem dL_law_685 : decode cL_law 685 = .ok (.goto 4, 3) := by decide +kernel
theorem dL_law_688 : decode cL_law 688 = .ok (.iconst 0, 1) := by decide +kernel
theorem dL_law_689 : decode cL_law 689 = .ok (.invokevirtual 128, 3) := by decide +kernel
theorem dL_law_692 : decode cL_law 692 = .ok (.istore 6, 2) := by decide +kernel
theorem dL_law_694 : decode cL_law 694 = .ok (.aload_n 2, 1) := by decide +kernel
theorem dL_law_695 : decode cL_law 695 = .ok (.invokevirtual 88, 3) := by decide +kernel
theorem dL_law_698 : decode cL_law 698 = .ok (.iload 5, 2) := by decide +kernel
theorem dL_law_700 : decode cL_law 700 = .ok (.if_icmp .eq 5, 3) := by decide +kernel
theorem dL_law_703 : decode cL_law 703 = .ok (.iconst 0, 1) := by decide +kernel
theorem dL_law_704 : decode cL_law 704 = .ok (.ireturn, 1) := by decide +kernel
theorem dL_law_705 : decode cL_law 705 = .ok (.iload 5, 2) := by decide +kernel
theorem dL_law_707 : decode cL_law 707 = .ok (.ifCond .ne 22, 3) := by decide +kernel
theorem dL_law_710 : decode cL_law 710 = .ok (.aload_n 3, 1) := by decide +kernel
theorem dL_law_711 : decode cL_law 711 = .ok (.iconst 0, 1) := by decide +kernel
theorem dL_law_712 : decode cL_law 712 = .ok (.laload, 1) := by decide +kernel
theorem dL_law_713 : decode cL_law 713 = .ok (.iload 6, 2) := by decide +kernel
theorem dL_law_715 : decode cL_law 715 = .ok (.ifCond .eq 7, 3) := by decide +kernel
theorem dL_law_718 : decode cL_law 718 = .ok (.lconst 1, 1) := by decide +kernel
theorem dL_law_719 : decode cL_law 719 = .ok (.goto 4, 3) := by decide +kernel
theorem dL_law_722 : decode cL_law 722 = .ok (.lconst 0, 1) := by decide +kernel
theorem dL_law_723 : decode cL_law 723 = .ok (.lcmp, 1) := by decide +kernel
theorem dL_law_724 : decode cL_law 724 = .ok (.ifCond .eq 5, 3) := by decide +kernel
theorem dL_law_727 : decode cL_law 727 = .ok (.iconst 0, 1) := by decide +kernel
theorem dL_law_728 : decode cL_law 728 = .ok (.ireturn, 1) := by decide +kernel
theorem dL_law_729 : decode cL_law 729 = .ok (.goto 315, 3) := by decide +kernel
theorem dL_law_732 : decode cL_law 732 = .ok (.aload_n 1, 1) := by decide +kernel
theorem dL_law_733 : decode cL_law 733 = .ok (.aload_n 3, 1) := by decide +kernel
theorem dL_law_734 : decode cL_law 734 = .ok (.invokestatic 129, 3) := by decide +kernel
theorem dL_law_737 : decode cL_law 737 = .ok (.istore 5, 2) := by decide +kernel
theorem dL_law_739 : decode cL_law 739 = .ok (.aload_n 2, 1) := by decide +kernel
theorem dL_law_740 : decode cL_law 740 = .ok (.invokevirtual 131, 3) := by decide +kernel
theorem dL_law_743 : decode cL_law 743 = .ok (.istore 6, 2) := by decide +kernel
theorem dL_law_745 : decode cL_law 745 = .ok (.aload_n 2, 1) := by decide +kernel
theorem dL_law_746 : decode cL_law 746 = .ok (.invokevirtual 88, 3) := by decide +kernel
theorem dL_law_749 : decode cL_law 749 = .ok (.iload 5, 2) := by decide +kernel
theorem dL_law_751 : decode cL_law 751 = .ok (.if_icmp .eq 5, 3) := by decide +kernel
theorem dL_law_754 : decode cL_law 754 = .ok (.iconst 0, 1) := by decide +kernel
theorem dL_law_755 : decode cL_law 755 = .ok (.ireturn, 1) := by decide +kernel
theorem dL_law_756 : decode cL_law 756 = .ok (.iload 5, 2) := by decide +kernel
theorem dL_law_758 : decode cL_law 758 = .ok (.ifCond .ne 15, 3) := by decide +kernel
theorem dL_law_761 : decode cL_law 761 = .ok (.aload_n 3, 1) := by decide +kernel
theorem dL_law_762 : decode cL_law 762 = .ok (.iconst 0, 1) := by decide +kernel
theorem dL_law_763 : decode cL_law 763 = .ok (.laload, 1) := by decide +kernel
theorem dL_law_764 : decode cL_law 764 = .ok (.iload 6, 2) := by decide +kernel
theorem dL_law_766 : decode cL_law 766 = .ok (.i2l, 1) := by decide +kernel
theorem dL_law_767 : decode cL_law 767 = .ok (.lcmp, 1) := by decide +kernel
theorem dL_law_768 : decode cL_law 768 = .ok (.ifCond .eq 5, 3) := by decide +kernel
theorem dL_law_771 : decode cL_law 771 = .ok (.iconst 0, 1) := by decide +kernel
theorem dL_law_772 : decode cL_law 772 = .ok (.ireturn, 1) := by decide +kernel
theorem dL_law_773 : decode cL_law 773 = .ok (.goto 271, 3) := by decide +kernel
theorem dL_law_776 : decode cL_law 776 = .ok (.aload_n 1, 1) := by decide +kernel
theorem dL_law_777 : decode cL_law 777 = .ok (.aload_n 0, 1) := by decide +kernel
theorem dL_law_778 : decode cL_law 778 = .ok (.iload 4, 2) := by decide +kernel
theorem dL_law_780 : decode cL_law 780 = .ok (.iconst 1, 1) := by decide +kernel
theorem dL_law_781 : decode cL_law 781 = .ok (.iadd, 1) := by decide +kernel
theorem dL_law_782 : decode cL_law 782 = .ok (.iaload, 1) := by decide +kernel
theorem dL_law_783 : decode cL_law 783 = .ok (.aload_n 0, 1) := by decide +kernel
theorem dL_law_784 : decode cL_law 784 = .ok (.iload 4, 2) := by decide +kernel
theorem dL_law_786 : decode cL_law 786 = .ok (.iconst 2, 1) := by decide +kernel
theorem dL_law_787 : decode cL_law 787 = .ok (.iadd, 1) := by decide +kernel
theorem dL_law_788 : decode cL_law 788 = .ok (.iaload, 1) := by decide +kernel
theorem dL_law_789 : decode cL_law 789 = .ok (.ifCond .eq 7, 3) := by decide +kernel
theorem dL_law_792 : decode cL_law 792 = .ok (.iconst 1, 1) := by decide +kernel
theorem dL_law_793 : decode cL_law 793 = .ok (.goto 4, 3) := by decide +kernel
theorem dL_law_796 : decode cL_law 796 = .ok (.iconst 0, 1) := by decide +kernel
theorem dL_law_797 : decode cL_law 797 = .ok (.aload_n 3, 1) := by decide +kernel
theorem dL_law_798 : decode cL_law 798 = .ok (.invokestatic 132, 3) := by decide +kernel
theorem dL_law_801 : decode cL_law 801 = .ok (.istore 5, 2) := by decide +kernel
theorem dL_law_803 : decode cL_law 803 = .ok (.aload_n 2, 1) := by decide +kernel
theorem dL_law_804 : decode cL_law 804 = .ok (.aload_n 0, 1) := by decide +kernel
theorem dL_law_805 : decode cL_law 805 = .ok (.iload 4, 2) := by decide +kernel
theorem dL_law_807 : decode cL_law 807 = .ok (.iconst 1, 1) := by decide +kernel
theorem dL_law_808 : decode cL_law 808 = .ok (.iadd, 1) := by decide +kernel
theorem dL_law_809 : decode cL_law 809 = .ok (.iaload, 1) := by decide +kernel
theorem dL_law_810 : decode cL_law 810 = .ok (.aload_n 0, 1) := by decide +kernel
theorem dL_law_811 : decode cL_law 811 = .ok (.iload 4, 2) := by decide +kernel
theorem dL_law_813 : decode cL_law 813 = .ok (.iconst 2, 1) := by decide +kernel
theorem dL_law_814 : decode cL_law 814 = .ok (.iadd, 1) := by decide +kernel
theorem dL_law_815 : decode cL_law 815 = .ok (.iaload, 1) := by decide +kernel
theorem dL_law_816 : decode cL_law 816 = .ok (.ifCond .eq 7, 3) := by decide +kernel
theorem dL_law_819 : decode cL_law 819 = .ok (.iconst 1, 1) := by decide +kernel
theorem dL_law_820 : decode cL_law 820 = .ok (.goto 4, 3) := by decide +kernel
theorem dL_law_823 : decode cL_law 823 = .ok (.iconst 0, 1) := by decide +kernel
theorem dL_law_824 : decode cL_law 824 = .ok (.invokevirtual 134, 3) := by decide +kernel
theorem dL_law_827 : decode cL_law 827 = .ok (.lstore 6, 2) := by decide +kernel
theorem dL_law_829 : decode cL_law 829 = .ok (.aload_n 2, 1) := by decide +kernel
theorem dL_law_830 : decode cL_law 830 = .ok (.invokevirtual 88, 3) := by decide +kernel
theorem dL_law_833 : decode cL_law 833 = .ok (.iload 5, 2) := by decide +kernel
theorem dL_law_835 : decode cL_law 835 = .ok (.if_icmp .eq 5, 3) := by decide +kernel
theorem dL_law_838 : decode cL_law 838 = .ok (.iconst 0, 1) := by decide +kernel
theorem dL_law_839 : decode cL_law 839 = .ok (.ireturn, 1) := by decide +kernel
theorem dL_law_840 : decode cL_law 840 = .ok (.iload 5, 2) := by decide +kernel
theorem dL_law_842 : decode cL_law 842 = .ok (.ifCond .ne 14, 3) := by decide +kernel
theorem dL_law_845 : decode cL_law 845 = .ok (.aload_n 3, 1) := by decide +kernel
theorem dL_law_846 : decode cL_law 846 = .ok (.iconst 0, 1) := by decide +kernel
theorem dL_law_847 : decode cL_law 847 = .ok (.laload, 1) := by decide +kernel
theorem dL_law_848 : decode cL_law 848 = .ok (.lload 6, 2) := by decide +kernel
theorem dL_law_850 : decode cL_law 850 = .ok (.lcmp, 1) := by decide +kernel
theorem dL_law_851 : decode cL_law 851 = .ok (.ifCond .eq 5, 3) := by decide +kernel
theorem dL_law_854 : decode cL_law 854 = .ok (.iconst 0, 1) := by decide +kernel
theorem dL_law_855 : decode cL_law 855 = .ok (.ireturn, 1) := by decide +kernel
theorem dL_law_856 : decode cL_law 856 = .ok (.goto 188, 3) := by decide +kernel
theorem dL_law_859 : decode cL_law 859 = .ok (.aload_n 1, 1) := by decide +kernel
theorem dL_law_860 : decode cL_law 860 = .ok (.aload_n 0, 1) := by decide +kernel
theorem dL_law_861 : decode cL_law 861 = .ok (.iload 4, 2) := by decide +kernel
theorem dL_law_863 : decode cL_law 863 = .ok (.iconst 1, 1) := by decide +kernel
theorem dL_law_864 : decode cL_law 864 = .ok (.iadd, 1) := by decide +kernel
theorem dL_law_865 : decode cL_law 865 = .ok (.iaload, 1) := by decide +kernel
theorem dL_law_866 : decode cL_law 866 = .ok (.aload_n 3, 1) := by decide +kernel
theorem dL_law_867 : decode cL_law 867 = .ok (.invokestatic 135, 3) := by decide +kernel
theorem dL_law_870 : decode cL_law 870 = .ok (.istore 5, 2) := by decide +kernel
theorem dL_law_872 : decode cL_law 872 = .ok (.aload_n 2, 1) := by decide +kernel
theorem dL_law_873 : decode cL_law 873 = .ok (.aload_n 0, 1) := by decide +kernel
theorem dL_law_874 : decode cL_law 874 = .ok (.iload 4, 2) := by decide +kernel
theorem dL_law_876 : decode cL_law 876 = .ok (.iconst 1, 1) := by decide +kernel
theorem dL_law_877 : decode cL_law 877 = .ok (.iadd, 1) := by decide +kernel
theorem dL_law_878 : decode cL_law 878 = .ok (.iaload, 1) := by decide +kernel
theorem dL_law_879 : decode cL_law 879 = .ok (.invokevirtual 137, 3) := by decide +kernel
theorem dL_law_882 : decode cL_law 882 = .ok (.lstore 6, 2) := by decide +kernel
theorem dL_law_884 : decode cL_law 884 = .ok (.aload_n 2, 1) := by decide +kernel
theorem dL_law_885 : decode cL_law 885 = .ok (.invokevirtual 88, 3) := by decide +kernel
theorem dL_law_888 : decode cL_law 888 = .ok (.iload 5, 2) := by decide +kernel
theorem dL_law_890 : decode cL_law 890 = .ok (.if_icmp .eq 5, 3) := by decide +kernel
theorem dL_law_893 : decode cL_law 893 = .ok (.iconst 0, 1) := by decide +kernel
theorem dL_law_894 : decode cL_law 894 = .ok (.ireturn, 1) := by decide +kernel
theorem dL_law_895 : decode cL_law 895 = .ok (.iload 5, 2) := by decide +kernel
theorem dL_law_897 : decode cL_law 897 = .ok (.ifCond .ne 14, 3) := by decide +kernel
theorem dL_law_900 : decode cL_law 900 = .ok (.aload_n 3, 1) := by decide +kernel
theorem dL_law_901 : decode cL_law 901 = .ok (.iconst 0, 1) := by decide +kernel
theorem dL_law_902 : decode cL_law 902 = .ok (.laload, 1) := by decide +kernel
theorem dL_law_903 : decode cL_law 903 = .ok (.lload 6, 2) := by decide +kernel
theorem dL_law_905 : decode cL_law 905 = .ok (.lcmp, 1) := by decide +kernel
theorem dL_law_906 : decode cL_law 906 = .ok (.ifCond .eq 5, 3) := by decide +kernel
theorem dL_law_909 : decode cL_law 909 = .ok (.iconst 0, 1) := by decide +kernel
theorem dL_law_910 : decode cL_law 910 = .ok (.ireturn, 1) := by decide +kernel
theorem dL_law_911 : decode cL_law 911 = .ok (.goto 133, 3) := by decide +kernel
theorem dL_law_914 : decode cL_law 914 = .ok (.aload_n 1, 1) := by decide +kernel
theorem dL_law_915 : decode cL_law 915 = .ok (.aload_n 3, 1) := by decide +kernel
theorem dL_law_916 : decode cL_law 916 = .ok (.invokestatic 138, 3) := by decide +kernel
theorem dL_law_919 : decode cL_law 919 = .ok (.istore 5, 2) := by decide +kernel
theorem dL_law_921 : decode cL_law 921 = .ok (.aload_n 2, 1) := by decide +kernel
theorem dL_law_922 : decode cL_law 922 = .ok (.invokevirtual 140, 3) := by decide +kernel
theorem dL_law_925 : decode cL_law 925 = .ok (.lstore 6, 2) := by decide +kernel
theorem dL_law_927 : decode cL_law 927 = .ok (.aload_n 2, 1) := by decide +kernel
theorem dL_law_928 : decode cL_law 928 = .ok (.invokevirtual 88, 3) := by decide +kernel
theorem dL_law_931 : decode cL_law 931 = .ok (.iload 5, 2) := by decide +kernel
theorem dL_law_933 : decode cL_law 933 = .ok (.if_icmp .eq 5, 3) := by decide +kernel
theorem dL_law_936 : decode cL_law 936 = .ok (.iconst 0, 1) := by decide +kernel
theorem dL_law_937 : decode cL_law 937 = .ok (.ireturn, 1) := by decide +kernel
theorem dL_law_938 : decode cL_law 938 = .ok (.iload 5, 2) := by decide +kernel
theorem dL_law_940 : decode cL_law 940 = .ok (.ifCond .ne 14, 3) := by decide +kernel
theorem dL_law_943 : decode cL_law 943 = .ok (.aload_n 3, 1) := by decide +kernel
theorem dL_law_944 : decode cL_law 944 = .ok (.iconst 0, 1) := by decide +kernel
theorem dL_law_945 : decode cL_law 945 = .ok (.laload, 1) := by decide +kernel
theorem dL_law_946 : decode cL_law 946 = .ok (.lload 6, 2) := by decide +kernel
theorem dL_law_948 : decode cL_law 948 = .ok (.lcmp, 1) := by decide +kernel
theorem dL_law_949 : decode cL_law 949 = .ok (.ifCond .eq 5, 3) := by decide +kernel
theorem dL_law_952 : decode cL_law 952 = .ok (.iconst 0, 1) := by decide +kernel
theorem dL_law_953 : decode cL_law 953 = .ok (.ireturn, 1) := by decide +kernel
theorem dL_law_954 : decode cL_law 954 = .ok (.goto 90, 3) := by decide +kernel
theorem dL_law_957 : decode cL_law 957 = .ok (.aload_n 1, 1) := by decide +kernel
theorem dL_law_958 : decode cL_law 958 = .ok (.aload_n 3, 1) := by decide +kernel
theorem dL_law_959 : decode cL_law 959 = .ok (.invokestatic 141, 3) := by decide +kernel
theorem dL_law_962 : decode cL_law 962 = .ok (.istore 5, 2) := by decide +kernel
theorem dL_law_964 : decode cL_law 964 = .ok (.aload_n 2, 1) := by decide +kernel
theorem dL_law_965 : decode cL_law 965 = .ok (.invokevirtual 143, 3) := by decide +kernel
theorem dL_law_968 : decode cL_law 968 = .ok (.lstore 6, 2) := by decide +kernel
theorem dL_law_970 : decode cL_law 970 = .ok (.aload_n 2, 1) := by decide +kernel
theorem dL_law_971 : decode cL_law 971 = .ok (.invokevirtual 88, 3) := by decide +kernel
theorem dL_law_974 : decode cL_law 974 = .ok (.iload 5, 2) := by decide +kernel
theorem dL_law_976 : decode cL_law 976 = .ok (.if_icmp .eq 5, 3) := by decide +kernel
theorem dL_law_979 : decode cL_law 979 = .ok (.iconst 0, 1) := by decide +kernel
theorem dL_law_980 : decode cL_law 980 = .ok (.ireturn, 1) := by decide +kernel
theorem dL_law_981 : decode cL_law 981 = .ok (.iload 5, 2) := by decide +kernel
theorem dL_law_983 : decode cL_law 983 = .ok (.ifCond .ne 14, 3) := by decide +kernel
theorem dL_law_986 : decode cL_law 986 = .ok (.aload_n 3, 1) := by decide +kernel
theorem dL_law_987 : decode cL_law 987 = .ok (.iconst 0, 1) := by decide +kernel
theorem dL_law_988 : decode cL_law 988 = .ok (.laload, 1) := by decide +kernel
theorem dL_law_989 : decode cL_law 989 = .ok (.lload 6, 2) := by decide +kernel
theorem dL_law_991 : decode cL_law 991 = .ok (.lcmp, 1) := by decide +kernel
theorem dL_law_992 : decode cL_law 992 = .ok (.ifCond .eq 5, 3) := by decide +kernel
theorem dL_law_995 : decode cL_law 995 = .ok (.iconst 0, 1) := by decide +kernel
theorem dL_law_996 : decode cL_law 996 = .ok (.ireturn, 1) := by decide +kernel
theorem dL_law_997 : decode cL_law 997 = .ok (.goto 47, 3) := by decide +kernel
theorem dL_law_1000 : decode cL_law 1000 = .ok (.aload_n 1, 1) := by decide +kernel
theorem dL_law_1001 : decode cL_law 1001 = .ok (.aload_n 3, 1) := by decide +kernel
theorem dL_law_1002 : decode cL_law 1002 = .ok (.invokestatic 144, 3) := by decide +kernel
theorem dL_law_1005 : decode cL_law 1005 = .ok (.istore 5, 2) := by decide +kernel
theorem dL_law_1007 : decode cL_law 1007 = .ok (.aload_n 2, 1) := by decide +kernel
theorem dL_law_1008 : decode cL_law 1008 = .ok (.invokevirtual 146, 3) := by decide +kernel
theorem dL_law_1011 : decode cL_law 1011 = .ok (.istore 6, 2) := by decide +kernel
theorem dL_law_1013 : decode cL_law 1013 = .ok (.aload_n 2, 1) := by decide +kernel
theorem dL_law_1014 : decode cL_law 1014 = .ok (.invokevirtual 88, 3) := by decide +kernel
theorem dL_law_1017 : decode cL_law 1017 = .ok (.iload 5, 2) := by decide +kernel
theorem dL_law_1019 : decode cL_law 1019 = .ok (.if_icmp .eq 5, 3) := by decide +kernel
theorem dL_law_1022 : decode cL_law 1022 = .ok (.iconst 0, 1) := by decide +kernel
theorem dL_law_1023 : decode cL_law 1023 = .ok (.ireturn, 1) := by decide +kernel
theorem dL_law_1024 : decode cL_law 1024 = .ok (.iload 5, 2) := by decide +kernel
theorem dL_law_1026 : decode cL_law 1026 = .ok (.ifCond .ne 15, 3) := by decide +kernel
theorem dL_law_1029 : decode cL_law 1029 = .ok (.aload_n 3, 1) := by decide +kernel
theorem dL_law_1030 : decode cL_law 1030 = .ok (.iconst 0, 1) := by decide +kernel
theorem dL_law_1031 : decode cL_law 1031 = .ok (.laload, 1) := by decide +kernel
theorem dL_law_1032 : decode cL_law 1032 = .ok (.iload 6, 2) := by decide +kernel
theorem dL_law_1034 : decode cL_law 1034 = .ok (.i2l, 1) := by decide +kernel
theorem dL_law_1035 : decode cL_law 1035 = .ok (.lcmp, 1) := by decide +kernel
theorem dL_law_1036 : decode cL_law 1036 = .ok (.ifCond .eq 5, 3) := by decide +kernel
theorem dL_law_1039 : decode cL_law 1039 = .ok (.iconst 0, 1) := by decide +kernel
theorem dL_law_1040 : decode cL_law 1040 = .ok (.ireturn, 1) := by decide +kernel
theorem dL_law_1041 : decode cL_law 1041 = .ok (.goto 3, 3) := by decide +kernel
theorem dL_law_1044 : decode cL_law 1044 = .ok (.iinc 4 5, 3) := by decide +kernel
theorem dL_law_1047 : decode cL_law 1047 = .ok (.goto (-1024), 3) := by decide +kernel
theorem dL_law_1050 : decode cL_law 1050 = .ok (.iconst 1, 1) := by decide +kernel
theorem dL_law_1051 : decode cL_law 1051 = .ok (.ireturn, 1) := by decide +kernel
abbrev vwCl : List vw_C := [(RX0, TX0, 10), (RX1, TX1, 5), (RX2, TX2, 14), (RX3, TX3, 7), (RX4, TX4, 37)]
end
section
/-! Worlds, contracts and calls of this claim: my own words. -/
abbrev xG : Type := va_G × (Nat → ClassId)
def xTy (G : xG) : List (ClassId × FieldType) := [(G.2 0, .int), (G.2 1, .long), (G.2 2, .boolean)]
def xK (G : xG) (U : State) : Prop := va_K G.1 vwCl (xTy G) U ∧ va_Nw (.methodLinkNest RX2 66 yX3_placeU RX3) U ∧ va_Nw (.methodLinkNest RX2 70 yX3_placeV RX3) U
theorem xK.warm {G : xG} {u U : State} (h : u.WarmedH U.vm) (k : xK G u) : xK G U := ⟨va_K.moved h.alike k.1, va_Nw.warmM h k.2.1, va_Nw.warmM h k.2.2⟩
def tS {α : Type} (T : Nat → α) (j : Nat) (f : α) : Nat → α := fun k => if k = j then f else T k
theorem tS_self {α : Type} (T : Nat → α) (j : Nat) (f : α) : tS T j f j = f := if_pos rfl
theorem tS_ne {α : Type} (T : Nat → α) {j k : Nat} (f : α) (h : k ≠ j) : tS T j f k = T k := if_neg h

def wX (G : xG) (a : Nat → Nat) (S T : Nat → Nat → Int32) (L : Nat → Nat → Int64) (F : Nat → Int32) (bs : Int64) : va_W := [(a 0, .inr (3, [.ref (a 1), .ref (a 6), .ref (a 19), .int (F 0), .int (F 1), .int (F 2), .int (F 3)])), (a 1, .inr (1, [.ref (a 2), .ref (a 3), .ref (a 4), .ref (a 5), .int (F 4)])), (a 2, .inl (G.2 0, 10, .inl (S 0))), (a 3, .inl (G.2 0, 10, .inl (S 1))), (a 4, .inl (G.2 0, 10, .inl (S 2))), (a 5, .inl (G.2 0, 10, .inl (S 3))), (a 6, .inr (2, [.ref (a 7), .ref (a 8), .ref (a 9), .ref (a 10), .ref (a 11), .ref (a 12), .ref (a 13), .ref (a 14), .ref (a 15), .ref (a 16), .ref (a 17), .ref (a 18), .int (F 5), .int (F 6)])), (a 7, .inl (G.2 0, 19, .inl (T 0))), (a 8, .inl (G.2 0, 19, .inl (T 1))), (a 9, .inl (G.2 0, 19, .inl (T 2))), (a 10, .inl (G.2 0, 19, .inl (T 3))), (a 11, .inl (G.2 0, 19, .inl (T 4))), (a 12, .inl (G.2 0, 19, .inl (T 5))), (a 13, .inl (G.2 0, 19, .inl (T 6))), (a 14, .inl (G.2 0, 19, .inl (T 7))), (a 15, .inl (G.2 0, 19, .inl (T 8))), (a 16, .inl (G.2 0, 19, .inl (T 9))), (a 17, .inl (G.2 0, 19, .inl (T 10))), (a 18, .inl (G.2 0, 10, .inl (T 11))), (a 19, .inr (0, [.ref (a 20), .ref (a 21), .ref (a 22), .int (F 7), .int (F 8), .int (F 9), .int (F 10), .int (F 11), .long bs, .int (F 12)])), (a 20, .inl (G.2 1, 19, .inr (.inl (L 0)))), (a 21, .inl (G.2 1, 19, .inr (.inl (L 1)))), (a 22, .inl (G.2 1, 19, .inr (.inl (L 2))))]
def wM (G : xG) (a : Nat → Nat) (S T K Z : Nat → Nat → Int32) (L : Nat → Nat → Int64) (F : Nat → Int32) : va_W := [(a 0, .inr (4, [.int (F 3), .int (F 4), .ref (a 1), .ref (a 2), .ref (a 3), .ref (a 4), .int (F 0), .int (F 1), .int (F 7), .int (F 8), .int (F 9), .int (F 10), .int (F 11), .int (F 2), .int (F 6), .ref (a 5), .ref (a 6), .ref (a 7), .ref (a 8), .ref (a 9), .ref (a 10), .ref (a 11), .ref (a 12), .ref (a 13), .ref (a 14), .ref (a 15), .ref (a 16), .ref (a 17), .ref (a 18), .int (F 5), .ref (a 19), .ref (a 20), .ref (a 21), .ref (a 22), .ref (a 23), .ref (a 24), .ref (a 25)])), (a 1, .inl (G.2 0, 10, .inl (S 0))), (a 2, .inl (G.2 0, 10, .inl (S 1))), (a 3, .inl (G.2 0, 10, .inl (S 2))), (a 4, .inl (G.2 0, 10, .inl (S 3))), (a 5, .inl (G.2 0, 19, .inl (T 0))), (a 6, .inl (G.2 0, 19, .inl (T 1))), (a 7, .inl (G.2 0, 19, .inl (T 2))), (a 8, .inl (G.2 0, 19, .inl (T 3))), (a 9, .inl (G.2 0, 19, .inl (T 4))), (a 10, .inl (G.2 0, 19, .inl (T 5))), (a 11, .inl (G.2 0, 19, .inl (T 6))), (a 12, .inl (G.2 0, 19, .inl (T 7))), (a 13, .inl (G.2 0, 19, .inl (T 8))), (a 14, .inl (G.2 0, 19, .inl (T 9))), (a 15, .inl (G.2 0, 19, .inl (T 10))), (a 16, .inl (G.2 2, 19, .inl (Z 0))), (a 17, .inl (G.2 2, 19, .inl (Z 1))), (a 18, .inl (G.2 0, 10, .inl (T 11))), (a 19, .inl (G.2 0, 12, .inl (K 0))), (a 20, .inl (G.2 0, 12, .inl (K 1))), (a 21, .inl (G.2 0, 12, .inl (K 2))), (a 22, .inl (G.2 0, 12, .inl (K 3))), (a 23, .inl (G.2 0, 12, .inl (K 4))), (a 24, .inl (G.2 1, 19, .inr (.inl (L 0)))), (a 25, .inl (G.2 1, 19, .inr (.inl (L 1))))]
section XBASE
variable {p : Program} {l : Launch} {e : Env} {R : Room} {s : State} {m : MethodId} {args : Array Value} {below : List Frame} {meth : Method} {c : Code} {H : Heap} {locs : List Loc} {cells slots : Nat} {Q : State → Prop}
variable {cc : ByteArray} {pc : Nat} {ls : Array Slot} {rest : List Value} {A : Nat → Prop} {H0 : Heap} {own : String} {Ts : List Cond} {G : xG} {a : Nat → Nat} {w w' : va_W}
/-- what stays the same through a method's walk -/
def xC (p : Program) (c : Code) (m : MethodId) (s : State) (args : Array Value) (cc : ByteArray) (own : String) (Ts : List Cond) (G : xG) : Prop := p.tables.exec = Jvm.exec ∧ c.code = cc ∧ s.vm.findClass own = some m.cls ∧ (∀ w ∈ Ts, w.before args s = true) ∧ xK G s
/-- the heap holds w, apart, in A; nothing else has changed since H0 -/
def xH (G : xG) (A : Nat → Prop) (H0 H : Heap) (locs : List Loc) (w : va_W) : Prop := va_P G.1 vwCl w H ∧ va_D A w ∧ va_S A H0 H locs
theorem x_toi {x y : Int32} (h : x = y) (k : W p l e R s m args below meth c H locs cells slots Q (F0 m pc ls (.int y :: rest))) : W p l e R s m args below meth c H locs cells slots Q (F0 m pc ls (.int x :: rest)) := h ▸ k
theorem x_tol {x y : Int64} (h : x = y) (k : W p l e R s m args below meth c H locs cells slots Q (F0 m pc ls (.long y :: rest))) : W p l e R s m args below meth c H locs cells slots Q (F0 m pc ls (.long x :: rest)) := h ▸ k
theorem x_eqw (h : w = w') (k : xH G A H0 H locs w) : xH G A H0 H locs w' := h ▸ k
theorem x_get {ref C : String} {T : u_T} {N ci index : Nat} (h : xC p c m s args cc own Ts G) (hin : ∀ w ∈ u_ws C T N, w ∈ Ts) (hH : xH G A H0 H locs w) (q0 : Nat) {b : Nat} {fs : List Value} (he : w[q0]? = some (b, .inr (ci, fs))) (hc : vwCl[ci]? = some (C, T, N)) (k : Nat) (hk : k < N) (hr : (T k).1 = ref) {v : Value} (hv : fs[k]? = some v) (i : Nat) (hl : Ts[i]? = some (Cond.fieldLink own index ref (T k).2.1 (T k).2.2.1)) (hdg : decode cc pc = .ok (.getfield index, 3))
    (kk : W p l e R s m args below meth c H locs cells slots Q (F0 m (pc + 3) ls (v :: rest))) : W p l e R s m args below meth c H locs cells slots Q (F0 m pc ls (.ref b :: rest)) := by
  obtain ⟨hx, hb, hown, hts, hK⟩ := h
  subst hr
  exact va_get hx hb hts hin hown hK.1 hH.1 q0 he hc k hk (hts _ (List.mem_of_getElem? hl)) (fun _ h9 => h9) hv hdg kk
theorem x_put {ref C : String} {T : u_T} {N ci index : Nat} (h : xC p c m s args cc own Ts G) (hin : ∀ w ∈ u_ws C T N, w ∈ Ts) (ty0 : Nat → FieldType) (hty : ∀ k, k < N → parseFieldDescriptor (T k).2.2.1 = some (ty0 k)) (hnm : ∀ a, a < N → ∀ b, b < N → a ≠ b → (T a).2.1 ≠ (T b).2.1) (hH : xH G A H0 H locs w) (q0 : Nat) {b : Nat} {fs : List Value} (he : w[q0]? = some (b, .inr (ci, fs))) (hc : vwCl[ci]? = some (C, T, N)) (k : Nat) (hk : k < N) (hr : (T k).1 = ref) (hfin : (T k).2.2.2 = false) {v : Value} (hn : narrow (ty0 k) v = v) (hfit : fits (ty0 k) v = true) (hlen : k < fs.length) (hw : w.set q0 (b, .inr (ci, fs.set k v)) = w') (i : Nat) (hl : Ts[i]? = some (Cond.fieldLink own index ref (T k).2.1 (T k).2.2.1)) (hdg : decode cc pc = .ok (.putfield index, 3))
    (kk : ∀ (H1 : Heap) (locs1 : List Loc), xH G A H0 H1 locs1 w' → W p l e R s m args below meth c H1 locs1 cells slots Q (F0 m (pc + 3) ls rest)) : W p l e R s m args below meth c H locs cells slots Q (F0 m pc ls (v :: .ref b :: rest)) := by
  obtain ⟨hx, hb, hown, hts, hK⟩ := h
  subst hr
  subst hw
  exact va_put hx hb hts hin ty0 hty hnm hown hK.1 hH.1 hH.2.1 hH.2.2 q0 he hc k hk (hts _ (List.mem_of_getElem? hl)) (fun _ h9 => h9) hfin (hty k hk) hn hfit hlen hdg (fun H1 locs1 h1 h2 h3 => kk H1 locs1 ⟨h1, h2, h3⟩)
theorem x_iald (h : xC p c m s args cc own Ts G) (hH : xH G A H0 H locs w) (q0 : Nat) {b n : Nat} {f : Nat → Int32} (he : w[q0]? = some (b, .inl (G.2 0, n, .inl f))) {j : Nat} (hj : j < n) (hn : n < 2 ^ 31) {v : Int32} (hv : f j = v) (hdg : decode cc pc = .ok (.iaload, 1))
    (kk : W p l e R s m args below meth c H locs cells slots Q (F0 m (pc + 1) ls (.int v :: rest))) : W p l e R s m args below meth c H locs cells slots Q (F0 m pc ls (.int (nI j) :: .ref b :: rest)) := by
  obtain ⟨hx, hb, hown, hts, hK⟩ := h
  subst hv
  refine va_iald hx hb hK.1 hH.1 q0 0 he rfl (vp_in_nI hj hn) hdg ?_
  rw [nI_clamp (Nat.lt_trans hj hn)]
  exact kk
theorem x_zald (h : xC p c m s args cc own Ts G) (hH : xH G A H0 H locs w) (q0 : Nat) {b n : Nat} {f : Nat → Int32} (he : w[q0]? = some (b, .inl (G.2 2, n, .inl f))) {j : Nat} (hj : j < n) (hn : n < 2 ^ 31) {v : Int32} (hv : f j = v) (hdg : decode cc pc = .ok (.baload, 1))
    (kk : W p l e R s m args below meth c H locs cells slots Q (F0 m (pc + 1) ls (.int v :: rest))) : W p l e R s m args below meth c H locs cells slots Q (F0 m pc ls (.int (nI j) :: .ref b :: rest)) := by
  obtain ⟨hx, hb, hown, hts, hK⟩ := h
  subst hv
  refine va_zald hx hb hK.1 hH.1 q0 2 he rfl (vp_in_nI hj hn) hdg ?_
  rw [nI_clamp (Nat.lt_trans hj hn)]
  exact kk
theorem x_lald (h : xC p c m s args cc own Ts G) (hH : xH G A H0 H locs w) (q0 : Nat) {b n : Nat} {f : Nat → Int64} (he : w[q0]? = some (b, .inl (G.2 1, n, .inr (.inl f)))) {j : Nat} (hj : j < n) (hn : n < 2 ^ 31) {v : Int64} (hv : f j = v) (hdg : decode cc pc = .ok (.laload, 1))
    (kk : W p l e R s m args below meth c H locs cells slots Q (F0 m (pc + 1) ls (.long v :: rest))) : W p l e R s m args below meth c H locs cells slots Q (F0 m pc ls (.int (nI j) :: .ref b :: rest)) := by
  obtain ⟨hx, hb, hown, hts, hK⟩ := h
  subst hv
  refine va_lald hx hb hK.1 hH.1 q0 1 he rfl (vp_in_nI hj hn) hdg ?_
  rw [nI_clamp (Nat.lt_trans hj hn)]
  exact kk
theorem x_iast (h : xC p c m s args cc own Ts G) (hH : xH G A H0 H locs w) (q0 : Nat) {b n : Nat} {f : Nat → Int32} (he : w[q0]? = some (b, .inl (G.2 0, n, .inl f))) {j : Nat} (hj : j < n) (hn : n < 2 ^ 31) {x : Int32} (hw : w.set q0 (b, .inl (G.2 0, n, .inl (upd f j x))) = w') (hdg : decode cc pc = .ok (.iastore, 1))
    (kk : ∀ (H1 : Heap) (locs1 : List Loc), xH G A H0 H1 locs1 w' → W p l e R s m args below meth c H1 locs1 cells slots Q (F0 m (pc + 1) ls rest)) : W p l e R s m args below meth c H locs cells slots Q (F0 m pc ls (.int x :: .int (nI j) :: .ref b :: rest)) := by
  obtain ⟨hx, hb, hown, hts, hK⟩ := h
  subst hw
  refine va_iast hx hb hK.1 hH.1 hH.2.1 hH.2.2 q0 0 he rfl (vp_in_nI hj hn) hdg (fun H1 locs1 h1 h2 h3 => kk H1 locs1 ⟨?_, ?_, h3⟩)
  · rw [nI_clamp (Nat.lt_trans hj hn)] at h1; exact h1
  · rw [nI_clamp (Nat.lt_trans hj hn)] at h2; exact h2
theorem x_zast (h : xC p c m s args cc own Ts G) (hH : xH G A H0 H locs w) (q0 : Nat) {b n : Nat} {f : Nat → Int32} (he : w[q0]? = some (b, .inl (G.2 2, n, .inl f))) {j : Nat} (hj : j < n) (hn : n < 2 ^ 31) {x : Int32} (hnx : vp_nar .boolean x = x) (hw : w.set q0 (b, .inl (G.2 2, n, .inl (upd f j x))) = w') (hdg : decode cc pc = .ok (.bastore, 1))
    (kk : ∀ (H1 : Heap) (locs1 : List Loc), xH G A H0 H1 locs1 w' → W p l e R s m args below meth c H1 locs1 cells slots Q (F0 m (pc + 1) ls rest)) : W p l e R s m args below meth c H locs cells slots Q (F0 m pc ls (.int x :: .int (nI j) :: .ref b :: rest)) := by
  obtain ⟨hx, hb, hown, hts, hK⟩ := h
  subst hw
  refine va_zast hx hb hK.1 hH.1 hH.2.1 hH.2.2 q0 2 he rfl (vp_in_nI hj hn) hdg (fun H1 locs1 h1 h2 h3 => kk H1 locs1 ⟨?_, ?_, h3⟩)
  · rw [nI_clamp (Nat.lt_trans hj hn), hnx] at h1; exact h1
  · rw [nI_clamp (Nat.lt_trans hj hn), hnx] at h2; exact h2
theorem x_last (h : xC p c m s args cc own Ts G) (hH : xH G A H0 H locs w) (q0 : Nat) {b n : Nat} {f : Nat → Int64} (he : w[q0]? = some (b, .inl (G.2 1, n, .inr (.inl f)))) {j : Nat} (hj : j < n) (hn : n < 2 ^ 31) {x : Int64} (hw : w.set q0 (b, .inl (G.2 1, n, .inr (.inl (vp_updL f j x)))) = w') (hdg : decode cc pc = .ok (.lastore, 1))
    (kk : ∀ (H1 : Heap) (locs1 : List Loc), xH G A H0 H1 locs1 w' → W p l e R s m args below meth c H1 locs1 cells slots Q (F0 m (pc + 1) ls rest)) : W p l e R s m args below meth c H locs cells slots Q (F0 m pc ls (.long x :: .int (nI j) :: .ref b :: rest)) := by
  obtain ⟨hx, hb, hown, hts, hK⟩ := h
  subst hw
  refine va_last hx hb hK.1 hH.1 hH.2.1 hH.2.2 q0 1 he rfl (vp_in_nI hj hn) hdg (fun H1 locs1 h1 h2 h3 => kk H1 locs1 ⟨?_, ?_, h3⟩)
  · rw [nI_clamp (Nat.lt_trans hj hn)] at h1; exact h1
  · rw [nI_clamp (Nat.lt_trans hj hn)] at h2; exact h2

section
variable {G : xG} {a : Nat → Nat} {S T : Nat → Nat → Int32} {L : Nat → Nat → Int64} {F : Nat → Int32} {bs : Int64}
theorem gX_0 : (wX G a S T L F bs)[0]? = some (a 0, .inr (3, [.ref (a 1), .ref (a 6), .ref (a 19), .int (F 0), .int (F 1), .int (F 2), .int (F 3)])) := rfl
theorem gX_1 : (wX G a S T L F bs)[1]? = some (a 1, .inr (1, [.ref (a 2), .ref (a 3), .ref (a 4), .ref (a 5), .int (F 4)])) := rfl
theorem gX_2 : (wX G a S T L F bs)[2]? = some (a 2, .inl (G.2 0, 10, .inl (S 0))) := rfl
theorem gX_3 : (wX G a S T L F bs)[3]? = some (a 3, .inl (G.2 0, 10, .inl (S 1))) := rfl
theorem gX_4 : (wX G a S T L F bs)[4]? = some (a 4, .inl (G.2 0, 10, .inl (S 2))) := rfl
theorem gX_5 : (wX G a S T L F bs)[5]? = some (a 5, .inl (G.2 0, 10, .inl (S 3))) := rfl
theorem gX_6 : (wX G a S T L F bs)[6]? = some (a 6, .inr (2, [.ref (a 7), .ref (a 8), .ref (a 9), .ref (a 10), .ref (a 11), .ref (a 12), .ref (a 13), .ref (a 14), .ref (a 15), .ref (a 16), .ref (a 17), .ref (a 18), .int (F 5), .int (F 6)])) := rfl
theorem gX_7 : (wX G a S T L F bs)[7]? = some (a 7, .inl (G.2 0, 19, .inl (T 0))) := rfl
theorem gX_8 : (wX G a S T L F bs)[8]? = some (a 8, .inl (G.2 0, 19, .inl (T 1))) := rfl
theorem gX_9 : (wX G a S T L F bs)[9]? = some (a 9, .inl (G.2 0, 19, .inl (T 2))) := rfl
theorem gX_10 : (wX G a S T L F bs)[10]? = some (a 10, .inl (G.2 0, 19, .inl (T 3))) := rfl
theorem gX_11 : (wX G a S T L F bs)[11]? = some (a 11, .inl (G.2 0, 19, .inl (T 4))) := rfl
theorem gX_12 : (wX G a S T L F bs)[12]? = some (a 12, .inl (G.2 0, 19, .inl (T 5))) := rfl
theorem gX_13 : (wX G a S T L F bs)[13]? = some (a 13, .inl (G.2 0, 19, .inl (T 6))) := rfl
theorem gX_14 : (wX G a S T L F bs)[14]? = some (a 14, .inl (G.2 0, 19, .inl (T 7))) := rfl
theorem gX_15 : (wX G a S T L F bs)[15]? = some (a 15, .inl (G.2 0, 19, .inl (T 8))) := rfl
theorem gX_16 : (wX G a S T L F bs)[16]? = some (a 16, .inl (G.2 0, 19, .inl (T 9))) := rfl
theorem gX_17 : (wX G a S T L F bs)[17]? = some (a 17, .inl (G.2 0, 19, .inl (T 10))) := rfl
theorem gX_18 : (wX G a S T L F bs)[18]? = some (a 18, .inl (G.2 0, 10, .inl (T 11))) := rfl
theorem gX_19 : (wX G a S T L F bs)[19]? = some (a 19, .inr (0, [.ref (a 20), .ref (a 21), .ref (a 22), .int (F 7), .int (F 8), .int (F 9), .int (F 10), .int (F 11), .long bs, .int (F 12)])) := rfl
theorem gX_20 : (wX G a S T L F bs)[20]? = some (a 20, .inl (G.2 1, 19, .inr (.inl (L 0)))) := rfl
theorem gX_21 : (wX G a S T L F bs)[21]? = some (a 21, .inl (G.2 1, 19, .inr (.inl (L 1)))) := rfl
theorem gX_22 : (wX G a S T L F bs)[22]? = some (a 22, .inl (G.2 1, 19, .inr (.inl (L 2)))) := rfl
theorem fX_0_3 {x : Int32} : (wX G a S T L F bs).set 0 (a 0, .inr (3, ([.ref (a 1), .ref (a 6), .ref (a 19), .int (F 0), .int (F 1), .int (F 2), .int (F 3)] : List Value).set 3 (.int x))) = wX G a S T L (tS F 0 x) bs := rfl
theorem fX_0_4 {x : Int32} : (wX G a S T L F bs).set 0 (a 0, .inr (3, ([.ref (a 1), .ref (a 6), .ref (a 19), .int (F 0), .int (F 1), .int (F 2), .int (F 3)] : List Value).set 4 (.int x))) = wX G a S T L (tS F 1 x) bs := rfl
theorem fX_0_5 {x : Int32} : (wX G a S T L F bs).set 0 (a 0, .inr (3, ([.ref (a 1), .ref (a 6), .ref (a 19), .int (F 0), .int (F 1), .int (F 2), .int (F 3)] : List Value).set 5 (.int x))) = wX G a S T L (tS F 2 x) bs := rfl
theorem fX_0_6 {x : Int32} : (wX G a S T L F bs).set 0 (a 0, .inr (3, ([.ref (a 1), .ref (a 6), .ref (a 19), .int (F 0), .int (F 1), .int (F 2), .int (F 3)] : List Value).set 6 (.int x))) = wX G a S T L (tS F 3 x) bs := rfl
theorem fX_1_4 {x : Int32} : (wX G a S T L F bs).set 1 (a 1, .inr (1, ([.ref (a 2), .ref (a 3), .ref (a 4), .ref (a 5), .int (F 4)] : List Value).set 4 (.int x))) = wX G a S T L (tS F 4 x) bs := rfl
theorem sX_2 {f : Nat → Int32} : (wX G a S T L F bs).set 2 (a 2, .inl (G.2 0, 10, .inl f)) = wX G a (tS S 0 f) T L F bs := rfl
theorem sX_3 {f : Nat → Int32} : (wX G a S T L F bs).set 3 (a 3, .inl (G.2 0, 10, .inl f)) = wX G a (tS S 1 f) T L F bs := rfl
theorem sX_4 {f : Nat → Int32} : (wX G a S T L F bs).set 4 (a 4, .inl (G.2 0, 10, .inl f)) = wX G a (tS S 2 f) T L F bs := rfl
theorem sX_5 {f : Nat → Int32} : (wX G a S T L F bs).set 5 (a 5, .inl (G.2 0, 10, .inl f)) = wX G a (tS S 3 f) T L F bs := rfl
theorem fX_6_12 {x : Int32} : (wX G a S T L F bs).set 6 (a 6, .inr (2, ([.ref (a 7), .ref (a 8), .ref (a 9), .ref (a 10), .ref (a 11), .ref (a 12), .ref (a 13), .ref (a 14), .ref (a 15), .ref (a 16), .ref (a 17), .ref (a 18), .int (F 5), .int (F 6)] : List Value).set 12 (.int x))) = wX G a S T L (tS F 5 x) bs := rfl
theorem fX_6_13 {x : Int32} : (wX G a S T L F bs).set 6 (a 6, .inr (2, ([.ref (a 7), .ref (a 8), .ref (a 9), .ref (a 10), .ref (a 11), .ref (a 12), .ref (a 13), .ref (a 14), .ref (a 15), .ref (a 16), .ref (a 17), .ref (a 18), .int (F 5), .int (F 6)] : List Value).set 13 (.int x))) = wX G a S T L (tS F 6 x) bs := rfl
theorem sX_7 {f : Nat → Int32} : (wX G a S T L F bs).set 7 (a 7, .inl (G.2 0, 19, .inl f)) = wX G a S (tS T 0 f) L F bs := rfl
theorem sX_8 {f : Nat → Int32} : (wX G a S T L F bs).set 8 (a 8, .inl (G.2 0, 19, .inl f)) = wX G a S (tS T 1 f) L F bs := rfl
theorem sX_9 {f : Nat → Int32} : (wX G a S T L F bs).set 9 (a 9, .inl (G.2 0, 19, .inl f)) = wX G a S (tS T 2 f) L F bs := rfl
theorem sX_10 {f : Nat → Int32} : (wX G a S T L F bs).set 10 (a 10, .inl (G.2 0, 19, .inl f)) = wX G a S (tS T 3 f) L F bs := rfl
theorem sX_11 {f : Nat → Int32} : (wX G a S T L F bs).set 11 (a 11, .inl (G.2 0, 19, .inl f)) = wX G a S (tS T 4 f) L F bs := rfl
theorem sX_12 {f : Nat → Int32} : (wX G a S T L F bs).set 12 (a 12, .inl (G.2 0, 19, .inl f)) = wX G a S (tS T 5 f) L F bs := rfl
theorem sX_13 {f : Nat → Int32} : (wX G a S T L F bs).set 13 (a 13, .inl (G.2 0, 19, .inl f)) = wX G a S (tS T 6 f) L F bs := rfl
theorem sX_14 {f : Nat → Int32} : (wX G a S T L F bs).set 14 (a 14, .inl (G.2 0, 19, .inl f)) = wX G a S (tS T 7 f) L F bs := rfl
theorem sX_15 {f : Nat → Int32} : (wX G a S T L F bs).set 15 (a 15, .inl (G.2 0, 19, .inl f)) = wX G a S (tS T 8 f) L F bs := rfl
theorem sX_16 {f : Nat → Int32} : (wX G a S T L F bs).set 16 (a 16, .inl (G.2 0, 19, .inl f)) = wX G a S (tS T 9 f) L F bs := rfl
theorem sX_17 {f : Nat → Int32} : (wX G a S T L F bs).set 17 (a 17, .inl (G.2 0, 19, .inl f)) = wX G a S (tS T 10 f) L F bs := rfl
theorem sX_18 {f : Nat → Int32} : (wX G a S T L F bs).set 18 (a 18, .inl (G.2 0, 10, .inl f)) = wX G a S (tS T 11 f) L F bs := rfl
theorem fX_19_3 {x : Int32} : (wX G a S T L F bs).set 19 (a 19, .inr (0, ([.ref (a 20), .ref (a 21), .ref (a 22), .int (F 7), .int (F 8), .int (F 9), .int (F 10), .int (F 11), .long bs, .int (F 12)] : List Value).set 3 (.int x))) = wX G a S T L (tS F 7 x) bs := rfl
theorem fX_19_4 {x : Int32} : (wX G a S T L F bs).set 19 (a 19, .inr (0, ([.ref (a 20), .ref (a 21), .ref (a 22), .int (F 7), .int (F 8), .int (F 9), .int (F 10), .int (F 11), .long bs, .int (F 12)] : List Value).set 4 (.int x))) = wX G a S T L (tS F 8 x) bs := rfl
theorem fX_19_5 {x : Int32} : (wX G a S T L F bs).set 19 (a 19, .inr (0, ([.ref (a 20), .ref (a 21), .ref (a 22), .int (F 7), .int (F 8), .int (F 9), .int (F 10), .int (F 11), .long bs, .int (F 12)] : List Value).set 5 (.int x))) = wX G a S T L (tS F 9 x) bs := rfl
theorem fX_19_6 {x : Int32} : (wX G a S T L F bs).set 19 (a 19, .inr (0, ([.ref (a 20), .ref (a 21), .ref (a 22), .int (F 7), .int (F 8), .int (F 9), .int (F 10), .int (F 11), .long bs, .int (F 12)] : List Value).set 6 (.int x))) = wX G a S T L (tS F 10 x) bs := rfl
theorem fX_19_7 {x : Int32} : (wX G a S T L F bs).set 19 (a 19, .inr (0, ([.ref (a 20), .ref (a 21), .ref (a 22), .int (F 7), .int (F 8), .int (F 9), .int (F 10), .int (F 11), .long bs, .int (F 12)] : List Value).set 7 (.int x))) = wX G a S T L (tS F 11 x) bs := rfl
theorem fX_19_8 {x : Int64} : (wX G a S T L F bs).set 19 (a 19, .inr (0, ([.ref (a 20), .ref (a 21), .ref (a 22), .int (F 7), .int (F 8), .int (F 9), .int (F 10), .int (F 11), .long bs, .int (F 12)] : List Value).set 8 (.long x))) = wX G a S T L F x := rfl
theorem fX_19_9 {x : Int32} : (wX G a S T L F bs).set 19 (a 19, .inr (0, ([.ref (a 20), .ref (a 21), .ref (a 22), .int (F 7), .int (F 8), .int (F 9), .int (F 10), .int (F 11), .long bs, .int (F 12)] : List Value).set 9 (.int x))) = wX G a S T L (tS F 12 x) bs := rfl
theorem sX_20 {f : Nat → Int64} : (wX G a S T L F bs).set 20 (a 20, .inl (G.2 1, 19, .inr (.inl f))) = wX G a S T (tS L 0 f) F bs := rfl
theorem sX_21 {f : Nat → Int64} : (wX G a S T L F bs).set 21 (a 21, .inl (G.2 1, 19, .inr (.inl f))) = wX G a S T (tS L 1 f) F bs := rfl
theorem sX_22 {f : Nat → Int64} : (wX G a S T L F bs).set 22 (a 22, .inl (G.2 1, 19, .inr (.inl f))) = wX G a S T (tS L 2 f) F bs := rfl
end
section
variable {G : xG} {a : Nat → Nat} {S T K Z : Nat → Nat → Int32} {L : Nat → Nat → Int64} {F : Nat → Int32}
theorem gM_0 : (wM G a S T K Z L F)[0]? = some (a 0, .inr (4, [.int (F 3), .int (F 4), .ref (a 1), .ref (a 2), .ref (a 3), .ref (a 4), .int (F 0), .int (F 1), .int (F 7), .int (F 8), .int (F 9), .int (F 10), .int (F 11), .int (F 2), .int (F 6), .ref (a 5), .ref (a 6), .ref (a 7), .ref (a 8), .ref (a 9), .ref (a 10), .ref (a 11), .ref (a 12), .ref (a 13), .ref (a 14), .ref (a 15), .ref (a 16), .ref (a 17), .ref (a 18), .int (F 5), .ref (a 19), .ref (a 20), .ref (a 21), .ref (a 22), .ref (a 23), .ref (a 24), .ref (a 25)])) := rfl
theorem gM_1 : (wM G a S T K Z L F)[1]? = some (a 1, .inl (G.2 0, 10, .inl (S 0))) := rfl
theorem gM_2 : (wM G a S T K Z L F)[2]? = some (a 2, .inl (G.2 0, 10, .inl (S 1))) := rfl
theorem gM_3 : (wM G a S T K Z L F)[3]? = some (a 3, .inl (G.2 0, 10, .inl (S 2))) := rfl
theorem gM_4 : (wM G a S T K Z L F)[4]? = some (a 4, .inl (G.2 0, 10, .inl (S 3))) := rfl
theorem gM_5 : (wM G a S T K Z L F)[5]? = some (a 5, .inl (G.2 0, 19, .inl (T 0))) := rfl
theorem gM_6 : (wM G a S T K Z L F)[6]? = some (a 6, .inl (G.2 0, 19, .inl (T 1))) := rfl
theorem gM_7 : (wM G a S T K Z L F)[7]? = some (a 7, .inl (G.2 0, 19, .inl (T 2))) := rfl
theorem gM_8 : (wM G a S T K Z L F)[8]? = some (a 8, .inl (G.2 0, 19, .inl (T 3))) := rfl
theorem gM_9 : (wM G a S T K Z L F)[9]? = some (a 9, .inl (G.2 0, 19, .inl (T 4))) := rfl
theorem gM_10 : (wM G a S T K Z L F)[10]? = some (a 10, .inl (G.2 0, 19, .inl (T 5))) := rfl
theorem gM_11 : (wM G a S T K Z L F)[11]? = some (a 11, .inl (G.2 0, 19, .inl (T 6))) := rfl
theorem gM_12 : (wM G a S T K Z L F)[12]? = some (a 12, .inl (G.2 0, 19, .inl (T 7))) := rfl
theorem gM_13 : (wM G a S T K Z L F)[13]? = some (a 13, .inl (G.2 0, 19, .inl (T 8))) := rfl
theorem gM_14 : (wM G a S T K Z L F)[14]? = some (a 14, .inl (G.2 0, 19, .inl (T 9))) := rfl
theorem gM_15 : (wM G a S T K Z L F)[15]? = some (a 15, .inl (G.2 0, 19, .inl (T 10))) := rfl
theorem gM_16 : (wM G a S T K Z L F)[16]? = some (a 16, .inl (G.2 2, 19, .inl (Z 0))) := rfl
theorem gM_17 : (wM G a S T K Z L F)[17]? = some (a 17, .inl (G.2 2, 19, .inl (Z 1))) := rfl
theorem gM_18 : (wM G a S T K Z L F)[18]? = some (a 18, .inl (G.2 0, 10, .inl (T 11))) := rfl
theorem gM_19 : (wM G a S T K Z L F)[19]? = some (a 19, .inl (G.2 0, 12, .inl (K 0))) := rfl
theorem gM_20 : (wM G a S T K Z L F)[20]? = some (a 20, .inl (G.2 0, 12, .inl (K 1))) := rfl
theorem gM_21 : (wM G a S T K Z L F)[21]? = some (a 21, .inl (G.2 0, 12, .inl (K 2))) := rfl
theorem gM_22 : (wM G a S T K Z L F)[22]? = some (a 22, .inl (G.2 0, 12, .inl (K 3))) := rfl
theorem gM_23 : (wM G a S T K Z L F)[23]? = some (a 23, .inl (G.2 0, 12, .inl (K 4))) := rfl
theorem gM_24 : (wM G a S T K Z L F)[24]? = some (a 24, .inl (G.2 1, 19, .inr (.inl (L 0)))) := rfl
theorem gM_25 : (wM G a S T K Z L F)[25]? = some (a 25, .inl (G.2 1, 19, .inr (.inl (L 1)))) := rfl
theorem fM_0_0 {x : Int32} : (wM G a S T K Z L F).set 0 (a 0, .inr (4, ([.int (F 3), .int (F 4), .ref (a 1), .ref (a 2), .ref (a 3), .ref (a 4), .int (F 0), .int (F 1), .int (F 7), .int (F 8), .int (F 9), .int (F 10), .int (F 11), .int (F 2), .int (F 6), .ref (a 5), .ref (a 6), .ref (a 7), .ref (a 8), .ref (a 9), .ref (a 10), .ref (a 11), .ref (a 12), .ref (a 13), .ref (a 14), .ref (a 15), .ref (a 16), .ref (a 17), .ref (a 18), .int (F 5), .ref (a 19), .ref (a 20), .ref (a 21), .ref (a 22), .ref (a 23), .ref (a 24), .ref (a 25)] : List Value).set 0 (.int x))) = wM G a S T K Z L (tS F 3 x) := rfl
theorem fM_0_1 {x : Int32} : (wM G a S T K Z L F).set 0 (a 0, .inr (4, ([.int (F 3), .int (F 4), .ref (a 1), .ref (a 2), .ref (a 3), .ref (a 4), .int (F 0), .int (F 1), .int (F 7), .int (F 8), .int (F 9), .int (F 10), .int (F 11), .int (F 2), .int (F 6), .ref (a 5), .ref (a 6), .ref (a 7), .ref (a 8), .ref (a 9), .ref (a 10), .ref (a 11), .ref (a 12), .ref (a 13), .ref (a 14), .ref (a 15), .ref (a 16), .ref (a 17), .ref (a 18), .int (F 5), .ref (a 19), .ref (a 20), .ref (a 21), .ref (a 22), .ref (a 23), .ref (a 24), .ref (a 25)] : List Value).set 1 (.int x))) = wM G a S T K Z L (tS F 4 x) := rfl
theorem fM_0_6 {x : Int32} : (wM G a S T K Z L F).set 0 (a 0, .inr (4, ([.int (F 3), .int (F 4), .ref (a 1), .ref (a 2), .ref (a 3), .ref (a 4), .int (F 0), .int (F 1), .int (F 7), .int (F 8), .int (F 9), .int (F 10), .int (F 11), .int (F 2), .int (F 6), .ref (a 5), .ref (a 6), .ref (a 7), .ref (a 8), .ref (a 9), .ref (a 10), .ref (a 11), .ref (a 12), .ref (a 13), .ref (a 14), .ref (a 15), .ref (a 16), .ref (a 17), .ref (a 18), .int (F 5), .ref (a 19), .ref (a 20), .ref (a 21), .ref (a 22), .ref (a 23), .ref (a 24), .ref (a 25)] : List Value).set 6 (.int x))) = wM G a S T K Z L (tS F 0 x) := rfl
theorem fM_0_7 {x : Int32} : (wM G a S T K Z L F).set 0 (a 0, .inr (4, ([.int (F 3), .int (F 4), .ref (a 1), .ref (a 2), .ref (a 3), .ref (a 4), .int (F 0), .int (F 1), .int (F 7), .int (F 8), .int (F 9), .int (F 10), .int (F 11), .int (F 2), .int (F 6), .ref (a 5), .ref (a 6), .ref (a 7), .ref (a 8), .ref (a 9), .ref (a 10), .ref (a 11), .ref (a 12), .ref (a 13), .ref (a 14), .ref (a 15), .ref (a 16), .ref (a 17), .ref (a 18), .int (F 5), .ref (a 19), .ref (a 20), .ref (a 21), .ref (a 22), .ref (a 23), .ref (a 24), .ref (a 25)] : List Value).set 7 (.int x))) = wM G a S T K Z L (tS F 1 x) := rfl
theorem fM_0_8 {x : Int32} : (wM G a S T K Z L F).set 0 (a 0, .inr (4, ([.int (F 3), .int (F 4), .ref (a 1), .ref (a 2), .ref (a 3), .ref (a 4), .int (F 0), .int (F 1), .int (F 7), .int (F 8), .int (F 9), .int (F 10), .int (F 11), .int (F 2), .int (F 6), .ref (a 5), .ref (a 6), .ref (a 7), .ref (a 8), .ref (a 9), .ref (a 10), .ref (a 11), .ref (a 12), .ref (a 13), .ref (a 14), .ref (a 15), .ref (a 16), .ref (a 17), .ref (a 18), .int (F 5), .ref (a 19), .ref (a 20), .ref (a 21), .ref (a 22), .ref (a 23), .ref (a 24), .ref (a 25)] : List Value).set 8 (.int x))) = wM G a S T K Z L (tS F 7 x) := rfl
theorem fM_0_9 {x : Int32} : (wM G a S T K Z L F).set 0 (a 0, .inr (4, ([.int (F 3), .int (F 4), .ref (a 1), .ref (a 2), .ref (a 3), .ref (a 4), .int (F 0), .int (F 1), .int (F 7), .int (F 8), .int (F 9), .int (F 10), .int (F 11), .int (F 2), .int (F 6), .ref (a 5), .ref (a 6), .ref (a 7), .ref (a 8), .ref (a 9), .ref (a 10), .ref (a 11), .ref (a 12), .ref (a 13), .ref (a 14), .ref (a 15), .ref (a 16), .ref (a 17), .ref (a 18), .int (F 5), .ref (a 19), .ref (a 20), .ref (a 21), .ref (a 22), .ref (a 23), .ref (a 24), .ref (a 25)] : List Value).set 9 (.int x))) = wM G a S T K Z L (tS F 8 x) := rfl
theorem fM_0_10 {x : Int32} : (wM G a S T K Z L F).set 0 (a 0, .inr (4, ([.int (F 3), .int (F 4), .ref (a 1), .ref (a 2), .ref (a 3), .ref (a 4), .int (F 0), .int (F 1), .int (F 7), .int (F 8), .int (F 9), .int (F 10), .int (F 11), .int (F 2), .int (F 6), .ref (a 5), .ref (a 6), .ref (a 7), .ref (a 8), .ref (a 9), .ref (a 10), .ref (a 11), .ref (a 12), .ref (a 13), .ref (a 14), .ref (a 15), .ref (a 16), .ref (a 17), .ref (a 18), .int (F 5), .ref (a 19), .ref (a 20), .ref (a 21), .ref (a 22), .ref (a 23), .ref (a 24), .ref (a 25)] : List Value).set 10 (.int x))) = wM G a S T K Z L (tS F 9 x) := rfl
theorem fM_0_11 {x : Int32} : (wM G a S T K Z L F).set 0 (a 0, .inr (4, ([.int (F 3), .int (F 4), .ref (a 1), .ref (a 2), .ref (a 3), .ref (a 4), .int (F 0), .int (F 1), .int (F 7), .int (F 8), .int (F 9), .int (F 10), .int (F 11), .int (F 2), .int (F 6), .ref (a 5), .ref (a 6), .ref (a 7), .ref (a 8), .ref (a 9), .ref (a 10), .ref (a 11), .ref (a 12), .ref (a 13), .ref (a 14), .ref (a 15), .ref (a 16), .ref (a 17), .ref (a 18), .int (F 5), .ref (a 19), .ref (a 20), .ref (a 21), .ref (a 22), .ref (a 23), .ref (a 24), .ref (a 25)] : List Value).set 11 (.int x))) = wM G a S T K Z L (tS F 10 x) := rfl
theorem fM_0_12 {x : Int32} : (wM G a S T K Z L F).set 0 (a 0, .inr (4, ([.int (F 3), .int (F 4), .ref (a 1), .ref (a 2), .ref (a 3), .ref (a 4), .int (F 0), .int (F 1), .int (F 7), .int (F 8), .int (F 9), .int (F 10), .int (F 11), .int (F 2), .int (F 6), .ref (a 5), .ref (a 6), .ref (a 7), .ref (a 8), .ref (a 9), .ref (a 10), .ref (a 11), .ref (a 12), .ref (a 13), .ref (a 14), .ref (a 15), .ref (a 16), .ref (a 17), .ref (a 18), .int (F 5), .ref (a 19), .ref (a 20), .ref (a 21), .ref (a 22), .ref (a 23), .ref (a 24), .ref (a 25)] : List Value).set 12 (.int x))) = wM G a S T K Z L (tS F 11 x) := rfl
theorem fM_0_13 {x : Int32} : (wM G a S T K Z L F).set 0 (a 0, .inr (4, ([.int (F 3), .int (F 4), .ref (a 1), .ref (a 2), .ref (a 3), .ref (a 4), .int (F 0), .int (F 1), .int (F 7), .int (F 8), .int (F 9), .int (F 10), .int (F 11), .int (F 2), .int (F 6), .ref (a 5), .ref (a 6), .ref (a 7), .ref (a 8), .ref (a 9), .ref (a 10), .ref (a 11), .ref (a 12), .ref (a 13), .ref (a 14), .ref (a 15), .ref (a 16), .ref (a 17), .ref (a 18), .int (F 5), .ref (a 19), .ref (a 20), .ref (a 21), .ref (a 22), .ref (a 23), .ref (a 24), .ref (a 25)] : List Value).set 13 (.int x))) = wM G a S T K Z L (tS F 2 x) := rfl
theorem fM_0_14 {x : Int32} : (wM G a S T K Z L F).set 0 (a 0, .inr (4, ([.int (F 3), .int (F 4), .ref (a 1), .ref (a 2), .ref (a 3), .ref (a 4), .int (F 0), .int (F 1), .int (F 7), .int (F 8), .int (F 9), .int (F 10), .int (F 11), .int (F 2), .int (F 6), .ref (a 5), .ref (a 6), .ref (a 7), .ref (a 8), .ref (a 9), .ref (a 10), .ref (a 11), .ref (a 12), .ref (a 13), .ref (a 14), .ref (a 15), .ref (a 16), .ref (a 17), .ref (a 18), .int (F 5), .ref (a 19), .ref (a 20), .ref (a 21), .ref (a 22), .ref (a 23), .ref (a 24), .ref (a 25)] : List Value).set 14 (.int x))) = wM G a S T K Z L (tS F 6 x) := rfl
theorem fM_0_29 {x : Int32} : (wM G a S T K Z L F).set 0 (a 0, .inr (4, ([.int (F 3), .int (F 4), .ref (a 1), .ref (a 2), .ref (a 3), .ref (a 4), .int (F 0), .int (F 1), .int (F 7), .int (F 8), .int (F 9), .int (F 10), .int (F 11), .int (F 2), .int (F 6), .ref (a 5), .ref (a 6), .ref (a 7), .ref (a 8), .ref (a 9), .ref (a 10), .ref (a 11), .ref (a 12), .ref (a 13), .ref (a 14), .ref (a 15), .ref (a 16), .ref (a 17), .ref (a 18), .int (F 5), .ref (a 19), .ref (a 20), .ref (a 21), .ref (a 22), .ref (a 23), .ref (a 24), .ref (a 25)] : List Value).set 29 (.int x))) = wM G a S T K Z L (tS F 5 x) := rfl
theorem sM_1 {f : Nat → Int32} : (wM G a S T K Z L F).set 1 (a 1, .inl (G.2 0, 10, .inl f)) = wM G a (tS S 0 f) T K Z L F := rfl
theorem sM_2 {f : Nat → Int32} : (wM G a S T K Z L F).set 2 (a 2, .inl (G.2 0, 10, .inl f)) = wM G a (tS S 1 f) T K Z L F := rfl
theorem sM_3 {f : Nat → Int32} : (wM G a S T K Z L F).set 3 (a 3, .inl (G.2 0, 10, .inl f)) = wM G a (tS S 2 f) T K Z L F := rfl
theorem sM_4 {f : Nat → Int32} : (wM G a S T K Z L F).set 4 (a 4, .inl (G.2 0, 10, .inl f)) = wM G a (tS S 3 f) T K Z L F := rfl
theorem sM_5 {f : Nat → Int32} : (wM G a S T K Z L F).set 5 (a 5, .inl (G.2 0, 19, .inl f)) = wM G a S (tS T 0 f) K Z L F := rfl
theorem sM_6 {f : Nat → Int32} : (wM G a S T K Z L F).set 6 (a 6, .inl (G.2 0, 19, .inl f)) = wM G a S (tS T 1 f) K Z L F := rfl
theorem sM_7 {f : Nat → Int32} : (wM G a S T K Z L F).set 7 (a 7, .inl (G.2 0, 19, .inl f)) = wM G a S (tS T 2 f) K Z L F := rfl
theorem sM_8 {f : Nat → Int32} : (wM G a S T K Z L F).set 8 (a 8, .inl (G.2 0, 19, .inl f)) = wM G a S (tS T 3 f) K Z L F := rfl
theorem sM_9 {f : Nat → Int32} : (wM G a S T K Z L F).set 9 (a 9, .inl (G.2 0, 19, .inl f)) = wM G a S (tS T 4 f) K Z L F := rfl
theorem sM_10 {f : Nat → Int32} : (wM G a S T K Z L F).set 10 (a 10, .inl (G.2 0, 19, .inl f)) = wM G a S (tS T 5 f) K Z L F := rfl
theorem sM_11 {f : Nat → Int32} : (wM G a S T K Z L F).set 11 (a 11, .inl (G.2 0, 19, .inl f)) = wM G a S (tS T 6 f) K Z L F := rfl
theorem sM_12 {f : Nat → Int32} : (wM G a S T K Z L F).set 12 (a 12, .inl (G.2 0, 19, .inl f)) = wM G a S (tS T 7 f) K Z L F := rfl
theorem sM_13 {f : Nat → Int32} : (wM G a S T K Z L F).set 13 (a 13, .inl (G.2 0, 19, .inl f)) = wM G a S (tS T 8 f) K Z L F := rfl
theorem sM_14 {f : Nat → Int32} : (wM G a S T K Z L F).set 14 (a 14, .inl (G.2 0, 19, .inl f)) = wM G a S (tS T 9 f) K Z L F := rfl
theorem sM_15 {f : Nat → Int32} : (wM G a S T K Z L F).set 15 (a 15, .inl (G.2 0, 19, .inl f)) = wM G a S (tS T 10 f) K Z L F := rfl
theorem sM_16 {f : Nat → Int32} : (wM G a S T K Z L F).set 16 (a 16, .inl (G.2 2, 19, .inl f)) = wM G a S T K (tS Z 0 f) L F := rfl
theorem sM_17 {f : Nat → Int32} : (wM G a S T K Z L F).set 17 (a 17, .inl (G.2 2, 19, .inl f)) = wM G a S T K (tS Z 1 f) L F := rfl
theorem sM_18 {f : Nat → Int32} : (wM G a S T K Z L F).set 18 (a 18, .inl (G.2 0, 10, .inl f)) = wM G a S (tS T 11 f) K Z L F := rfl
theorem sM_19 {f : Nat → Int32} : (wM G a S T K Z L F).set 19 (a 19, .inl (G.2 0, 12, .inl f)) = wM G a S T (tS K 0 f) Z L F := rfl
theorem sM_20 {f : Nat → Int32} : (wM G a S T K Z L F).set 20 (a 20, .inl (G.2 0, 12, .inl f)) = wM G a S T (tS K 1 f) Z L F := rfl
theorem sM_21 {f : Nat → Int32} : (wM G a S T K Z L F).set 21 (a 21, .inl (G.2 0, 12, .inl f)) = wM G a S T (tS K 2 f) Z L F := rfl
theorem sM_22 {f : Nat → Int32} : (wM G a S T K Z L F).set 22 (a 22, .inl (G.2 0, 12, .inl f)) = wM G a S T (tS K 3 f) Z L F := rfl
theorem sM_23 {f : Nat → Int32} : (wM G a S T K Z L F).set 23 (a 23, .inl (G.2 0, 12, .inl f)) = wM G a S T (tS K 4 f) Z L F := rfl
theorem sM_24 {f : Nat → Int64} : (wM G a S T K Z L F).set 24 (a 24, .inl (G.2 1, 19, .inr (.inl f))) = wM G a S T K Z (tS L 0 f) F := rfl
theorem sM_25 {f : Nat → Int64} : (wM G a S T K Z L F).set 25 (a 25, .inl (G.2 1, 19, .inr (.inl f))) = wM G a S T K Z (tS L 1 f) F := rfl
end
end XBASE
/-! contracts: a method that makes mc cells of ms slots, and turns the world w into w' -/
def xPre (G : xG) (w : va_W) (sz : Nat) : State → Prop := fun U => U.heap.size = sz ∧ va_P G.1 vwCl w U.heap ∧ xK G U ∧ va_D (fun _ => True) w
def xPost (G : xG) (A : Nat → Prop) (w : va_W) : Unit → State → Prop := fun _ t => va_P G.1 vwCl w t.heap ∧ va_D A w
def xMi (l : Launch) (y : MethodName) (ws : List Cond) (rm : Room) (av : List Value) (G : xG) (w : va_W) (r : Int32) (w' : va_W) (mc ms : Nat) : Prop := ∀ sz : Nat, Met l y ws rm (va_Pc av (xPre G w sz)) (va_Qi (fun (x : Int32) (_ : Unit) => x = r) (xPost G (va_A w sz) w') (va_A w sz)) mc ms (va_A w sz)
def xMl (l : Launch) (y : MethodName) (ws : List Cond) (rm : Room) (av : List Value) (G : xG) (w : va_W) (r : Int64) (w' : va_W) (mc ms : Nat) : Prop := ∀ sz : Nat, Met l y ws rm (va_Pc av (xPre G w sz)) (va_Ql (fun (x : Int64) (_ : Unit) => x = r) (xPost G (va_A w sz) w') (va_A w sz)) mc ms (va_A w sz)
def xMv (l : Launch) (y : MethodName) (ws : List Cond) (rm : Room) (av : List Value) (G : xG) (w : va_W) (w' : va_W) (mc ms : Nat) : Prop := ∀ sz : Nat, Met l y ws rm (va_Pc av (xPre G w sz)) (va_Qv (fun (_ : Unit) => True) (xPost G (va_A w sz) w') (va_A w sz)) mc ms (va_A w sz)
theorem x_blind {av : List Value} {G : xG} {w : va_W} {sz : Nat} : FrameBlind (va_Pc av (xPre G w sz)) := fun a U g mk q => ⟨q.1, q.2.1, q.2.2.1, xK.warm (u := U) (U := U.calling g mk a) (State.WarmedH.refl U) q.2.2.2.1, q.2.2.2.2⟩
theorem x_pre {s U : State} {H : Heap} {G : xG} {A : Nat → Prop} {w : va_W} {av : List Value} (hK : xK G s) (hP : va_P G.1 vwCl w H) (hD : va_D A w) (hU : U.heap = H) (hW : s.WarmedH U.vm) : va_Pc av (xPre G w H.size) av.toArray U := ⟨rfl, by rw [hU], by rw [hU]; exact hP, xK.warm hW hK, hD.weaken (fun _ _ _ _ => trivial)⟩
/-- a world's places, all of them -/
theorem x_freeAll {A : Nat → Prop} {w : va_W} {H0 H : Heap} {locs : List Loc} (hD : va_D A w) (hS : va_S A H0 H locs) (hA : ∀ q, H0.size ≤ q → A q) : ∀ q, va_A w H.size q → A q := fun q h => by
  rcases h with ⟨k, e, h⟩ | h
  · exact hD.2 k (q, e) h
  · exact hA q (Nat.le_trans hS.1 h)
section XCALL
variable {p : Program} {l : Launch} {e : Env} {R : Room} {s : State} {m : MethodId} {args : Array Value} {below : List Frame} {meth : Method} {c : Code} {H : Heap} {locs : List Loc} {cells slots : Nat} {Q : State → Prop}
variable {cc : ByteArray} {pc : Nat} {ls : Array Slot} {st0 rest : List Value} {A : Nat → Prop} {H0 : Heap} {own : String} {Ts : List Cond} {G : xG} {w w' : va_W} {mc ms : Nat}
theorem x_behind {t : State} {H1 : Heap} {locs1 : List Loc} (hD : va_D A w) (hS0 : va_S A H0 H locs) (hA : ∀ q, H0.size ≤ q → A q) (ht : t.heap = H1) (hB : va_P G.1 vwCl w' t.heap ∧ va_D (va_A w H.size) w') (hS : va_S A H0 H1 locs1) : xH G A H0 H1 locs1 w' := ⟨ht ▸ hB.1, hB.2.weaken (fun _ q _ h => x_freeAll hD hS0 hA q.1 h), hS⟩
/-- calls that hand on the whole world -/
theorem x_ci {r : Int32} {a : Array Value} (hr : va_Run p l e R s m args below meth c H locs cells slots mc ms (F0 m pc ls st0) rest (va_Qi (fun (x : Int32) (_ : Unit) => x = r) (xPost G (va_A w H.size) w') (va_A w H.size) a) (va_A w H.size)) (hH : xH G A H0 H locs w) (hA : ∀ q, H0.size ≤ q → A q)
    (kk : ∀ (H1 : Heap) (locs1 : List Loc), xH G A H0 H1 locs1 w' → W p l e R s m args below meth c H1 locs1 (cells + mc) (slots + ms) Q (F0 m (pc + 3) ls (.int r :: rest))) : W p l e R s m args below meth c H locs cells slots Q (F0 m pc ls st0) :=
  va_calli hr hH.2.2 (fun q _ h => x_freeAll hH.2.1 hH.2.2 hA q h) (x_freeAll hH.2.1 hH.2.2 hA) (fun r2 _ t H1 locs1 ht hvm hp hB hz1 hk1 hS => by subst hp; exact kk H1 locs1 (x_behind hH.2.1 hH.2.2 hA ht hB hS))
theorem x_cl {r : Int64} {a : Array Value} (hr : va_Run p l e R s m args below meth c H locs cells slots mc ms (F0 m pc ls st0) rest (va_Ql (fun (x : Int64) (_ : Unit) => x = r) (xPost G (va_A w H.size) w') (va_A w H.size) a) (va_A w H.size)) (hH : xH G A H0 H locs w) (hA : ∀ q, H0.size ≤ q → A q)
    (kk : ∀ (H1 : Heap) (locs1 : List Loc), xH G A H0 H1 locs1 w' → W p l e R s m args below meth c H1 locs1 (cells + mc) (slots + ms) Q (F0 m (pc + 3) ls (.long r :: rest))) : W p l e R s m args below meth c H locs cells slots Q (F0 m pc ls st0) :=
  va_calll hr hH.2.2 (fun q _ h => x_freeAll hH.2.1 hH.2.2 hA q h) (x_freeAll hH.2.1 hH.2.2 hA) (fun r2 _ t H1 locs1 ht hvm hp hB hz1 hk1 hS => by subst hp; exact kk H1 locs1 (x_behind hH.2.1 hH.2.2 hA ht hB hS))
theorem x_cv {a : Array Value} (hr : va_Run p l e R s m args below meth c H locs cells slots mc ms (F0 m pc ls st0) rest (va_Qv (fun (_ : Unit) => True) (xPost G (va_A w H.size) w') (va_A w H.size) a) (va_A w H.size)) (hH : xH G A H0 H locs w) (hA : ∀ q, H0.size ≤ q → A q)
    (kk : ∀ (H1 : Heap) (locs1 : List Loc), xH G A H0 H1 locs1 w' → W p l e R s m args below meth c H1 locs1 (cells + mc) (slots + ms) Q (F0 m (pc + 3) ls rest)) : W p l e R s m args below meth c H locs cells slots Q (F0 m pc ls st0) :=
  va_callv hr hH.2.2 (fun q _ h => x_freeAll hH.2.1 hH.2.2 hA q h) (x_freeAll hH.2.1 hH.2.2 hA) (fun _ t H1 locs1 ht hvm hp hB hz1 hk1 hS => kk H1 locs1 (x_behind hH.2.1 hH.2.2 hA ht hB hS))
theorem x_fix {nL : Nat} (h : xC p c m s args cc own Ts G) (hml : c.maxLocals = nL) : CallFix p m c cc nL s args Ts own := ⟨h.1, h.2.1, hml, h.2.2.1, h.2.2.2.1⟩
theorem x_pv {C : String} {b q0 ci : Nat} {fs : List Value} {q : vw_C} {As av : List Value} (h : xC p c m s args cc own Ts G) (hH : xH G A H0 H locs w) (hav : av = .ref b :: As) (he : w[q0]? = some (b, .inr (ci, fs))) (hc : vwCl[ci]? = some q) (hC : q.1 = C) : PreV s H C b (va_Pc av (xPre G w H.size)) As := by
  subst hav
  refine ⟨x_blind, ?_, fun U hU hW => x_pre h.2.2.2.2 hH.1 hH.2.1 hU hW⟩
  have := va_recv h.2.2.2.2.1 hH.1 hc he
  rw [hC] at this
  exact this
theorem x_ps {As : List Value} (h : xC p c m s args cc own Ts G) (hH : xH G A H0 H locs w) : PreS s H (va_Pc As (xPre G w H.size)) As := ⟨x_blind, fun U hU hW => x_pre h.2.2.2.2 hH.1 hH.2.1 hU hW⟩
end XCALL
/-- contracts out of a walk: the walk's head and its end, the same for all -/
theorem x_ofi {l : Launch} {y : MethodName} {ws ws' : List Cond} {rm : Room} {av : List Value} {G : xG} {w w' : va_W} {r : Int32} {mc ms : Nat} {cc : ByteArray} {maxL : Nat} {ty : FieldType} (hy : plainName y.cls = true) (hw : ws = Cond.code y cc maxL (some ty) :: ws') (hn : (lg_sl av).length ≤ maxL)
    (body : ∀ (p : Program) (e : Env) (s : State) (m : MethodId) (args : Array Value) (below : List Frame) (meth : Method) (c : Code) (ls : Array Slot) (A : Nat → Prop) (Q : State → Prop), xC p c m s args cc y.cls ws G → c.maxLocals = maxL → (∀ q : Nat, s.heap.size ≤ q → A q) → xH G A s.heap s.heap [] w → lv_has ls maxL (lv_args 0 av) →
      (∀ (H : Heap) (locs : List Loc) (ls : Array Slot) (pc : Nat) (v : Int32), xH G A s.heap H locs w' → v = r → narrow ty (.int v) = .int v → decode cc pc = .ok (.ireturn, 1) → W p l e rm s m args below meth c H locs mc ms Q (F0 m pc ls [.int v])) →
      W p l e rm s m args below meth c s.heap [] 0 0 Q (F0 m 0 ls [])) : xMi l y ws rm av G w r w' mc ms := by
  intro sz
  refine Met.ofW (cc := cc) (maxL := maxL) (ret := some ty) hy hw ?_
  intro p e s m args below meth c s₁ B hml hv
  obtain ⟨rfl, hsz, hP, hK, hD0⟩ := hv
  subst hsz
  have hts := atoms_spec (ws := ws) B.pre
  have hown : s.vm.findClass y.cls = some m.cls := findClass_of_methodNamed B.named
  have hl := lv_entry av (n := maxL) hn
  rw [lg_entry_eq]
  exact body p e s m _ below meth c _ (va_A w s.heap.size) _ ⟨B.exec, B.bytes, hown, hts, hK⟩ hml (fun q h => Or.inr h) ⟨hP, hD0.self, va_S.rf⟩ hl
    (fun H locs ls pc v hH hv hn hdg => W.zret B.exec B.bytes B.returns hn (fun t ht hW => ⟨⟨v, (), rfl, hv, ht ▸ hH.1, hH.2.1⟩, hH.2.2.F ht⟩) hH.2.2.2.2 hdg B.notSynchronized)
theorem x_ofl {l : Launch} {y : MethodName} {ws ws' : List Cond} {rm : Room} {av : List Value} {G : xG} {w w' : va_W} {r : Int64} {mc ms : Nat} {cc : ByteArray} {maxL : Nat} (hy : plainName y.cls = true) (hw : ws = Cond.code y cc maxL (some .long) :: ws') (hn : (lg_sl av).length ≤ maxL)
    (body : ∀ (p : Program) (e : Env) (s : State) (m : MethodId) (args : Array Value) (below : List Frame) (meth : Method) (c : Code) (ls : Array Slot) (A : Nat → Prop) (Q : State → Prop), xC p c m s args cc y.cls ws G → c.maxLocals = maxL → (∀ q : Nat, s.heap.size ≤ q → A q) → xH G A s.heap s.heap [] w → lv_has ls maxL (lv_args 0 av) →
      (∀ (H : Heap) (locs : List Loc) (ls : Array Slot) (pc : Nat) (v : Int64), xH G A s.heap H locs w' → v = r → decode cc pc = .ok (.lreturn, 1) → W p l e rm s m args below meth c H locs mc ms Q (F0 m pc ls [.long v])) →
      W p l e rm s m args below meth c s.heap [] 0 0 Q (F0 m 0 ls [])) : xMl l y ws rm av G w r w' mc ms := by
  intro sz
  refine Met.ofW (cc := cc) (maxL := maxL) (ret := some .long) hy hw ?_
  intro p e s m args below meth c s₁ B hml hv
  obtain ⟨rfl, hsz, hP, hK, hD0⟩ := hv
  subst hsz
  have hts := atoms_spec (ws := ws) B.pre
  have hown : s.vm.findClass y.cls = some m.cls := findClass_of_methodNamed B.named
  have hl := lv_entry av (n := maxL) hn
  rw [lg_entry_eq]
  exact body p e s m _ below meth c _ (va_A w s.heap.size) _ ⟨B.exec, B.bytes, hown, hts, hK⟩ hml (fun q h => Or.inr h) ⟨hP, hD0.self, va_S.rf⟩ hl
    (fun H locs ls pc v hH hv hdg => W.lret B.exec B.bytes B.returns (fun t ht hW => ⟨⟨v, (), rfl, hv, ht ▸ hH.1, hH.2.1⟩, hH.2.2.F ht⟩) hH.2.2.2.2 hdg B.notSynchronized)
theorem x_ofv {l : Launch} {y : MethodName} {ws ws' : List Cond} {rm : Room} {av : List Value} {G : xG} {w w' : va_W} {mc ms : Nat} {cc : ByteArray} {maxL : Nat} (hy : plainName y.cls = true) (hw : ws = Cond.code y cc maxL none :: ws') (hn : (lg_sl av).length ≤ maxL)
    (body : ∀ (p : Program) (e : Env) (s : State) (m : MethodId) (args : Array Value) (below : List Frame) (meth : Method) (c : Code) (ls : Array Slot) (A : Nat → Prop) (Q : State → Prop), xC p c m s args cc y.cls ws G → c.maxLocals = maxL → (∀ q : Nat, s.heap.size ≤ q → A q) → xH G A s.heap s.heap [] w → lv_has ls maxL (lv_args 0 av) →
      (∀ (H : Heap) (locs : List Loc) (ls : Array Slot) (pc : Nat), xH G A s.heap H locs w' → decode cc pc = .ok (.return_, 1) → W p l e rm s m args below meth c H locs mc ms Q (F0 m pc ls [])) →
      W p l e rm s m args below meth c s.heap [] 0 0 Q (F0 m 0 ls [])) : xMv l y ws rm av G w w' mc ms := by
  intro sz
  refine Met.ofW (cc := cc) (maxL := maxL) (ret := none) hy hw ?_
  intro p e s m args below meth c s₁ B hml hv
  obtain ⟨rfl, hsz, hP, hK, hD0⟩ := hv
  subst hsz
  have hts := atoms_spec (ws := ws) B.pre
  have hown : s.vm.findClass y.cls = some m.cls := findClass_of_methodNamed B.named
  have hl := lv_entry av (n := maxL) hn
  rw [lg_entry_eq]
  exact body p e s m _ below meth c _ (va_A w s.heap.size) _ ⟨B.exec, B.bytes, hown, hts, hK⟩ hml (fun q h => Or.inr h) ⟨hP, hD0.self, va_S.rf⟩ hl
    (fun H locs ls pc hH hdg => W.vret B.exec B.bytes B.returns (fun t ht hW => ⟨⟨(), rfl, trivial, ht ▸ hH.1, hH.2.1⟩, hH.2.2.F ht⟩) hH.2.2.2.2 hdg B.notSynchronized)
/-! booleans out of a claim -/
def xb (P : Prop) [Decidable P] : Int32 := if P then nI 1 else nI 0
theorem xb_0 {P : Prop} [Decidable P] : xb P = 0 ↔ ¬ P := by
  unfold xb
  by_cases h : P
  · rw [if_pos h]; exact ⟨fun z => absurd z (by decide), fun z => absurd h z⟩
  · rw [if_neg h]; exact ⟨fun _ => h, fun _ => by decide⟩
theorem xb_t {P : Prop} [Decidable P] (h : P) : nI 1 = xb P := (if_pos h).symm
theorem xb_f {P : Prop} [Decidable P] (h : ¬ P) : nI 0 = xb P := (if_neg h).symm
theorem xb_nar {P : Prop} [Decidable P] : narrow .boolean (.int (xb P)) = .int (xb P) := by
  unfold xb
  by_cases h : P
  · rw [if_pos h]; decide
  · rw [if_neg h]; decide
theorem xb_vp {P : Prop} [Decidable P] : vp_nar .boolean (xb P) = xb P := by
  unfold xb
  by_cases h : P
  · rw [if_pos h]; decide
  · rw [if_neg h]; decide
theorem xb_iff {P Q : Prop} [Decidable P] [Decidable Q] (h : P ↔ Q) : xb P = xb Q := by
  unfold xb
  by_cases hp : P
  · rw [if_pos hp, if_pos (h.mp hp)]
  · rw [if_neg hp, if_neg (fun q => hp (h.mpr q))]

/-! numbers and merges -/
def imax (x y : Int32) : Int32 := if x < y then y else x
def imin (x y : Int32) : Int32 := if y < x then y else x
def iabs (x : Int32) : Int32 := if 0 ≤ x then x else 0 - x
def lmin (x y : Int64) : Int64 := if y < x then y else x
theorem xn_dec {n : Nat} (h : 1 ≤ n) : nI n + Int32.ofInt (-1) = nI (n - 1) := by
  obtain ⟨k, rfl⟩ : ∃ k, n = k + 1 := ⟨n - 1, by omega⟩
  exact pk_m1 k
theorem xl_gt {x y : Int64} : ¬ 0 < lg_cmp x y ↔ ¬ x > y := by
  unfold lg_cmp
  by_cases h : x > y
  · simp [h]
  · by_cases h2 : x = y
    · rw [if_neg h, if_pos h2]; simp [h]
    · rw [if_neg h, if_neg h2]; simp [h]
theorem xl_eq {x y : Int64} : lg_cmp x y = 0 ↔ x = y := by
  unfold lg_cmp
  by_cases h : x > y
  · rw [if_pos h]
    exact ⟨fun z => absurd z (by decide), fun z => absurd h (by rw [z]; exact Int64.lt_irrefl)⟩
  · by_cases h2 : x = y
    · rw [if_neg h, if_pos h2]; simp [h2]
    · rw [if_neg h, if_neg h2]
      exact ⟨fun z => absurd z (by decide), fun z => absurd z h2⟩
theorem xl_lt {x y : Int64} : lg_cmp x y < 0 ↔ x < y := by
  unfold lg_cmp
  by_cases h : x > y
  · rw [if_pos h]
    exact ⟨fun z => absurd z (by decide), fun z => absurd (Int64.lt_trans h z) Int64.lt_irrefl⟩
  · by_cases h2 : x = y
    · rw [if_neg h, if_pos h2]
      exact ⟨fun z => absurd z (by decide), fun z => absurd z (by rw [h2]; exact Int64.lt_irrefl)⟩
    · rw [if_neg h, if_neg h2]
      refine ⟨fun _ => ?_, fun _ => by decide⟩
      have h3 : x ≤ y := Int64.not_lt.mp h
      exact Int64.lt_of_le_of_ne h3 h2
section XOPS
variable {p : Program} {l : Launch} {e : Env} {R : Room} {s : State} {m : MethodId} {args : Array Value} {below : List Frame} {meth : Method} {c : Code} {H : Heap} {locs : List Loc} {cells slots : Nat} {Q : State → Prop}
variable {cc : ByteArray} {pc : Nat} {ls : Array Slot} {rest : List Value}
theorem x_mrg {g : JFrame} {pc2 : Nat} {v : Int32} {st : List Value} (k : W p l e R s m args below meth c H locs cells slots Q (F0 m pc2 ls (.int v :: st))) (f : W p l e R s m args below meth c H locs cells slots Q (F0 m pc2 ls (.int v :: st)) → W p l e R s m args below meth c H locs cells slots Q (F0 m pc ls rest)) : W p l e R s m args below meth c H locs cells slots Q (F0 m pc ls rest) := f k
theorem x_mrgl {g : JFrame} {pc2 : Nat} {v : Int64} {st : List Value} (k : W p l e R s m args below meth c H locs cells slots Q (F0 m pc2 ls (.long v :: st))) (f : W p l e R s m args below meth c H locs cells slots Q (F0 m pc2 ls (.long v :: st)) → W p l e R s m args below meth c H locs cells slots Q (F0 m pc ls rest)) : W p l e R s m args below meth c H locs cells slots Q (F0 m pc ls rest) := f k
theorem x_lcmp_eq {x y : Int64} {off : Int} {tgt : Nat} (hexec : p.tables.exec = Jvm.exec) (hb : c.code = cc) (d1 : decode cc pc = .ok (.lcmp, 1)) (d2 : decode cc (pc + 1) = .ok (.ifCond .eq off, 3)) (ht : ((pc + 1 : Nat) : Int) + off = (tgt : Int))
    (kt : x = y → W p l e R s m args below meth c H locs cells slots Q (F0 m tgt ls rest)) (kf : ¬ x = y → W p l e R s m args below meth c H locs cells slots Q (F0 m (pc + 4) ls rest)) : W p l e R s m args below meth c H locs cells slots Q (F0 m pc ls (.long y :: .long x :: rest)) :=
  W.lcmp hexec hb d1 (lv_if_eq hexec hb d2 ht (fun h => kt (xl_eq.mp h)) (fun h => kf (fun z => h (xl_eq.mpr z))))
theorem x_lcmp_ne {x y : Int64} {off : Int} {tgt : Nat} (hexec : p.tables.exec = Jvm.exec) (hb : c.code = cc) (d1 : decode cc pc = .ok (.lcmp, 1)) (d2 : decode cc (pc + 1) = .ok (.ifCond .ne off, 3)) (ht : ((pc + 1 : Nat) : Int) + off = (tgt : Int))
    (kt : ¬ x = y → W p l e R s m args below meth c H locs cells slots Q (F0 m tgt ls rest)) (kf : x = y → W p l e R s m args below meth c H locs cells slots Q (F0 m (pc + 4) ls rest)) : W p l e R s m args below meth c H locs cells slots Q (F0 m pc ls (.long y :: .long x :: rest)) :=
  W.lcmp hexec hb d1 (lv_if_ne hexec hb d2 ht (fun h => kt (fun z => h (xl_eq.mpr z))) (fun h => kf (xl_eq.mp h)))
theorem x_lcmp_le {x y : Int64} {off : Int} {tgt : Nat} (hexec : p.tables.exec = Jvm.exec) (hb : c.code = cc) (d1 : decode cc pc = .ok (.lcmp, 1)) (d2 : decode cc (pc + 1) = .ok (.ifCond .le off, 3)) (ht : ((pc + 1 : Nat) : Int) + off = (tgt : Int))
    (kt : ¬ x > y → W p l e R s m args below meth c H locs cells slots Q (F0 m tgt ls rest)) (kf : x > y → W p l e R s m args below meth c H locs cells slots Q (F0 m (pc + 4) ls rest)) : W p l e R s m args below meth c H locs cells slots Q (F0 m pc ls (.long y :: .long x :: rest)) :=
  W.lcmp hexec hb d1 (lv_if_le hexec hb d2 ht (fun h => kt (xl_gt.mp (Int32.not_lt.mpr h))) (fun h => kf (Classical.not_not.mp (fun z => h (Int32.not_lt.mp (xl_gt.mpr z))))))
theorem x_lcmp_ge {x y : Int64} {off : Int} {tgt : Nat} (hexec : p.tables.exec = Jvm.exec) (hb : c.code = cc) (d1 : decode cc pc = .ok (.lcmp, 1)) (d2 : decode cc (pc + 1) = .ok (.ifCond .ge off, 3)) (ht : ((pc + 1 : Nat) : Int) + off = (tgt : Int))
    (kt : ¬ x < y → W p l e R s m args below meth c H locs cells slots Q (F0 m tgt ls rest)) (kf : x < y → W p l e R s m args below meth c H locs cells slots Q (F0 m (pc + 4) ls rest)) : W p l e R s m args below meth c H locs cells slots Q (F0 m pc ls (.long y :: .long x :: rest)) :=
  W.lcmp hexec hb d1 (lv_if_ge hexec hb d2 ht (fun h => kt (fun z => absurd (xl_lt.mpr z) (Int32.not_lt.mpr h))) (fun h => kf (xl_lt.mp (Int32.not_le.mp h))))
theorem x_lcmp_gt {x y : Int64} {off : Int} {tgt : Nat} (hexec : p.tables.exec = Jvm.exec) (hb : c.code = cc) (d1 : decode cc pc = .ok (.lcmp, 1)) (d2 : decode cc (pc + 1) = .ok (.ifCond .gt off, 3)) (ht : ((pc + 1 : Nat) : Int) + off = (tgt : Int))
    (kt : x > y → W p l e R s m args below meth c H locs cells slots Q (F0 m tgt ls rest)) (kf : ¬ x > y → W p l e R s m args below meth c H locs cells slots Q (F0 m (pc + 4) ls rest)) : W p l e R s m args below meth c H locs cells slots Q (F0 m pc ls (.long y :: .long x :: rest)) :=
  W.lcmp hexec hb d1 (lv_if_gt hexec hb d2 ht (fun h => kt (Classical.not_not.mp (fun z => xl_gt.mpr z h))) (fun h => kf (xl_gt.mp h)))
end XOPS
end
section
/-! what the methods work out, as plain functions: T f k is the number k of the tree's row f (0 left, 1 right, 2 parent, 3 lowU, 4 highU, 5 lowV, 6 highV, 7 time, 8 wire, 9 u, 10 v, 11 row) -/
abbrev inW (x lo hi : Int32) : Prop := lo ≤ x ∧ x ≤ hi
def iG (a b c d : Int32) : Int32 := imax (nI 0) (imax (a - d) (c - b))
def iNear (x lo hi : Int32) : Int32 := if x < lo then lo else if hi < x then hi else x
theorem imin_le {x y : Int32} (h : y ≤ x) : y = imin x y := by
  unfold imin
  by_cases h2 : y < x
  · rw [if_pos h2]
  · rw [if_neg h2]; exact Int32.le_antisymm h (Int32.not_lt.mp h2)
theorem imin_lt {x y : Int32} (h : ¬ y ≤ x) : x = imin x y := by
  unfold imin
  rw [if_neg (fun z => h (Int32.le_of_lt z))]
theorem imax_le {x y : Int32} (h : y ≤ x) : x = imax x y := (if_neg (Int32.not_lt.mpr h)).symm
theorem imax_lt {x y : Int32} (h : ¬ y ≤ x) : y = imax x y := (if_pos (Int32.not_le.mp h)).symm
theorem iNear_lo {x lo hi : Int32} (h : ¬ lo ≤ x) : lo = iNear x lo hi := (if_pos (Int32.not_le.mp h)).symm
theorem iNear_hi {x lo hi : Int32} (h : lo ≤ x) (h2 : ¬ x ≤ hi) : hi = iNear x lo hi := by
  unfold iNear
  rw [if_neg (Int32.not_lt.mpr h), if_pos (Int32.not_le.mp h2)]
theorem iNear_in {x lo hi : Int32} (h : lo ≤ x) (h2 : x ≤ hi) : x = iNear x lo hi := by
  unfold iNear
  rw [if_neg (Int32.not_lt.mpr h), if_neg (Int32.not_lt.mpr h2)]
def bitI (k : Nat) : Int32 := nI 1 <<< (nI k &&& 31)
def dist (T : Nat → Nat → Int32) (i j : Nat) : Int32 := imax (iG (T 3 i) (T 4 i) (T 3 j) (T 4 j)) (iG (T 5 i) (T 6 i) (T 5 j) (T 6 j))
def wA (T : Nat → Nat → Int32) (i j : Nat) (d : Int32) : Int32 := if d + T 7 j < T 7 i then nI 0 else if d + T 7 i < T 7 j then T 7 j - T 7 i else (d + T 7 j - T 7 i) / nI 2
def wB (T : Nat → Nat → Int32) (i j : Nat) (d : Int32) : Int32 := if d + T 7 j < T 7 i then T 7 i - T 7 j else if d + T 7 i < T 7 j then nI 0 else d - wA T i j d
/-- a join n of the nodes i and j -/
def joinT (T : Nat → Nat → Int32) (n i j : Nat) : Nat → Nat → Int32 := fun f => match f with
  | 0 => upd (T 0) n (nI i)
  | 1 => upd (T 1) n (nI j)
  | 2 => upd (upd (upd (T 2) n (-1)) i (nI n)) j (nI n)
  | 3 => upd (T 3) n (imax (T 3 i - wA T i j (dist T i j)) (T 3 j - wB T i j (dist T i j)))
  | 4 => upd (T 4) n (imin (T 4 i + wA T i j (dist T i j)) (T 4 j + wB T i j (dist T i j)))
  | 5 => upd (T 5) n (imax (T 5 i - wA T i j (dist T i j)) (T 5 j - wB T i j (dist T i j)))
  | 6 => upd (T 6) n (imin (T 6 i + wA T i j (dist T i j)) (T 6 j + wB T i j (dist T i j)))
  | 7 => upd (T 7) n (T 7 i + wA T i j (dist T i j))
  | 8 => upd (upd (T 8) i (wA T i j (dist T i j))) j (wB T i j (dist T i j))
  | f => T f
/-- the sink k planted -/
def plantK (S T : Nat → Nat → Int32) (k : Nat) : Nat → Nat → Int32 := fun f => match f with
  | 0 => upd (T 0) k (-1)
  | 1 => upd (T 1) k (-1)
  | 2 => upd (T 2) k (-1)
  | 3 => upd (T 3) k (nI 1024 * (S 0 k + S 1 k))
  | 4 => upd (T 4) k (nI 1024 * (S 0 k + S 1 k))
  | 5 => upd (T 5) k (nI 1024 * (S 0 k - S 1 k))
  | 6 => upd (T 6) k (nI 1024 * (S 0 k - S 1 k))
  | 7 => upd (T 7) k (nI 0)
  | f => T f
def plantF (S : Nat → Nat → Int32) : Nat → Nat → (Nat → Nat → Int32) → Nat → Nat → Int32
  | 0, _, T => T
  | n + 1, k, T => plantF S n (k + 1) (plantK S T k)
/-- the node k stands near (x, y) -/
def standT (T : Nat → Nat → Int32) (k : Nat) (x y : Int32) : Nat → Nat → Int32 := fun f => match f with
  | 9 => upd (T 9) k (imax (T 3 k) (imin (T 4 k) x))
  | 10 => upd (T 10) k (imax (T 5 k) (imin (T 6 k) y))
  | f => T f
def chooseF (P : Nat → Nat) : Nat → (Nat → Nat → Int32) → Nat → Nat → Int32
  | 0, T => T
  | k + 1, T => chooseF P k (standT T k (T 9 (P k)) (T 10 (P k)))
def rootT (T : Nat → Nat → Int32) (k : Nat) (x y : Int32) : Nat → Nat → Int32 := tS (standT T k x y) 8 (upd (T 8) k (imax (iabs (standT T k x y 9 k - x)) (iabs (standT T k x y 10 k - y))))
def sumW (T : Nat → Nat → Int32) : Nat → Nat → Int32 → Int32
  | 0, _, x => x
  | n + 1, k, x => sumW T n (k + 1) (x + T 8 k)
def upF (T : Nat → Nat → Int32) : Nat → Nat → Nat → Nat → Nat
  | 0, _, _, x => x
  | n + 1, j, q, x => if T 2 q = nI j then upF T n (j + 1) j (x + 1) else upF T n (j + 1) q x
def rowF : Nat → Nat → (Nat → Int32) → Nat → Int32
  | 0, _, f => f
  | n + 1, k, f => rowF n (k + 1) (upd f k (nI k))
/-! loads and delays: L 0 bears, L 1 shows, L 2 slack below -/
def capL (F : Nat → Int32) (T : Nat → Nat → Int32) (k : Nat) : Int64 := (F 8).toInt64 * (T 8 k).toInt64
def wdL (F : Nat → Int32) (T : Nat → Nat → Int32) (L : Nat → Nat → Int64) (k : Nat) : Int64 := (F 7).toInt64 * (T 8 k).toInt64 * (capL F T k + 2 * L 1 k)
def bdL (F : Nat → Int32) (L : Nat → Nat → Int64) (k : Nat) : Int64 := (F 11).toInt64 + 2 * (F 10).toInt64 * L 0 k
def slL (F : Nat → Int32) (T : Nat → Nat → Int32) (L : Nat → Nat → Int64) (k : Nat) : Int64 := L 2 k - wdL F T L k
def wsK (S : Nat → Nat → Int32) (L : Nat → Nat → Int64) (k : Nat) : Nat → Nat → Int64 := fun f => match f with
  | 0 => vp_updL (L 0) k (1024 * (S 2 k).toInt64)
  | 1 => vp_updL (L 1) k (1024 * (S 2 k).toInt64)
  | 2 => vp_updL (L 2) k (1048576 * (S 3 k).toInt64)
  | f => L f
def wsF (S : Nat → Nat → Int32) : Nat → Nat → (Nat → Nat → Int64) → Nat → Nat → Int64
  | 0, _, L => L
  | n + 1, k, L => wsF S n (k + 1) (wsK S L k)
theorem xn_dec2 (n : Nat) : nI n + Int32.ofInt (-1) = nI n - nI 1 := by
  rw [Int32.sub_eq_add_neg, show Int32.ofInt (-1) = -(nI 1) by decide]
/-- which of two sinks comes first: f first, then g, then the number -/
def befB (f g : Nat → Int32) (i j : Nat) : Bool := if f i = f j then (if g i = g j then decide (i < j) else decide (g i < g j)) else decide (f i < f j)
def kA (S : Nat → Nat → Int32) (bx : Bool) : Nat → Int32 := if bx = true then S 0 else S 1
def kB (S : Nat → Nat → Int32) (bx : Bool) : Nat → Int32 := if bx = true then S 1 else S 0
end
section
set_option maxHeartbeats 1000000 in
set_option maxRecDepth 100000 in
theorem c_X3_isWithin (l : Launch) (G : xG) (a : Nat → Nat) (S T : Nat → Nat → Int32) (L : Nat → Nat → Int64) (F : Nat → Int32) (bs : Int64) (v lo hi : Int32) : xMi l yX3_isWithin wsX3_isWithin { frames := 0, cells := 0, slots := 0, locals := 0 } [.int v, .int lo, .int hi] G (wX G a S T L F bs) (xb (inW v lo hi)) (wX G a S T L F bs) 0 0 := by
  refine x_ofi (cc := cX3_isWithin) (maxL := 3) (ty := .boolean) (by decide) rfl (Nat.le_of_ble_eq_true rfl) ?_
  intro p e s m args below meth c ls A Q C hml hA hH hl hE
  have hl : lv_has ls 3 [(0, .int v), (1, .int lo), (2, .int hi)] := hl
  refine lv_iload_n C.1 C.2.1 dX3_isWithin_0 rfl (lv_at hl 0 rfl) ?_
  refine lv_iload_n C.1 C.2.1 dX3_isWithin_1 rfl (lv_at hl 1 rfl) ?_
  refine lv_icmp_lt (tgt := 14) C.1 C.2.1 dX3_isWithin_2 (by decide) (fun c_1 => ?_) (fun c_1 => ?_)
  · refine lv_iconst (v := nI 0) C.1 C.2.1 dX3_isWithin_14 (by decide) ?_
    exact hE _ _ _ _ _ hH (by (try simp only [← Int32.not_lt, Classical.not_not] at c_1); simp only [xb, inW, ← Int32.not_lt, c_1, and_self, and_true, true_and, and_false, false_and, or_true, true_or, or_false, false_or, not_true_eq_false, not_false_eq_true, Classical.not_not, if_true, if_false, reduceIte]) (by decide) dX3_isWithin_15
  · refine lv_iload_n C.1 C.2.1 dX3_isWithin_5 rfl (lv_at hl 0 rfl) ?_
    refine lv_iload_n C.1 C.2.1 dX3_isWithin_6 rfl (lv_at hl 2 rfl) ?_
    refine lv_icmp_gt (tgt := 14) C.1 C.2.1 dX3_isWithin_7 (by decide) (fun c_2 => ?_) (fun c_2 => ?_)
    · refine lv_iconst (v := nI 0) C.1 C.2.1 dX3_isWithin_14 (by decide) ?_
      exact hE _ _ _ _ _ hH (by (try simp only [← Int32.not_lt, Classical.not_not] at c_1); (try simp only [← Int32.not_lt, Classical.not_not] at c_2); simp only [xb, inW, ← Int32.not_lt, c_1, c_2, and_self, and_true, true_and, and_false, false_and, or_true, true_or, or_false, false_or, not_true_eq_false, not_false_eq_true, Classical.not_not, if_true, if_false, reduceIte]) (by decide) dX3_isWithin_15
    · refine lv_iconst (v := nI 1) C.1 C.2.1 dX3_isWithin_10 (by decide) ?_
      refine lv_goto (tgt := 15) C.1 C.2.1 dX3_isWithin_11 (by decide) ?_
      exact hE _ _ _ _ _ hH (by (try simp only [← Int32.not_lt, Classical.not_not] at c_1); (try simp only [← Int32.not_lt, Classical.not_not] at c_2); simp only [xb, inW, ← Int32.not_lt, c_1, c_2, and_self, and_true, true_and, and_false, false_and, or_true, true_or, or_false, false_or, not_true_eq_false, not_false_eq_true, Classical.not_not, if_true, if_false, reduceIte]) (by decide) dX3_isWithin_15
set_option maxHeartbeats 1000000 in
set_option maxRecDepth 100000 in
theorem c_X3_placeU (l : Launch) (G : xG) (a : Nat → Nat) (S T : Nat → Nat → Int32) (L : Nat → Nat → Int64) (F : Nat → Int32) (bs : Int64) (x y : Int32) : xMi l yX3_placeU wsX3_placeU { frames := 0, cells := 0, slots := 0, locals := 0 } [.int x, .int y] G (wX G a S T L F bs) (nI 1024 * (x + y)) (wX G a S T L F bs) 0 0 := by
  refine x_ofi (cc := cX3_placeU) (maxL := 2) (ty := .int) (by decide) rfl (Nat.le_of_ble_eq_true rfl) ?_
  intro p e s m args below meth c ls A Q C hml hA hH hl hE
  have hl : lv_has ls 2 [(0, .int x), (1, .int y)] := hl
  refine lv_sipush (v := nI 1024) C.1 C.2.1 dX3_placeU_0 (by decide) ?_
  refine lv_iload_n C.1 C.2.1 dX3_placeU_3 rfl (lv_at hl 0 rfl) ?_
  refine lv_iload_n C.1 C.2.1 dX3_placeU_4 rfl (lv_at hl 1 rfl) ?_
  refine lv_iadd C.1 C.2.1 dX3_placeU_5 ?_
  refine lv_imul C.1 C.2.1 dX3_placeU_6 ?_
  exact hE _ _ _ _ _ hH (rfl) (rfl) dX3_placeU_7
set_option maxHeartbeats 1000000 in
set_option maxRecDepth 100000 in
theorem c_X3_placeV (l : Launch) (G : xG) (a : Nat → Nat) (S T : Nat → Nat → Int32) (L : Nat → Nat → Int64) (F : Nat → Int32) (bs : Int64) (x y : Int32) : xMi l yX3_placeV wsX3_placeV { frames := 0, cells := 0, slots := 0, locals := 0 } [.int x, .int y] G (wX G a S T L F bs) (nI 1024 * (x - y)) (wX G a S T L F bs) 0 0 := by
  refine x_ofi (cc := cX3_placeV) (maxL := 2) (ty := .int) (by decide) rfl (Nat.le_of_ble_eq_true rfl) ?_
  intro p e s m args below meth c ls A Q C hml hA hH hl hE
  have hl : lv_has ls 2 [(0, .int x), (1, .int y)] := hl
  refine lv_sipush (v := nI 1024) C.1 C.2.1 dX3_placeV_0 (by decide) ?_
  refine lv_iload_n C.1 C.2.1 dX3_placeV_3 rfl (lv_at hl 0 rfl) ?_
  refine lv_iload_n C.1 C.2.1 dX3_placeV_4 rfl (lv_at hl 1 rfl) ?_
  refine lv_isub C.1 C.2.1 dX3_placeV_5 ?_
  refine lv_imul C.1 C.2.1 dX3_placeV_6 ?_
  exact hE _ _ _ _ _ hH (rfl) (rfl) dX3_placeV_7
set_option maxHeartbeats 1000000 in
set_option maxRecDepth 100000 in
theorem c_X2_gapOf (l : Launch) (G : xG) (a : Nat → Nat) (S T : Nat → Nat → Int32) (L : Nat → Nat → Int64) (F : Nat → Int32) (bs : Int64) (x1 x2 x3 x4 : Int32) : xMi l yX2_gapOf wsX2_gapOf { frames := 1, cells := 0, slots := 0, locals := 14 } [.int x1, .int x2, .int x3, .int x4] G (wX G a S T L F bs) (iG x1 x2 x3 x4) (wX G a S T L F bs) 0 0 := by
  refine x_ofi (cc := cX2_gapOf) (maxL := 4) (ty := .int) (by decide) rfl (Nat.le_of_ble_eq_true rfl) ?_
  intro p e s m args below meth c ls A Q C hml hA hH hl hE
  have hl : lv_has ls 4 [(0, .int x1), (1, .int x2), (2, .int x3), (3, .int x4)] := hl
  refine lv_iconst (v := nI 0) C.1 C.2.1 dX2_gapOf_0 (by decide) ?_
  refine lv_iload_n C.1 C.2.1 dX2_gapOf_1 rfl (lv_at hl 0 rfl) ?_
  refine lv_iload_n C.1 C.2.1 dX2_gapOf_2 rfl (lv_at hl 3 rfl) ?_
  refine lv_isub C.1 C.2.1 dX2_gapOf_3 ?_
  refine lv_iload_n C.1 C.2.1 dX2_gapOf_4 rfl (lv_at hl 2 rfl) ?_
  refine lv_iload_n C.1 C.2.1 dX2_gapOf_5 rfl (lv_at hl 1 rfl) ?_
  refine lv_isub C.1 C.2.1 dX2_gapOf_6 ?_
  refine va_mmax C.1 C.2.1 (hml.trans hl.1.symm) C.2.2.1 (C.2.2.2.1 _ (List.mem_of_getElem? (i := 1) rfl)) (C.2.2.2.1 _ (List.mem_of_getElem? (i := 2) rfl)) (C.2.2.2.1 _ (List.mem_of_getElem? (i := 3) rfl)) (C.2.2.2.1 _ (List.mem_of_getElem? (i := 4) rfl)) (Nat.le_of_ble_eq_true rfl) (Nat.le_of_ble_eq_true rfl) (Nat.le_of_ble_eq_true rfl) (Nat.le_of_ble_eq_true rfl) dX2_gapOf_7 ?_
  refine x_toi (show _ = imax (x1 - x4) (x3 - x2) from rfl) ?_
  refine va_mmax C.1 C.2.1 (hml.trans hl.1.symm) C.2.2.1 (C.2.2.2.1 _ (List.mem_of_getElem? (i := 1) rfl)) (C.2.2.2.1 _ (List.mem_of_getElem? (i := 2) rfl)) (C.2.2.2.1 _ (List.mem_of_getElem? (i := 3) rfl)) (C.2.2.2.1 _ (List.mem_of_getElem? (i := 4) rfl)) (Nat.le_of_ble_eq_true rfl) (Nat.le_of_ble_eq_true rfl) (Nat.le_of_ble_eq_true rfl) (Nat.le_of_ble_eq_true rfl) dX2_gapOf_10 ?_
  refine x_toi (show _ = imax (nI 0) (imax (x1 - x4) (x3 - x2)) from rfl) ?_
  exact hE _ _ _ _ _ hH (rfl) (rfl) dX2_gapOf_13
set_option maxHeartbeats 1000000 in
set_option maxRecDepth 100000 in
theorem c_X4_within (l : Launch) (G : xG) (a : Nat → Nat) (S T K Z : Nat → Nat → Int32) (L : Nat → Nat → Int64) (F : Nat → Int32) (v lo hi : Int32) : xMi l yX4_within wsX4_within { frames := 0, cells := 0, slots := 0, locals := 0 } [.int v, .int lo, .int hi] G (wM G a S T K Z L F) (xb (inW v lo hi)) (wM G a S T K Z L F) 0 0 := by
  refine x_ofi (cc := cX4_within) (maxL := 3) (ty := .boolean) (by decide) rfl (Nat.le_of_ble_eq_true rfl) ?_
  intro p e s m args below meth c ls A Q C hml hA hH hl hE
  have hl : lv_has ls 3 [(0, .int v), (1, .int lo), (2, .int hi)] := hl
  refine lv_iload_n C.1 C.2.1 dX4_within_0 rfl (lv_at hl 0 rfl) ?_
  refine lv_iload_n C.1 C.2.1 dX4_within_1 rfl (lv_at hl 1 rfl) ?_
  refine lv_icmp_lt (tgt := 14) C.1 C.2.1 dX4_within_2 (by decide) (fun c_1 => ?_) (fun c_1 => ?_)
  · refine lv_iconst (v := nI 0) C.1 C.2.1 dX4_within_14 (by decide) ?_
    exact hE _ _ _ _ _ hH (by (try simp only [← Int32.not_lt, Classical.not_not] at c_1); simp only [xb, inW, ← Int32.not_lt, c_1, and_self, and_true, true_and, and_false, false_and, or_true, true_or, or_false, false_or, not_true_eq_false, not_false_eq_true, Classical.not_not, if_true, if_false, reduceIte]) (by decide) dX4_within_15
  · refine lv_iload_n C.1 C.2.1 dX4_within_5 rfl (lv_at hl 0 rfl) ?_
    refine lv_iload_n C.1 C.2.1 dX4_within_6 rfl (lv_at hl 2 rfl) ?_
    refine lv_icmp_gt (tgt := 14) C.1 C.2.1 dX4_within_7 (by decide) (fun c_2 => ?_) (fun c_2 => ?_)
    · refine lv_iconst (v := nI 0) C.1 C.2.1 dX4_within_14 (by decide) ?_
      exact hE _ _ _ _ _ hH (by (try simp only [← Int32.not_lt, Classical.not_not] at c_1); (try simp only [← Int32.not_lt, Classical.not_not] at c_2); simp only [xb, inW, ← Int32.not_lt, c_1, c_2, and_self, and_true, true_and, and_false, false_and, or_true, true_or, or_false, false_or, not_true_eq_false, not_false_eq_true, Classical.not_not, if_true, if_false, reduceIte]) (by decide) dX4_within_15
    · refine lv_iconst (v := nI 1) C.1 C.2.1 dX4_within_10 (by decide) ?_
      refine lv_goto (tgt := 15) C.1 C.2.1 dX4_within_11 (by decide) ?_
      exact hE _ _ _ _ _ hH (by (try simp only [← Int32.not_lt, Classical.not_not] at c_1); (try simp only [← Int32.not_lt, Classical.not_not] at c_2); simp only [xb, inW, ← Int32.not_lt, c_1, c_2, and_self, and_true, true_and, and_false, false_and, or_true, true_or, or_false, false_or, not_true_eq_false, not_false_eq_true, Classical.not_not, if_true, if_false, reduceIte]) (by decide) dX4_within_15
set_option maxHeartbeats 1000000 in
set_option maxRecDepth 100000 in
theorem c_X4_isPlace (l : Launch) (G : xG) (a : Nat → Nat) (S T K Z : Nat → Nat → Int32) (L : Nat → Nat → Int64) (F : Nat → Int32) (x : Int32) : xMi l yX4_isPlace wsX4_isPlace { frames := 0, cells := 0, slots := 0, locals := 0 } [.int x] G (wM G a S T K Z L F) (xb (inW x (nI 0) (nI 200))) (wM G a S T K Z L F) 0 0 := by
  refine x_ofi (cc := cX4_isPlace) (maxL := 1) (ty := .boolean) (by decide) rfl (Nat.le_of_ble_eq_true rfl) ?_
  intro p e s m args below meth c ls A Q C hml hA hH hl hE
  have hl : lv_has ls 1 [(0, .int x)] := hl
  refine lv_iload_n C.1 C.2.1 dX4_isPlace_0 rfl (lv_at hl 0 rfl) ?_
  refine lv_if_lt (tgt := 15) C.1 C.2.1 dX4_isPlace_1 (by decide) (fun c_1 => ?_) (fun c_1 => ?_)
  · refine lv_iconst (v := nI 0) C.1 C.2.1 dX4_isPlace_15 (by decide) ?_
    exact hE _ _ _ _ _ hH (by (try simp only [← Int32.not_lt, Classical.not_not] at c_1); simp only [xb, inW, ← Int32.not_lt, nI_0, c_1, and_self, and_true, true_and, and_false, false_and, or_true, true_or, or_false, false_or, not_true_eq_false, not_false_eq_true, Classical.not_not, if_true, if_false, reduceIte]) (by decide) dX4_isPlace_16
  · refine lv_iload_n C.1 C.2.1 dX4_isPlace_4 rfl (lv_at hl 0 rfl) ?_
    refine lv_sipush (v := nI 200) C.1 C.2.1 dX4_isPlace_5 (by decide) ?_
    refine lv_icmp_gt (tgt := 15) C.1 C.2.1 dX4_isPlace_8 (by decide) (fun c_2 => ?_) (fun c_2 => ?_)
    · refine lv_iconst (v := nI 0) C.1 C.2.1 dX4_isPlace_15 (by decide) ?_
      exact hE _ _ _ _ _ hH (by (try simp only [← Int32.not_lt, Classical.not_not] at c_1); (try simp only [← Int32.not_lt, Classical.not_not] at c_2); simp only [xb, inW, ← Int32.not_lt, nI_0, c_1, c_2, and_self, and_true, true_and, and_false, false_and, or_true, true_or, or_false, false_or, not_true_eq_false, not_false_eq_true, Classical.not_not, if_true, if_false, reduceIte]) (by decide) dX4_isPlace_16
    · refine lv_iconst (v := nI 1) C.1 C.2.1 dX4_isPlace_11 (by decide) ?_
      refine lv_goto (tgt := 16) C.1 C.2.1 dX4_isPlace_12 (by decide) ?_
      exact hE _ _ _ _ _ hH (by (try simp only [← Int32.not_lt, Classical.not_not] at c_1); (try simp only [← Int32.not_lt, Classical.not_not] at c_2); simp only [xb, inW, ← Int32.not_lt, nI_0, c_1, c_2, and_self, and_true, true_and, and_false, false_and, or_true, true_or, or_false, false_or, not_true_eq_false, not_false_eq_true, Classical.not_not, if_true, if_false, reduceIte]) (by decide) dX4_isPlace_16
set_option maxHeartbeats 1000000 in
set_option maxRecDepth 100000 in
theorem c_X4_greater (l : Launch) (G : xG) (a : Nat → Nat) (S T K Z : Nat → Nat → Int32) (L : Nat → Nat → Int64) (F : Nat → Int32) (x y : Int32) : xMi l yX4_greater wsX4_greater { frames := 0, cells := 0, slots := 0, locals := 0 } [.int x, .int y] G (wM G a S T K Z L F) (imax x y) (wM G a S T K Z L F) 0 0 := by
  refine x_ofi (cc := cX4_greater) (maxL := 2) (ty := .int) (by decide) rfl (Nat.le_of_ble_eq_true rfl) ?_
  intro p e s m args below meth c ls A Q C hml hA hH hl hE
  have hl : lv_has ls 2 [(0, .int x), (1, .int y)] := hl
  refine lv_iload_n C.1 C.2.1 dX4_greater_0 rfl (lv_at hl 0 rfl) ?_
  refine lv_iload_n C.1 C.2.1 dX4_greater_1 rfl (lv_at hl 1 rfl) ?_
  refine lv_icmp_ge (tgt := 9) C.1 C.2.1 dX4_greater_2 (by decide) (fun c_1 => ?_) (fun c_1 => ?_)
  · refine lv_iload_n C.1 C.2.1 dX4_greater_9 rfl (lv_at hl 0 rfl) ?_
    exact hE _ _ _ _ _ hH (by first | exact imax_le c_1 | exact imax_lt c_1) (rfl) dX4_greater_10
  · refine lv_iload_n C.1 C.2.1 dX4_greater_5 rfl (lv_at hl 1 rfl) ?_
    refine lv_goto (tgt := 10) C.1 C.2.1 dX4_greater_6 (by decide) ?_
    exact hE _ _ _ _ _ hH (by first | exact imax_le c_1 | exact imax_lt c_1) (rfl) dX4_greater_10
set_option maxHeartbeats 1000000 in
set_option maxRecDepth 100000 in
theorem c_X4_lesser (l : Launch) (G : xG) (a : Nat → Nat) (S T K Z : Nat → Nat → Int32) (L : Nat → Nat → Int64) (F : Nat → Int32) (x y : Int32) : xMi l yX4_lesser wsX4_lesser { frames := 0, cells := 0, slots := 0, locals := 0 } [.int x, .int y] G (wM G a S T K Z L F) (imin x y) (wM G a S T K Z L F) 0 0 := by
  refine x_ofi (cc := cX4_lesser) (maxL := 2) (ty := .int) (by decide) rfl (Nat.le_of_ble_eq_true rfl) ?_
  intro p e s m args below meth c ls A Q C hml hA hH hl hE
  have hl : lv_has ls 2 [(0, .int x), (1, .int y)] := hl
  refine lv_iload_n C.1 C.2.1 dX4_lesser_0 rfl (lv_at hl 0 rfl) ?_
  refine lv_iload_n C.1 C.2.1 dX4_lesser_1 rfl (lv_at hl 1 rfl) ?_
  refine lv_icmp_ge (tgt := 9) C.1 C.2.1 dX4_lesser_2 (by decide) (fun c_1 => ?_) (fun c_1 => ?_)
  · refine lv_iload_n C.1 C.2.1 dX4_lesser_9 rfl (lv_at hl 1 rfl) ?_
    exact hE _ _ _ _ _ hH (by first | exact imin_le c_1 | exact imin_lt c_1) (rfl) dX4_lesser_10
  · refine lv_iload_n C.1 C.2.1 dX4_lesser_5 rfl (lv_at hl 0 rfl) ?_
    refine lv_goto (tgt := 10) C.1 C.2.1 dX4_lesser_6 (by decide) ?_
    exact hE _ _ _ _ _ hH (by first | exact imin_le c_1 | exact imin_lt c_1) (rfl) dX4_lesser_10
set_option maxHeartbeats 1000000 in
set_option maxRecDepth 100000 in
theorem c_X4_gap (l : Launch) (G : xG) (a : Nat → Nat) (S T K Z : Nat → Nat → Int32) (L : Nat → Nat → Int64) (F : Nat → Int32) (x1 x2 x3 x4 : Int32) : xMi l yX4_gap wsX4_gap { frames := 1, cells := 0, slots := 0, locals := 21 } [.int x1, .int x2, .int x3, .int x4] G (wM G a S T K Z L F) (iG x1 x2 x3 x4) (wM G a S T K Z L F) 0 0 := by
  refine x_ofi (cc := cX4_gap) (maxL := 4) (ty := .int) (by decide) rfl (Nat.le_of_ble_eq_true rfl) ?_
  intro p e s m args below meth c ls A Q C hml hA hH hl hE
  have hl : lv_has ls 4 [(0, .int x1), (1, .int x2), (2, .int x3), (3, .int x4)] := hl
  refine lv_iconst (v := nI 0) C.1 C.2.1 dX4_gap_0 (by decide) ?_
  refine lv_iload_n C.1 C.2.1 dX4_gap_1 rfl (lv_at hl 0 rfl) ?_
  refine lv_iload_n C.1 C.2.1 dX4_gap_2 rfl (lv_at hl 3 rfl) ?_
  refine lv_isub C.1 C.2.1 dX4_gap_3 ?_
  refine lv_iload_n C.1 C.2.1 dX4_gap_4 rfl (lv_at hl 2 rfl) ?_
  refine lv_iload_n C.1 C.2.1 dX4_gap_5 rfl (lv_at hl 1 rfl) ?_
  refine lv_isub C.1 C.2.1 dX4_gap_6 ?_
  refine x_ci (w' := wM G a S T K Z L F) (va_runS (As := [.int (x1 - x4), .int (x3 - x2)]) (rest := [.int (nI 0)]) (x_fix C hml) (c_X4_greater l G a S T K Z L F (x1 - x4) (x3 - x2) _) (cwS 2 C.2.2.2.1 gX4_gap_X4_greater rfl rfl rfl (by decide +kernel) ⟨Nat.le_of_ble_eq_true rfl, Nat.le_of_ble_eq_true rfl⟩) (x_ps C hH) rfl rfl hl.1 rfl (lv_room (Nat.le_of_ble_eq_true rfl)) dX4_gap_7 ⟨Nat.le_of_ble_eq_true rfl, Nat.le_of_ble_eq_true rfl⟩) hH hA (fun H locs hH => ?_)
  refine x_ci (w' := wM G a S T K Z L F) (va_runS (As := [.int (nI 0), .int (imax (x1 - x4) (x3 - x2))]) (rest := []) (x_fix C hml) (c_X4_greater l G a S T K Z L F (nI 0) (imax (x1 - x4) (x3 - x2)) _) (cwS 2 C.2.2.2.1 gX4_gap_X4_greater rfl rfl rfl (by decide +kernel) ⟨Nat.le_of_ble_eq_true rfl, Nat.le_of_ble_eq_true rfl⟩) (x_ps C hH) rfl rfl hl.1 rfl (lv_room (Nat.le_of_ble_eq_true rfl)) dX4_gap_10 ⟨Nat.le_of_ble_eq_true rfl, Nat.le_of_ble_eq_true rfl⟩) hH hA (fun H locs hH => ?_)
  exact hE _ _ _ _ _ hH (rfl) (rfl) dX4_gap_13
set_option maxHeartbeats 1000000 in
set_option maxRecDepth 100000 in
theorem c_X4_nearest (l : Launch) (G : xG) (a : Nat → Nat) (S T K Z : Nat → Nat → Int32) (L : Nat → Nat → Int64) (F : Nat → Int32) (x lo hi : Int32) : xMi l yX4_nearest wsX4_nearest { frames := 0, cells := 0, slots := 0, locals := 0 } [.int x, .int lo, .int hi] G (wM G a S T K Z L F) (iNear x lo hi) (wM G a S T K Z L F) 0 0 := by
  refine x_ofi (cc := cX4_nearest) (maxL := 3) (ty := .int) (by decide) rfl (Nat.le_of_ble_eq_true rfl) ?_
  intro p e s m args below meth c ls A Q C hml hA hH hl hE
  have hl : lv_has ls 3 [(0, .int x), (1, .int lo), (2, .int hi)] := hl
  refine lv_iload_n C.1 C.2.1 dX4_nearest_0 rfl (lv_at hl 0 rfl) ?_
  refine lv_iload_n C.1 C.2.1 dX4_nearest_1 rfl (lv_at hl 1 rfl) ?_
  refine lv_icmp_ge (tgt := 9) C.1 C.2.1 dX4_nearest_2 (by decide) (fun c_1 => ?_) (fun c_1 => ?_)
  · refine lv_iload_n C.1 C.2.1 dX4_nearest_9 rfl (lv_at hl 0 rfl) ?_
    refine lv_iload_n C.1 C.2.1 dX4_nearest_10 rfl (lv_at hl 2 rfl) ?_
    refine lv_icmp_le (tgt := 18) C.1 C.2.1 dX4_nearest_11 (by decide) (fun c_2 => ?_) (fun c_2 => ?_)
    · refine lv_iload_n C.1 C.2.1 dX4_nearest_18 rfl (lv_at hl 0 rfl) ?_
      exact hE _ _ _ _ _ hH (by first | exact iNear_lo c_2 | exact iNear_hi c_1 c_2 | exact iNear_in c_1 c_2) (rfl) dX4_nearest_19
    · refine lv_iload_n C.1 C.2.1 dX4_nearest_14 rfl (lv_at hl 2 rfl) ?_
      refine lv_goto (tgt := 19) C.1 C.2.1 dX4_nearest_15 (by decide) ?_
      exact hE _ _ _ _ _ hH (by first | exact iNear_lo c_2 | exact iNear_hi c_1 c_2 | exact iNear_in c_1 c_2) (rfl) dX4_nearest_19
  · refine lv_iload_n C.1 C.2.1 dX4_nearest_5 rfl (lv_at hl 1 rfl) ?_
    refine lv_goto (tgt := 19) C.1 C.2.1 dX4_nearest_6 (by decide) ?_
    exact hE _ _ _ _ _ hH (by first | exact iNear_lo c_1 | exact iNear_hi c_1 | exact iNear_in c_1) (rfl) dX4_nearest_19
set_option maxHeartbeats 1000000 in
set_option maxRecDepth 100000 in
theorem c_X3_isPlace (l : Launch) (G : xG) (a : Nat → Nat) (S T : Nat → Nat → Int32) (L : Nat → Nat → Int64) (F : Nat → Int32) (bs : Int64) (x y : Int32) : xMi l yX3_isPlace wsX3_isPlace { frames := 1, cells := 0, slots := 0, locals := 22 } [.int x, .int y] G (wX G a S T L F bs) (xb (inW x (nI 0) (nI 200) ∧ inW y (nI 0) (nI 200))) (wX G a S T L F bs) 0 0 := by
  refine x_ofi (cc := cX3_isPlace) (maxL := 2) (ty := .boolean) (by decide) rfl (Nat.le_of_ble_eq_true rfl) ?_
  intro p e s m args below meth c ls A Q C hml hA hH hl hE
  have hl : lv_has ls 2 [(0, .int x), (1, .int y)] := hl
  refine lv_iload_n C.1 C.2.1 dX3_isPlace_0 rfl (lv_at hl 0 rfl) ?_
  refine lv_iconst (v := nI 0) C.1 C.2.1 dX3_isPlace_1 (by decide) ?_
  refine lv_sipush (v := nI 200) C.1 C.2.1 dX3_isPlace_2 (by decide) ?_
  refine x_ci (w' := wX G a S T L F bs) (va_runS (As := [.int x, .int (nI 0), .int (nI 200)]) (rest := []) (x_fix C hml) (c_X3_isWithin l G a S T L F bs x (nI 0) (nI 200) _) (cwS 3 C.2.2.2.1 gX3_isPlace_X3_isWithin rfl rfl rfl (by decide +kernel) ⟨Nat.le_of_ble_eq_true rfl, Nat.le_of_ble_eq_true rfl⟩) (x_ps C hH) rfl rfl hl.1 rfl (lv_room (Nat.le_of_ble_eq_true rfl)) dX3_isPlace_5 ⟨Nat.le_of_ble_eq_true rfl, Nat.le_of_ble_eq_true rfl⟩) hH hA (fun H locs hH => ?_)
  refine lv_if_eq (tgt := 26) C.1 C.2.1 dX3_isPlace_8 (by decide) (fun c_1 => ?_) (fun c_1 => ?_)
  · rw [xb_0] at c_1
    refine lv_iconst (v := nI 0) C.1 C.2.1 dX3_isPlace_26 (by decide) ?_
    exact hE _ _ _ _ _ hH (by first | exact xb_f (fun h => c_1 h.1) | exact xb_f (fun h => c_2 h.2) | exact xb_t ⟨c_1, c_2⟩) (by decide) dX3_isPlace_27
  · rw [xb_0] at c_1
    have c_1 := Classical.not_not.mp c_1
    refine lv_iload_n C.1 C.2.1 dX3_isPlace_11 rfl (lv_at hl 1 rfl) ?_
    refine lv_iconst (v := nI 0) C.1 C.2.1 dX3_isPlace_12 (by decide) ?_
    refine lv_sipush (v := nI 200) C.1 C.2.1 dX3_isPlace_13 (by decide) ?_
    refine x_ci (w' := wX G a S T L F bs) (va_runS (As := [.int y, .int (nI 0), .int (nI 200)]) (rest := []) (x_fix C hml) (c_X3_isWithin l G a S T L F bs y (nI 0) (nI 200) _) (cwS 3 C.2.2.2.1 gX3_isPlace_X3_isWithin rfl rfl rfl (by decide +kernel) ⟨Nat.le_of_ble_eq_true rfl, Nat.le_of_ble_eq_true rfl⟩) (x_ps C hH) rfl rfl hl.1 rfl (lv_room (Nat.le_of_ble_eq_true rfl)) dX3_isPlace_16 ⟨Nat.le_of_ble_eq_true rfl, Nat.le_of_ble_eq_true rfl⟩) hH hA (fun H locs hH => ?_)
    refine lv_if_eq (tgt := 26) C.1 C.2.1 dX3_isPlace_19 (by decide) (fun c_2 => ?_) (fun c_2 => ?_)
    · rw [xb_0] at c_2
      refine lv_iconst (v := nI 0) C.1 C.2.1 dX3_isPlace_26 (by decide) ?_
      exact hE _ _ _ _ _ hH (by first | exact xb_f (fun h => c_1 h.1) | exact xb_f (fun h => c_2 h.2) | exact xb_t ⟨c_1, c_2⟩) (by decide) dX3_isPlace_27
    · rw [xb_0] at c_2
      have c_2 := Classical.not_not.mp c_2
      refine lv_iconst (v := nI 1) C.1 C.2.1 dX3_isPlace_22 (by decide) ?_
      refine lv_goto (tgt := 27) C.1 C.2.1 dX3_isPlace_23 (by decide) ?_
      exact hE _ _ _ _ _ hH (by first | exact xb_f (fun h => c_1 h.1) | exact xb_f (fun h => c_2 h.2) | exact xb_t ⟨c_1, c_2⟩) (by decide) dX3_isPlace_27
end
section
set_option maxHeartbeats 1000000 in
set_option maxRecDepth 100000 in
theorem c_X2_bitOf (l : Launch) (G : xG) (a : Nat → Nat) (S T : Nat → Nat → Int32) (L : Nat → Nat → Int64) (F : Nat → Int32) (bs : Int64) (j lv : Nat) (hF5 : F 5 = nI lv) (hj : lv ≤ j) : xMi l yX2_bitOf wsX2_bitOf { frames := 0, cells := 0, slots := 0, locals := 0 } [.ref (a 6), .int (nI j)] G (wX G a S T L F bs) (bitI (j - lv)) (wX G a S T L F bs) 0 0 := by
  refine x_ofi (cc := cX2_bitOf) (maxL := 2) (ty := .int) (by decide) rfl (Nat.le_of_ble_eq_true rfl) ?_
  intro p e s m args below meth c ls A Q C hml hA hH hl hE
  have hl : lv_has ls 2 [(0, .ref (a 6)), (1, .int (nI j))] := hl
  have inX2 : ∀ w ∈ wsX20, w ∈ wsX2_bitOf := fun _ h => (List.mem_cons_of_mem _ (List.mem_append_right _ h))
  refine lv_iconst (v := nI 1) C.1 C.2.1 dX2_bitOf_0 (by decide) ?_
  refine lv_iload_n C.1 C.2.1 dX2_bitOf_1 rfl (lv_at hl 1 rfl) ?_
  refine lv_aload_n C.1 C.2.1 dX2_bitOf_2 rfl (lv_at hl 0 rfl) ?_
  refine x_get (C := RX2) (T := TX2) (N := 14) (v := .int (F 5)) C inX2 hH 6 gX_6 rfl 12 (by decide) rfl rfl 1 rfl dX2_bitOf_3 ?_
  refine x_toi hF5 ?_
  refine lv_isub C.1 C.2.1 dX2_bitOf_6 ?_
  refine x_toi (pk_sub (a := j) (b := lv) (by omega)) ?_
  refine lv_ishl C.1 C.2.1 dX2_bitOf_7 ?_
  exact hE _ _ _ _ _ hH (rfl) (rfl) dX2_bitOf_8
set_option maxHeartbeats 1000000 in
set_option maxRecDepth 100000 in
theorem c_X2_distanceOf (l : Launch) (G : xG) (a : Nat → Nat) (S T : Nat → Nat → Int32) (L : Nat → Nat → Int64) (F : Nat → Int32) (bs : Int64) (i j : Nat) (hi : i < 19) (hj : j < 19) : xMi l yX2_distanceOf wsX2_distanceOf { frames := 2, cells := 0, slots := 0, locals := 37 } [.ref (a 6), .int (nI i), .int (nI j)] G (wX G a S T L F bs) (dist T i j) (wX G a S T L F bs) 0 0 := by
  refine x_ofi (cc := cX2_distanceOf) (maxL := 5) (ty := .int) (by decide) rfl (Nat.le_of_ble_eq_true rfl) ?_
  intro p e s m args below meth c ls A Q C hml hA hH hl hE
  have hl : lv_has ls 5 [(0, .ref (a 6)), (1, .int (nI i)), (2, .int (nI j))] := hl
  have inX2 : ∀ w ∈ wsX20, w ∈ wsX2_distanceOf := fun _ h => (List.mem_cons_of_mem _ (List.mem_append_right _ h))
  refine lv_aload_n C.1 C.2.1 dX2_distanceOf_0 rfl (lv_at hl 0 rfl) ?_
  refine x_get (C := RX2) (T := TX2) (N := 14) (v := .ref (a 10)) C inX2 hH 6 gX_6 rfl 3 (by decide) rfl rfl 1 rfl dX2_distanceOf_1 ?_
  refine lv_iload_n C.1 C.2.1 dX2_distanceOf_4 rfl (lv_at hl 1 rfl) ?_
  refine x_iald (f := T 3) (j := i) (v := T 3 i) C hH 10 gX_10 (by omega) (by decide) (rfl) dX2_distanceOf_5 ?_
  refine lv_aload_n C.1 C.2.1 dX2_distanceOf_6 rfl (lv_at hl 0 rfl) ?_
  refine x_get (C := RX2) (T := TX2) (N := 14) (v := .ref (a 11)) C inX2 hH 6 gX_6 rfl 4 (by decide) rfl rfl 2 rfl dX2_distanceOf_7 ?_
  refine lv_iload_n C.1 C.2.1 dX2_distanceOf_10 rfl (lv_at hl 1 rfl) ?_
  refine x_iald (f := T 4) (j := i) (v := T 4 i) C hH 11 gX_11 (by omega) (by decide) (rfl) dX2_distanceOf_11 ?_
  refine lv_aload_n C.1 C.2.1 dX2_distanceOf_12 rfl (lv_at hl 0 rfl) ?_
  refine x_get (C := RX2) (T := TX2) (N := 14) (v := .ref (a 10)) C inX2 hH 6 gX_6 rfl 3 (by decide) rfl rfl 1 rfl dX2_distanceOf_13 ?_
  refine lv_iload_n C.1 C.2.1 dX2_distanceOf_16 rfl (lv_at hl 2 rfl) ?_
  refine x_iald (f := T 3) (j := j) (v := T 3 j) C hH 10 gX_10 (by omega) (by decide) (rfl) dX2_distanceOf_17 ?_
  refine lv_aload_n C.1 C.2.1 dX2_distanceOf_18 rfl (lv_at hl 0 rfl) ?_
  refine x_get (C := RX2) (T := TX2) (N := 14) (v := .ref (a 11)) C inX2 hH 6 gX_6 rfl 4 (by decide) rfl rfl 2 rfl dX2_distanceOf_19 ?_
  refine lv_iload_n C.1 C.2.1 dX2_distanceOf_22 rfl (lv_at hl 2 rfl) ?_
  refine x_iald (f := T 4) (j := j) (v := T 4 j) C hH 11 gX_11 (by omega) (by decide) (rfl) dX2_distanceOf_23 ?_
  refine x_ci (w' := wX G a S T L F bs) (va_runS (As := [.int (T 3 i), .int (T 4 i), .int (T 3 j), .int (T 4 j)]) (rest := []) (x_fix C hml) (c_X2_gapOf l G a S T L F bs (T 3 i) (T 4 i) (T 3 j) (T 4 j) _) (cwS 4 C.2.2.2.1 gX2_distanceOf_X2_gapOf rfl rfl rfl (by decide +kernel) ⟨Nat.le_of_ble_eq_true rfl, Nat.le_of_ble_eq_true rfl⟩) (x_ps C hH) rfl rfl hl.1 rfl (lv_room (Nat.le_of_ble_eq_true rfl)) dX2_distanceOf_24 ⟨Nat.le_of_ble_eq_true rfl, Nat.le_of_ble_eq_true rfl⟩) hH hA (fun H locs hH => ?_)
  refine lv_istore_n (lv' := [(3, .int (iG (T 3 i) (T 4 i) (T 3 j) (T 4 j))), (0, .ref (a 6)), (1, .int (nI i)), (2, .int (nI j))]) C.1 C.2.1 dX2_distanceOf_27 rfl hl (by decide) rfl (fun ls hl => ?_)
  refine lv_aload_n C.1 C.2.1 dX2_distanceOf_28 rfl (lv_at hl 1 rfl) ?_
  refine x_get (C := RX2) (T := TX2) (N := 14) (v := .ref (a 12)) C inX2 hH 6 gX_6 rfl 5 (by decide) rfl rfl 3 rfl dX2_distanceOf_29 ?_
  refine lv_iload_n C.1 C.2.1 dX2_distanceOf_32 rfl (lv_at hl 2 rfl) ?_
  refine x_iald (f := T 5) (j := i) (v := T 5 i) C hH 12 gX_12 (by omega) (by decide) (rfl) dX2_distanceOf_33 ?_
  refine lv_aload_n C.1 C.2.1 dX2_distanceOf_34 rfl (lv_at hl 1 rfl) ?_
  refine x_get (C := RX2) (T := TX2) (N := 14) (v := .ref (a 13)) C inX2 hH 6 gX_6 rfl 6 (by decide) rfl rfl 4 rfl dX2_distanceOf_35 ?_
  refine lv_iload_n C.1 C.2.1 dX2_distanceOf_38 rfl (lv_at hl 2 rfl) ?_
  refine x_iald (f := T 6) (j := i) (v := T 6 i) C hH 13 gX_13 (by omega) (by decide) (rfl) dX2_distanceOf_39 ?_
  refine lv_aload_n C.1 C.2.1 dX2_distanceOf_40 rfl (lv_at hl 1 rfl) ?_
  refine x_get (C := RX2) (T := TX2) (N := 14) (v := .ref (a 12)) C inX2 hH 6 gX_6 rfl 5 (by decide) rfl rfl 3 rfl dX2_distanceOf_41 ?_
  refine lv_iload_n C.1 C.2.1 dX2_distanceOf_44 rfl (lv_at hl 3 rfl) ?_
  refine x_iald (f := T 5) (j := j) (v := T 5 j) C hH 12 gX_12 (by omega) (by decide) (rfl) dX2_distanceOf_45 ?_
  refine lv_aload_n C.1 C.2.1 dX2_distanceOf_46 rfl (lv_at hl 1 rfl) ?_
  refine x_get (C := RX2) (T := TX2) (N := 14) (v := .ref (a 13)) C inX2 hH 6 gX_6 rfl 6 (by decide) rfl rfl 4 rfl dX2_distanceOf_47 ?_
  refine lv_iload_n C.1 C.2.1 dX2_distanceOf_50 rfl (lv_at hl 3 rfl) ?_
  refine x_iald (f := T 6) (j := j) (v := T 6 j) C hH 13 gX_13 (by omega) (by decide) (rfl) dX2_distanceOf_51 ?_
  refine x_ci (w' := wX G a S T L F bs) (va_runS (As := [.int (T 5 i), .int (T 6 i), .int (T 5 j), .int (T 6 j)]) (rest := []) (x_fix C hml) (c_X2_gapOf l G a S T L F bs (T 5 i) (T 6 i) (T 5 j) (T 6 j) _) (cwS 4 C.2.2.2.1 gX2_distanceOf_X2_gapOf rfl rfl rfl (by decide +kernel) ⟨Nat.le_of_ble_eq_true rfl, Nat.le_of_ble_eq_true rfl⟩) (x_ps C hH) rfl rfl hl.1 rfl (lv_room (Nat.le_of_ble_eq_true rfl)) dX2_distanceOf_52 ⟨Nat.le_of_ble_eq_true rfl, Nat.le_of_ble_eq_true rfl⟩) hH hA (fun H locs hH => ?_)
  refine lv_istore (lv' := [(4, .int (iG (T 5 i) (T 6 i) (T 5 j) (T 6 j))), (3, .int (iG (T 3 i) (T 4 i) (T 3 j) (T 4 j))), (0, .ref (a 6)), (1, .int (nI i)), (2, .int (nI j))]) C.1 C.2.1 dX2_distanceOf_55 hl (by decide) rfl (fun ls hl => ?_)
  refine lv_iload_n C.1 C.2.1 dX2_distanceOf_57 rfl (lv_at hl 1 rfl) ?_
  refine lv_iload C.1 C.2.1 dX2_distanceOf_58 (lv_at hl 0 rfl) ?_
  refine va_mmax C.1 C.2.1 (hml.trans hl.1.symm) C.2.2.1 (C.2.2.2.1 _ (List.mem_of_getElem? (i := 5) rfl)) (C.2.2.2.1 _ (List.mem_of_getElem? (i := 6) rfl)) (C.2.2.2.1 _ (List.mem_of_getElem? (i := 7) rfl)) (C.2.2.2.1 _ (List.mem_of_getElem? (i := 8) rfl)) (Nat.le_of_ble_eq_true rfl) (Nat.le_of_ble_eq_true rfl) (Nat.le_of_ble_eq_true rfl) (Nat.le_of_ble_eq_true rfl) dX2_distanceOf_60 ?_
  refine x_toi (show _ = imax (iG (T 3 i) (T 4 i) (T 3 j) (T 4 j)) (iG (T 5 i) (T 6 i) (T 5 j) (T 6 j)) from rfl) ?_
  exact hE _ _ _ _ _ hH (rfl) (rfl) dX2_distanceOf_63
set_option maxHeartbeats 1000000 in
set_option maxRecDepth 100000 in
theorem c_X2_setWires (l : Launch) (G : xG) (a : Nat → Nat) (S T : Nat → Nat → Int32) (L : Nat → Nat → Int64) (F : Nat → Int32) (bs : Int64) (i j : Nat) (d : Int32) (hi : i < 19) (hj : j < 19) : xMv l yX2_setWires wsX2_setWires { frames := 0, cells := 0, slots := 0, locals := 0 } [.ref (a 6), .int (nI i), .int (nI j), .int d] G (wX G a S T L F bs) (wX G a S (tS T 8 (upd (upd (T 8) i (wA T i j d)) j (wB T i j d))) L F bs) 0 0 := by
  refine x_ofv (cc := cX2_setWires) (maxL := 4) (by decide) rfl (Nat.le_of_ble_eq_true rfl) ?_
  intro p e s m args below meth c ls A Q C hml hA hH hl hE
  have hl : lv_has ls 4 [(0, .ref (a 6)), (1, .int (nI i)), (2, .int (nI j)), (3, .int d)] := hl
  have inX2 : ∀ w ∈ wsX20, w ∈ wsX2_setWires := fun _ h => (List.mem_cons_of_mem _ (List.mem_append_right _ h))
  refine lv_aload_n C.1 C.2.1 dX2_setWires_0 rfl (lv_at hl 0 rfl) ?_
  refine x_get (C := RX2) (T := TX2) (N := 14) (v := .ref (a 14)) C inX2 hH 6 gX_6 rfl 7 (by decide) rfl rfl 1 rfl dX2_setWires_1 ?_
  refine lv_iload_n C.1 C.2.1 dX2_setWires_4 rfl (lv_at hl 1 rfl) ?_
  refine x_iald (f := T 7) (j := i) (v := T 7 i) C hH 14 gX_14 (by omega) (by decide) (rfl) dX2_setWires_5 ?_
  refine lv_iload_n C.1 C.2.1 dX2_setWires_6 rfl (lv_at hl 3 rfl) ?_
  refine lv_aload_n C.1 C.2.1 dX2_setWires_7 rfl (lv_at hl 0 rfl) ?_
  refine x_get (C := RX2) (T := TX2) (N := 14) (v := .ref (a 14)) C inX2 hH 6 gX_6 rfl 7 (by decide) rfl rfl 1 rfl dX2_setWires_8 ?_
  refine lv_iload_n C.1 C.2.1 dX2_setWires_11 rfl (lv_at hl 2 rfl) ?_
  refine x_iald (f := T 7) (j := j) (v := T 7 j) C hH 14 gX_14 (by omega) (by decide) (rfl) dX2_setWires_12 ?_
  refine lv_iadd C.1 C.2.1 dX2_setWires_13 ?_
  refine lv_icmp_le (tgt := 46) C.1 C.2.1 dX2_setWires_14 (by decide) (fun c_1 => ?_) (fun c_1 => ?_)
  · refine lv_aload_n C.1 C.2.1 dX2_setWires_46 rfl (lv_at hl 0 rfl) ?_
    refine x_get (C := RX2) (T := TX2) (N := 14) (v := .ref (a 14)) C inX2 hH 6 gX_6 rfl 7 (by decide) rfl rfl 1 rfl dX2_setWires_47 ?_
    refine lv_iload_n C.1 C.2.1 dX2_setWires_50 rfl (lv_at hl 2 rfl) ?_
    refine x_iald (f := T 7) (j := j) (v := T 7 j) C hH 14 gX_14 (by omega) (by decide) (rfl) dX2_setWires_51 ?_
    refine lv_iload_n C.1 C.2.1 dX2_setWires_52 rfl (lv_at hl 3 rfl) ?_
    refine lv_aload_n C.1 C.2.1 dX2_setWires_53 rfl (lv_at hl 0 rfl) ?_
    refine x_get (C := RX2) (T := TX2) (N := 14) (v := .ref (a 14)) C inX2 hH 6 gX_6 rfl 7 (by decide) rfl rfl 1 rfl dX2_setWires_54 ?_
    refine lv_iload_n C.1 C.2.1 dX2_setWires_57 rfl (lv_at hl 1 rfl) ?_
    refine x_iald (f := T 7) (j := i) (v := T 7 i) C hH 14 gX_14 (by omega) (by decide) (rfl) dX2_setWires_58 ?_
    refine lv_iadd C.1 C.2.1 dX2_setWires_59 ?_
    refine lv_icmp_le (tgt := 92) C.1 C.2.1 dX2_setWires_60 (by decide) (fun c_2 => ?_) (fun c_2 => ?_)
    · refine lv_aload_n C.1 C.2.1 dX2_setWires_92 rfl (lv_at hl 0 rfl) ?_
      refine x_get (C := RX2) (T := TX2) (N := 14) (v := .ref (a 15)) C inX2 hH 6 gX_6 rfl 8 (by decide) rfl rfl 2 rfl dX2_setWires_93 ?_
      refine lv_iload_n C.1 C.2.1 dX2_setWires_96 rfl (lv_at hl 1 rfl) ?_
      refine lv_iload_n C.1 C.2.1 dX2_setWires_97 rfl (lv_at hl 3 rfl) ?_
      refine lv_aload_n C.1 C.2.1 dX2_setWires_98 rfl (lv_at hl 0 rfl) ?_
      refine x_get (C := RX2) (T := TX2) (N := 14) (v := .ref (a 14)) C inX2 hH 6 gX_6 rfl 7 (by decide) rfl rfl 1 rfl dX2_setWires_99 ?_
      refine lv_iload_n C.1 C.2.1 dX2_setWires_102 rfl (lv_at hl 2 rfl) ?_
      refine x_iald (f := T 7) (j := j) (v := T 7 j) C hH 14 gX_14 (by omega) (by decide) (rfl) dX2_setWires_103 ?_
      refine lv_iadd C.1 C.2.1 dX2_setWires_104 ?_
      refine lv_aload_n C.1 C.2.1 dX2_setWires_105 rfl (lv_at hl 0 rfl) ?_
      refine x_get (C := RX2) (T := TX2) (N := 14) (v := .ref (a 14)) C inX2 hH 6 gX_6 rfl 7 (by decide) rfl rfl 1 rfl dX2_setWires_106 ?_
      refine lv_iload_n C.1 C.2.1 dX2_setWires_109 rfl (lv_at hl 1 rfl) ?_
      refine x_iald (f := T 7) (j := i) (v := T 7 i) C hH 14 gX_14 (by omega) (by decide) (rfl) dX2_setWires_110 ?_
      refine lv_isub C.1 C.2.1 dX2_setWires_111 ?_
      refine lv_iconst (v := nI 2) C.1 C.2.1 dX2_setWires_112 (by decide) ?_
      refine lv_idiv C.1 C.2.1 dX2_setWires_113 (by decide) ?_
      refine x_iast (f := T 8) (j := i) (x := ((d + (T 7 j)) - (T 7 i)) / (nI 2)) (w' := wX G a S ((tS T 8 (upd (T 8) i (((d + (T 7 j)) - (T 7 i)) / (nI 2))))) L F bs) C hH 15 gX_15 (by omega) (by decide) sX_15 dX2_setWires_114 (fun H locs hH => ?_)
      refine lv_aload_n C.1 C.2.1 dX2_setWires_115 rfl (lv_at hl 0 rfl) ?_
      refine x_get (C := RX2) (T := TX2) (N := 14) (v := .ref (a 15)) C inX2 hH 6 gX_6 rfl 8 (by decide) rfl rfl 2 rfl dX2_setWires_116 ?_
      refine lv_iload_n C.1 C.2.1 dX2_setWires_119 rfl (lv_at hl 2 rfl) ?_
      refine lv_iload_n C.1 C.2.1 dX2_setWires_120 rfl (lv_at hl 3 rfl) ?_
      refine lv_aload_n C.1 C.2.1 dX2_setWires_121 rfl (lv_at hl 0 rfl) ?_
      refine x_get (C := RX2) (T := TX2) (N := 14) (v := .ref (a 15)) C inX2 hH 6 gX_6 rfl 8 (by decide) rfl rfl 2 rfl dX2_setWires_122 ?_
      refine lv_iload_n C.1 C.2.1 dX2_setWires_125 rfl (lv_at hl 1 rfl) ?_
      refine x_iald (f := upd (T 8) i (((d + (T 7 j)) - (T 7 i)) / (nI 2))) (j := i) (v := ((d + (T 7 j)) - (T 7 i)) / (nI 2)) C hH 15 gX_15 (by omega) (by decide) (pk_us) dX2_setWires_126 ?_
      refine lv_isub C.1 C.2.1 dX2_setWires_127 ?_
      refine x_iast (f := upd (T 8) i (((d + (T 7 j)) - (T 7 i)) / (nI 2))) (j := j) (x := d - (((d + (T 7 j)) - (T 7 i)) / (nI 2))) (w' := wX G a S ((tS T 8 (upd (upd (T 8) i (((d + (T 7 j)) - (T 7 i)) / (nI 2))) j (d - (((d + (T 7 j)) - (T 7 i)) / (nI 2)))))) L F bs) C hH 15 gX_15 (by omega) (by decide) sX_15 dX2_setWires_128 (fun H locs hH => ?_)
      have hH := x_eqw (w' := wX G a S (tS T 8 (upd (upd (T 8) i (wA T i j d)) j (wB T i j d))) L F bs) (by (try simp only [← Int32.not_lt, Classical.not_not] at c_1); (try simp only [← Int32.not_lt, Classical.not_not] at c_2); simp only [wA, wB, ← Int32.not_lt, c_1, c_2, and_self, and_true, true_and, and_false, false_and, or_true, true_or, or_false, false_or, not_true_eq_false, not_false_eq_true, Classical.not_not, if_true, if_false, reduceIte]) hH
      exact hE _ _ _ _ hH dX2_setWires_129
    · refine lv_aload_n C.1 C.2.1 dX2_setWires_63 rfl (lv_at hl 0 rfl) ?_
      refine x_get (C := RX2) (T := TX2) (N := 14) (v := .ref (a 15)) C inX2 hH 6 gX_6 rfl 8 (by decide) rfl rfl 2 rfl dX2_setWires_64 ?_
      refine lv_iload_n C.1 C.2.1 dX2_setWires_67 rfl (lv_at hl 1 rfl) ?_
      refine lv_aload_n C.1 C.2.1 dX2_setWires_68 rfl (lv_at hl 0 rfl) ?_
      refine x_get (C := RX2) (T := TX2) (N := 14) (v := .ref (a 14)) C inX2 hH 6 gX_6 rfl 7 (by decide) rfl rfl 1 rfl dX2_setWires_69 ?_
      refine lv_iload_n C.1 C.2.1 dX2_setWires_72 rfl (lv_at hl 2 rfl) ?_
      refine x_iald (f := T 7) (j := j) (v := T 7 j) C hH 14 gX_14 (by omega) (by decide) (rfl) dX2_setWires_73 ?_
      refine lv_aload_n C.1 C.2.1 dX2_setWires_74 rfl (lv_at hl 0 rfl) ?_
      refine x_get (C := RX2) (T := TX2) (N := 14) (v := .ref (a 14)) C inX2 hH 6 gX_6 rfl 7 (by decide) rfl rfl 1 rfl dX2_setWires_75 ?_
      refine lv_iload_n C.1 C.2.1 dX2_setWires_78 rfl (lv_at hl 1 rfl) ?_
      refine x_iald (f := T 7) (j := i) (v := T 7 i) C hH 14 gX_14 (by omega) (by decide) (rfl) dX2_setWires_79 ?_
      refine lv_isub C.1 C.2.1 dX2_setWires_80 ?_
      refine x_iast (f := T 8) (j := i) (x := (T 7 j) - (T 7 i)) (w' := wX G a S ((tS T 8 (upd (T 8) i ((T 7 j) - (T 7 i))))) L F bs) C hH 15 gX_15 (by omega) (by decide) sX_15 dX2_setWires_81 (fun H locs hH => ?_)
      refine lv_aload_n C.1 C.2.1 dX2_setWires_82 rfl (lv_at hl 0 rfl) ?_
      refine x_get (C := RX2) (T := TX2) (N := 14) (v := .ref (a 15)) C inX2 hH 6 gX_6 rfl 8 (by decide) rfl rfl 2 rfl dX2_setWires_83 ?_
      refine lv_iload_n C.1 C.2.1 dX2_setWires_86 rfl (lv_at hl 2 rfl) ?_
      refine lv_iconst (v := nI 0) C.1 C.2.1 dX2_setWires_87 (by decide) ?_
      refine x_iast (f := upd (T 8) i ((T 7 j) - (T 7 i))) (j := j) (x := nI 0) (w' := wX G a S ((tS T 8 (upd (upd (T 8) i ((T 7 j) - (T 7 i))) j (nI 0)))) L F bs) C hH 15 gX_15 (by omega) (by decide) sX_15 dX2_setWires_88 (fun H locs hH => ?_)
      refine lv_goto (tgt := 129) C.1 C.2.1 dX2_setWires_89 (by decide) ?_
      have hH := x_eqw (w' := wX G a S (tS T 8 (upd (upd (T 8) i (wA T i j d)) j (wB T i j d))) L F bs) (by (try simp only [← Int32.not_lt, Classical.not_not] at c_1); (try simp only [← Int32.not_lt, Classical.not_not] at c_2); simp only [wA, wB, ← Int32.not_lt, c_1, c_2, and_self, and_true, true_and, and_false, false_and, or_true, true_or, or_false, false_or, not_true_eq_false, not_false_eq_true, Classical.not_not, if_true, if_false, reduceIte]) hH
      exact hE _ _ _ _ hH dX2_setWires_129
  · refine lv_aload_n C.1 C.2.1 dX2_setWires_17 rfl (lv_at hl 0 rfl) ?_
    refine x_get (C := RX2) (T := TX2) (N := 14) (v := .ref (a 15)) C inX2 hH 6 gX_6 rfl 8 (by decide) rfl rfl 2 rfl dX2_setWires_18 ?_
    refine lv_iload_n C.1 C.2.1 dX2_setWires_21 rfl (lv_at hl 1 rfl) ?_
    refine lv_iconst (v := nI 0) C.1 C.2.1 dX2_setWires_22 (by decide) ?_
    refine x_iast (f := T 8) (j := i) (x := nI 0) (w' := wX G a S ((tS T 8 (upd (T 8) i (nI 0)))) L F bs) C hH 15 gX_15 (by omega) (by decide) sX_15 dX2_setWires_23 (fun H locs hH => ?_)
    refine lv_aload_n C.1 C.2.1 dX2_setWires_24 rfl (lv_at hl 0 rfl) ?_
    refine x_get (C := RX2) (T := TX2) (N := 14) (v := .ref (a 15)) C inX2 hH 6 gX_6 rfl 8 (by decide) rfl rfl 2 rfl dX2_setWires_25 ?_
    refine lv_iload_n C.1 C.2.1 dX2_setWires_28 rfl (lv_at hl 2 rfl) ?_
    refine lv_aload_n C.1 C.2.1 dX2_setWires_29 rfl (lv_at hl 0 rfl) ?_
    refine x_get (C := RX2) (T := TX2) (N := 14) (v := .ref (a 14)) C inX2 hH 6 gX_6 rfl 7 (by decide) rfl rfl 1 rfl dX2_setWires_30 ?_
    refine lv_iload_n C.1 C.2.1 dX2_setWires_33 rfl (lv_at hl 1 rfl) ?_
    refine x_iald (f := T 7) (j := i) (v := T 7 i) C hH 14 gX_14 (by omega) (by decide) (rfl) dX2_setWires_34 ?_
    refine lv_aload_n C.1 C.2.1 dX2_setWires_35 rfl (lv_at hl 0 rfl) ?_
    refine x_get (C := RX2) (T := TX2) (N := 14) (v := .ref (a 14)) C inX2 hH 6 gX_6 rfl 7 (by decide) rfl rfl 1 rfl dX2_setWires_36 ?_
    refine lv_iload_n C.1 C.2.1 dX2_setWires_39 rfl (lv_at hl 2 rfl) ?_
    refine x_iald (f := T 7) (j := j) (v := T 7 j) C hH 14 gX_14 (by omega) (by decide) (rfl) dX2_setWires_40 ?_
    refine lv_isub C.1 C.2.1 dX2_setWires_41 ?_
    refine x_iast (f := upd (T 8) i (nI 0)) (j := j) (x := (T 7 i) - (T 7 j)) (w' := wX G a S ((tS T 8 (upd (upd (T 8) i (nI 0)) j ((T 7 i) - (T 7 j))))) L F bs) C hH 15 gX_15 (by omega) (by decide) sX_15 dX2_setWires_42 (fun H locs hH => ?_)
    refine lv_goto (tgt := 129) C.1 C.2.1 dX2_setWires_43 (by decide) ?_
    have hH := x_eqw (w' := wX G a S (tS T 8 (upd (upd (T 8) i (wA T i j d)) j (wB T i j d))) L F bs) (by (try simp only [← Int32.not_lt, Classical.not_not] at c_1); simp only [wA, wB, ← Int32.not_lt, c_1, and_self, and_true, true_and, and_false, false_and, or_true, true_or, or_false, false_or, not_true_eq_false, not_false_eq_true, Classical.not_not, if_true, if_false, reduceIte]) hH
    exact hE _ _ _ _ hH dX2_setWires_129
set_option maxHeartbeats 1000000 in
set_option maxRecDepth 100000 in
theorem c_X2_joinTwo (l : Launch) (G : xG) (a : Nat → Nat) (S T : Nat → Nat → Int32) (L : Nat → Nat → Int64) (F : Nat → Int32) (bs : Int64) (i j n : Nat) (hF6 : F 6 = nI n) (hn : n < 19) (hi : i < 19) (hj : j < 19) (hne : i ≠ j) : xMi l yX2_joinTwo wsX2_joinTwo { frames := 3, cells := 0, slots := 0, locals := 61 } [.ref (a 6), .int (nI i), .int (nI j)] G (wX G a S T L F bs) (nI n) (wX G a S (joinT T n i j) L (tS F 6 (nI (n + 1))) bs) 0 0 := by
  refine x_ofi (cc := cX2_joinTwo) (maxL := 4) (ty := .int) (by decide) rfl (Nat.le_of_ble_eq_true rfl) ?_
  intro p e s m args below meth c ls A Q C hml hA hH hl hE
  have hl : lv_has ls 4 [(0, .ref (a 6)), (1, .int (nI i)), (2, .int (nI j))] := hl
  have inX2 : ∀ w ∈ wsX20, w ∈ wsX2_joinTwo := fun _ h => (List.mem_cons_of_mem _ (List.mem_append_right _ h))
  refine lv_aload_n C.1 C.2.1 dX2_joinTwo_0 rfl (lv_at hl 0 rfl) ?_
  refine x_get (C := RX2) (T := TX2) (N := 14) (v := .int (F 6)) C inX2 hH 6 gX_6 rfl 13 (by decide) rfl rfl 1 rfl dX2_joinTwo_1 ?_
  refine x_toi hF6 ?_
  refine lv_istore_n (lv' := [(3, .int (nI n)), (0, .ref (a 6)), (1, .int (nI i)), (2, .int (nI j))]) C.1 C.2.1 dX2_joinTwo_4 rfl hl (by decide) rfl (fun ls hl => ?_)
  refine lv_aload_n C.1 C.2.1 dX2_joinTwo_5 rfl (lv_at hl 1 rfl) ?_
  refine lv_iload_n C.1 C.2.1 dX2_joinTwo_6 rfl (lv_at hl 2 rfl) ?_
  refine lv_iload_n C.1 C.2.1 dX2_joinTwo_7 rfl (lv_at hl 3 rfl) ?_
  refine lv_aload_n C.1 C.2.1 dX2_joinTwo_8 rfl (lv_at hl 1 rfl) ?_
  refine lv_iload_n C.1 C.2.1 dX2_joinTwo_9 rfl (lv_at hl 2 rfl) ?_
  refine lv_iload_n C.1 C.2.1 dX2_joinTwo_10 rfl (lv_at hl 3 rfl) ?_
  refine x_ci (w' := wX G a S T L F bs) (va_runV (As := [.int (nI i), .int (nI j)]) (rest := [.int (nI j), .int (nI i), .ref (a 6)]) (x_fix C hml) (c_X2_distanceOf l G a S T L F bs (i) (j) (by omega) (by omega) _) (cwV 2 C.2.2.2.1 gX2_joinTwo_X2_distanceOf rfl rfl rfl (by decide +kernel) ⟨Nat.le_of_ble_eq_true rfl, Nat.le_of_ble_eq_true rfl⟩) (x_pv C hH rfl gX_6 rfl rfl) rfl rfl hl.1 rfl (lv_room (Nat.le_of_ble_eq_true rfl)) dX2_joinTwo_11 ⟨Nat.le_of_ble_eq_true rfl, Nat.le_of_ble_eq_true rfl⟩) hH hA (fun H locs hH => ?_)
  refine x_cv (w' := wX G a S ((tS T 8 (upd (upd (T 8) i (wA T i j (dist T i j))) j (wB T i j (dist T i j))))) L F bs) (va_runV (As := [.int (nI i), .int (nI j), .int (dist T i j)]) (rest := []) (x_fix C hml) (c_X2_setWires l G a S T L F bs i j (dist T i j) (by omega) (by omega) _) (cwV 3 C.2.2.2.1 gX2_joinTwo_X2_setWires rfl rfl rfl (by decide +kernel) ⟨Nat.le_of_ble_eq_true rfl, Nat.le_of_ble_eq_true rfl⟩) (x_pv C hH rfl gX_6 rfl rfl) rfl rfl hl.1 rfl (lv_room (Nat.le_of_ble_eq_true rfl)) dX2_joinTwo_14 ⟨Nat.le_of_ble_eq_true rfl, Nat.le_of_ble_eq_true rfl⟩) hH hA (fun H locs hH => ?_)
  refine lv_aload_n C.1 C.2.1 dX2_joinTwo_17 rfl (lv_at hl 1 rfl) ?_
  refine x_get (C := RX2) (T := TX2) (N := 14) (v := .ref (a 7)) C inX2 hH 6 gX_6 rfl 0 (by decide) rfl rfl 2 rfl dX2_joinTwo_18 ?_
  refine lv_iload_n C.1 C.2.1 dX2_joinTwo_21 rfl (lv_at hl 0 rfl) ?_
  refine lv_iload_n C.1 C.2.1 dX2_joinTwo_22 rfl (lv_at hl 2 rfl) ?_
  refine x_iast (f := T 0) (j := n) (x := nI i) (w' := wX G a S ((tS ((tS T 8 (upd (upd (T 8) i (wA T i j (dist T i j))) j (wB T i j (dist T i j))))) 0 (upd (T 0) n (nI i)))) L F bs) C hH 7 gX_7 (by omega) (by decide) sX_7 dX2_joinTwo_23 (fun H locs hH => ?_)
  refine lv_aload_n C.1 C.2.1 dX2_joinTwo_24 rfl (lv_at hl 1 rfl) ?_
  refine x_get (C := RX2) (T := TX2) (N := 14) (v := .ref (a 8)) C inX2 hH 6 gX_6 rfl 1 (by decide) rfl rfl 3 rfl dX2_joinTwo_25 ?_
  refine lv_iload_n C.1 C.2.1 dX2_joinTwo_28 rfl (lv_at hl 0 rfl) ?_
  refine lv_iload_n C.1 C.2.1 dX2_joinTwo_29 rfl (lv_at hl 3 rfl) ?_
  refine x_iast (f := T 1) (j := n) (x := nI j) (w' := wX G a S ((tS ((tS ((tS T 8 (upd (upd (T 8) i (wA T i j (dist T i j))) j (wB T i j (dist T i j))))) 0 (upd (T 0) n (nI i)))) 1 (upd (T 1) n (nI j)))) L F bs) C hH 8 gX_8 (by omega) (by decide) sX_8 dX2_joinTwo_30 (fun H locs hH => ?_)
  refine lv_aload_n C.1 C.2.1 dX2_joinTwo_31 rfl (lv_at hl 1 rfl) ?_
  refine x_get (C := RX2) (T := TX2) (N := 14) (v := .ref (a 9)) C inX2 hH 6 gX_6 rfl 2 (by decide) rfl rfl 4 rfl dX2_joinTwo_32 ?_
  refine lv_iload_n C.1 C.2.1 dX2_joinTwo_35 rfl (lv_at hl 0 rfl) ?_
  refine lv_iconst (v := (-1)) C.1 C.2.1 dX2_joinTwo_36 (by decide) ?_
  refine x_iast (f := T 2) (j := n) (x := (-1)) (w' := wX G a S ((tS ((tS ((tS ((tS T 8 (upd (upd (T 8) i (wA T i j (dist T i j))) j (wB T i j (dist T i j))))) 0 (upd (T 0) n (nI i)))) 1 (upd (T 1) n (nI j)))) 2 (upd (T 2) n ((-1))))) L F bs) C hH 9 gX_9 (by omega) (by decide) sX_9 dX2_joinTwo_37 (fun H locs hH => ?_)
  refine lv_aload_n C.1 C.2.1 dX2_joinTwo_38 rfl (lv_at hl 1 rfl) ?_
  refine x_get (C := RX2) (T := TX2) (N := 14) (v := .ref (a 9)) C inX2 hH 6 gX_6 rfl 2 (by decide) rfl rfl 4 rfl dX2_joinTwo_39 ?_
  refine lv_iload_n C.1 C.2.1 dX2_joinTwo_42 rfl (lv_at hl 2 rfl) ?_
  refine lv_iload_n C.1 C.2.1 dX2_joinTwo_43 rfl (lv_at hl 0 rfl) ?_
  refine x_iast (f := upd (T 2) n ((-1))) (j := i) (x := nI n) (w' := wX G a S ((tS ((tS ((tS ((tS T 8 (upd (upd (T 8) i (wA T i j (dist T i j))) j (wB T i j (dist T i j))))) 0 (upd (T 0) n (nI i)))) 1 (upd (T 1) n (nI j)))) 2 (upd (upd (T 2) n ((-1))) i (nI n)))) L F bs) C hH 9 gX_9 (by omega) (by decide) sX_9 dX2_joinTwo_44 (fun H locs hH => ?_)
  refine lv_aload_n C.1 C.2.1 dX2_joinTwo_45 rfl (lv_at hl 1 rfl) ?_
  refine x_get (C := RX2) (T := TX2) (N := 14) (v := .ref (a 9)) C inX2 hH 6 gX_6 rfl 2 (by decide) rfl rfl 4 rfl dX2_joinTwo_46 ?_
  refine lv_iload_n C.1 C.2.1 dX2_joinTwo_49 rfl (lv_at hl 3 rfl) ?_
  refine lv_iload_n C.1 C.2.1 dX2_joinTwo_50 rfl (lv_at hl 0 rfl) ?_
  refine x_iast (f := upd (upd (T 2) n ((-1))) i (nI n)) (j := j) (x := nI n) (w' := wX G a S ((tS ((tS ((tS ((tS T 8 (upd (upd (T 8) i (wA T i j (dist T i j))) j (wB T i j (dist T i j))))) 0 (upd (T 0) n (nI i)))) 1 (upd (T 1) n (nI j)))) 2 (upd (upd (upd (T 2) n ((-1))) i (nI n)) j (nI n)))) L F bs) C hH 9 gX_9 (by omega) (by decide) sX_9 dX2_joinTwo_51 (fun H locs hH => ?_)
  refine lv_aload_n C.1 C.2.1 dX2_joinTwo_52 rfl (lv_at hl 1 rfl) ?_
  refine x_get (C := RX2) (T := TX2) (N := 14) (v := .ref (a 10)) C inX2 hH 6 gX_6 rfl 3 (by decide) rfl rfl 5 rfl dX2_joinTwo_53 ?_
  refine lv_iload_n C.1 C.2.1 dX2_joinTwo_56 rfl (lv_at hl 0 rfl) ?_
  refine lv_aload_n C.1 C.2.1 dX2_joinTwo_57 rfl (lv_at hl 1 rfl) ?_
  refine x_get (C := RX2) (T := TX2) (N := 14) (v := .ref (a 10)) C inX2 hH 6 gX_6 rfl 3 (by decide) rfl rfl 5 rfl dX2_joinTwo_58 ?_
  refine lv_iload_n C.1 C.2.1 dX2_joinTwo_61 rfl (lv_at hl 2 rfl) ?_
  refine x_iald (f := T 3) (j := i) (v := T 3 i) C hH 10 gX_10 (by omega) (by decide) (rfl) dX2_joinTwo_62 ?_
  refine lv_aload_n C.1 C.2.1 dX2_joinTwo_63 rfl (lv_at hl 1 rfl) ?_
  refine x_get (C := RX2) (T := TX2) (N := 14) (v := .ref (a 15)) C inX2 hH 6 gX_6 rfl 8 (by decide) rfl rfl 6 rfl dX2_joinTwo_64 ?_
  refine lv_iload_n C.1 C.2.1 dX2_joinTwo_67 rfl (lv_at hl 2 rfl) ?_
  refine x_iald (f := upd (upd (T 8) i (wA T i j (dist T i j))) j (wB T i j (dist T i j))) (j := i) (v := wA T i j (dist T i j)) C hH 15 gX_15 (by omega) (by decide) (by rw [pk_un hne, pk_us]) dX2_joinTwo_68 ?_
  refine lv_isub C.1 C.2.1 dX2_joinTwo_69 ?_
  refine lv_aload_n C.1 C.2.1 dX2_joinTwo_70 rfl (lv_at hl 1 rfl) ?_
  refine x_get (C := RX2) (T := TX2) (N := 14) (v := .ref (a 10)) C inX2 hH 6 gX_6 rfl 3 (by decide) rfl rfl 5 rfl dX2_joinTwo_71 ?_
  refine lv_iload_n C.1 C.2.1 dX2_joinTwo_74 rfl (lv_at hl 3 rfl) ?_
  refine x_iald (f := T 3) (j := j) (v := T 3 j) C hH 10 gX_10 (by omega) (by decide) (rfl) dX2_joinTwo_75 ?_
  refine lv_aload_n C.1 C.2.1 dX2_joinTwo_76 rfl (lv_at hl 1 rfl) ?_
  refine x_get (C := RX2) (T := TX2) (N := 14) (v := .ref (a 15)) C inX2 hH 6 gX_6 rfl 8 (by decide) rfl rfl 6 rfl dX2_joinTwo_77 ?_
  refine lv_iload_n C.1 C.2.1 dX2_joinTwo_80 rfl (lv_at hl 3 rfl) ?_
  refine x_iald (f := upd (upd (T 8) i (wA T i j (dist T i j))) j (wB T i j (dist T i j))) (j := j) (v := wB T i j (dist T i j)) C hH 15 gX_15 (by omega) (by decide) (pk_us) dX2_joinTwo_81 ?_
  refine lv_isub C.1 C.2.1 dX2_joinTwo_82 ?_
  refine va_mmax C.1 C.2.1 (hml.trans hl.1.symm) C.2.2.1 (C.2.2.2.1 _ (List.mem_of_getElem? (i := 7) rfl)) (C.2.2.2.1 _ (List.mem_of_getElem? (i := 8) rfl)) (C.2.2.2.1 _ (List.mem_of_getElem? (i := 9) rfl)) (C.2.2.2.1 _ (List.mem_of_getElem? (i := 10) rfl)) (Nat.le_of_ble_eq_true rfl) (Nat.le_of_ble_eq_true rfl) (Nat.le_of_ble_eq_true rfl) (Nat.le_of_ble_eq_true rfl) dX2_joinTwo_83 ?_
  refine x_toi (show _ = imax ((T 3 i) - (wA T i j (dist T i j))) ((T 3 j) - (wB T i j (dist T i j))) from rfl) ?_
  refine x_iast (f := T 3) (j := n) (x := imax ((T 3 i) - (wA T i j (dist T i j))) ((T 3 j) - (wB T i j (dist T i j)))) (w' := wX G a S ((tS ((tS ((tS ((tS ((tS T 8 (upd (upd (T 8) i (wA T i j (dist T i j))) j (wB T i j (dist T i j))))) 0 (upd (T 0) n (nI i)))) 1 (upd (T 1) n (nI j)))) 2 (upd (upd (upd (T 2) n ((-1))) i (nI n)) j (nI n)))) 3 (upd (T 3) n (imax ((T 3 i) - (wA T i j (dist T i j))) ((T 3 j) - (wB T i j (dist T i j))))))) L F bs) C hH 10 gX_10 (by omega) (by decide) sX_10 dX2_joinTwo_86 (fun H locs hH => ?_)
  refine lv_aload_n C.1 C.2.1 dX2_joinTwo_87 rfl (lv_at hl 1 rfl) ?_
  refine x_get (C := RX2) (T := TX2) (N := 14) (v := .ref (a 11)) C inX2 hH 6 gX_6 rfl 4 (by decide) rfl rfl 11 rfl dX2_joinTwo_88 ?_
  refine lv_iload_n C.1 C.2.1 dX2_joinTwo_91 rfl (lv_at hl 0 rfl) ?_
  refine lv_aload_n C.1 C.2.1 dX2_joinTwo_92 rfl (lv_at hl 1 rfl) ?_
  refine x_get (C := RX2) (T := TX2) (N := 14) (v := .ref (a 11)) C inX2 hH 6 gX_6 rfl 4 (by decide) rfl rfl 11 rfl dX2_joinTwo_93 ?_
  refine lv_iload_n C.1 C.2.1 dX2_joinTwo_96 rfl (lv_at hl 2 rfl) ?_
  refine x_iald (f := T 4) (j := i) (v := T 4 i) C hH 11 gX_11 (by omega) (by decide) (rfl) dX2_joinTwo_97 ?_
  refine lv_aload_n C.1 C.2.1 dX2_joinTwo_98 rfl (lv_at hl 1 rfl) ?_
  refine x_get (C := RX2) (T := TX2) (N := 14) (v := .ref (a 15)) C inX2 hH 6 gX_6 rfl 8 (by decide) rfl rfl 6 rfl dX2_joinTwo_99 ?_
  refine lv_iload_n C.1 C.2.1 dX2_joinTwo_102 rfl (lv_at hl 2 rfl) ?_
  refine x_iald (f := upd (upd (T 8) i (wA T i j (dist T i j))) j (wB T i j (dist T i j))) (j := i) (v := wA T i j (dist T i j)) C hH 15 gX_15 (by omega) (by decide) (by rw [pk_un hne, pk_us]) dX2_joinTwo_103 ?_
  refine lv_iadd C.1 C.2.1 dX2_joinTwo_104 ?_
  refine lv_aload_n C.1 C.2.1 dX2_joinTwo_105 rfl (lv_at hl 1 rfl) ?_
  refine x_get (C := RX2) (T := TX2) (N := 14) (v := .ref (a 11)) C inX2 hH 6 gX_6 rfl 4 (by decide) rfl rfl 11 rfl dX2_joinTwo_106 ?_
  refine lv_iload_n C.1 C.2.1 dX2_joinTwo_109 rfl (lv_at hl 3 rfl) ?_
  refine x_iald (f := T 4) (j := j) (v := T 4 j) C hH 11 gX_11 (by omega) (by decide) (rfl) dX2_joinTwo_110 ?_
  refine lv_aload_n C.1 C.2.1 dX2_joinTwo_111 rfl (lv_at hl 1 rfl) ?_
  refine x_get (C := RX2) (T := TX2) (N := 14) (v := .ref (a 15)) C inX2 hH 6 gX_6 rfl 8 (by decide) rfl rfl 6 rfl dX2_joinTwo_112 ?_
  refine lv_iload_n C.1 C.2.1 dX2_joinTwo_115 rfl (lv_at hl 3 rfl) ?_
  refine x_iald (f := upd (upd (T 8) i (wA T i j (dist T i j))) j (wB T i j (dist T i j))) (j := j) (v := wB T i j (dist T i j)) C hH 15 gX_15 (by omega) (by decide) (pk_us) dX2_joinTwo_116 ?_
  refine lv_iadd C.1 C.2.1 dX2_joinTwo_117 ?_
  refine va_mmin C.1 C.2.1 (hml.trans hl.1.symm) C.2.2.1 (C.2.2.2.1 _ (List.mem_of_getElem? (i := 12) rfl)) (C.2.2.2.1 _ (List.mem_of_getElem? (i := 13) rfl)) (C.2.2.2.1 _ (List.mem_of_getElem? (i := 9) rfl)) (C.2.2.2.1 _ (List.mem_of_getElem? (i := 14) rfl)) (Nat.le_of_ble_eq_true rfl) (Nat.le_of_ble_eq_true rfl) (Nat.le_of_ble_eq_true rfl) (Nat.le_of_ble_eq_true rfl) dX2_joinTwo_118 ?_
  refine x_toi (show _ = imin ((T 4 i) + (wA T i j (dist T i j))) ((T 4 j) + (wB T i j (dist T i j))) from rfl) ?_
  refine x_iast (f := T 4) (j := n) (x := imin ((T 4 i) + (wA T i j (dist T i j))) ((T 4 j) + (wB T i j (dist T i j)))) (w' := wX G a S ((tS ((tS ((tS ((tS ((tS ((tS T 8 (upd (upd (T 8) i (wA T i j (dist T i j))) j (wB T i j (dist T i j))))) 0 (upd (T 0) n (nI i)))) 1 (upd (T 1) n (nI j)))) 2 (upd (upd (upd (T 2) n ((-1))) i (nI n)) j (nI n)))) 3 (upd (T 3) n (imax ((T 3 i) - (wA T i j (dist T i j))) ((T 3 j) - (wB T i j (dist T i j))))))) 4 (upd (T 4) n (imin ((T 4 i) + (wA T i j (dist T i j))) ((T 4 j) + (wB T i j (dist T i j))))))) L F bs) C hH 11 gX_11 (by omega) (by decide) sX_11 dX2_joinTwo_121 (fun H locs hH => ?_)
  refine lv_aload_n C.1 C.2.1 dX2_joinTwo_122 rfl (lv_at hl 1 rfl) ?_
  refine x_get (C := RX2) (T := TX2) (N := 14) (v := .ref (a 12)) C inX2 hH 6 gX_6 rfl 5 (by decide) rfl rfl 15 rfl dX2_joinTwo_123 ?_
  refine lv_iload_n C.1 C.2.1 dX2_joinTwo_126 rfl (lv_at hl 0 rfl) ?_
  refine lv_aload_n C.1 C.2.1 dX2_joinTwo_127 rfl (lv_at hl 1 rfl) ?_
  refine x_get (C := RX2) (T := TX2) (N := 14) (v := .ref (a 12)) C inX2 hH 6 gX_6 rfl 5 (by decide) rfl rfl 15 rfl dX2_joinTwo_128 ?_
  refine lv_iload_n C.1 C.2.1 dX2_joinTwo_131 rfl (lv_at hl 2 rfl) ?_
  refine x_iald (f := T 5) (j := i) (v := T 5 i) C hH 12 gX_12 (by omega) (by decide) (rfl) dX2_joinTwo_132 ?_
  refine lv_aload_n C.1 C.2.1 dX2_joinTwo_133 rfl (lv_at hl 1 rfl) ?_
  refine x_get (C := RX2) (T := TX2) (N := 14) (v := .ref (a 15)) C inX2 hH 6 gX_6 rfl 8 (by decide) rfl rfl 6 rfl dX2_joinTwo_134 ?_
  refine lv_iload_n C.1 C.2.1 dX2_joinTwo_137 rfl (lv_at hl 2 rfl) ?_
  refine x_iald (f := upd (upd (T 8) i (wA T i j (dist T i j))) j (wB T i j (dist T i j))) (j := i) (v := wA T i j (dist T i j)) C hH 15 gX_15 (by omega) (by decide) (by rw [pk_un hne, pk_us]) dX2_joinTwo_138 ?_
  refine lv_isub C.1 C.2.1 dX2_joinTwo_139 ?_
  refine lv_aload_n C.1 C.2.1 dX2_joinTwo_140 rfl (lv_at hl 1 rfl) ?_
  refine x_get (C := RX2) (T := TX2) (N := 14) (v := .ref (a 12)) C inX2 hH 6 gX_6 rfl 5 (by decide) rfl rfl 15 rfl dX2_joinTwo_141 ?_
  refine lv_iload_n C.1 C.2.1 dX2_joinTwo_144 rfl (lv_at hl 3 rfl) ?_
  refine x_iald (f := T 5) (j := j) (v := T 5 j) C hH 12 gX_12 (by omega) (by decide) (rfl) dX2_joinTwo_145 ?_
  refine lv_aload_n C.1 C.2.1 dX2_joinTwo_146 rfl (lv_at hl 1 rfl) ?_
  refine x_get (C := RX2) (T := TX2) (N := 14) (v := .ref (a 15)) C inX2 hH 6 gX_6 rfl 8 (by decide) rfl rfl 6 rfl dX2_joinTwo_147 ?_
  refine lv_iload_n C.1 C.2.1 dX2_joinTwo_150 rfl (lv_at hl 3 rfl) ?_
  refine x_iald (f := upd (upd (T 8) i (wA T i j (dist T i j))) j (wB T i j (dist T i j))) (j := j) (v := wB T i j (dist T i j)) C hH 15 gX_15 (by omega) (by decide) (pk_us) dX2_joinTwo_151 ?_
  refine lv_isub C.1 C.2.1 dX2_joinTwo_152 ?_
  refine va_mmax C.1 C.2.1 (hml.trans hl.1.symm) C.2.2.1 (C.2.2.2.1 _ (List.mem_of_getElem? (i := 7) rfl)) (C.2.2.2.1 _ (List.mem_of_getElem? (i := 8) rfl)) (C.2.2.2.1 _ (List.mem_of_getElem? (i := 9) rfl)) (C.2.2.2.1 _ (List.mem_of_getElem? (i := 10) rfl)) (Nat.le_of_ble_eq_true rfl) (Nat.le_of_ble_eq_true rfl) (Nat.le_of_ble_eq_true rfl) (Nat.le_of_ble_eq_true rfl) dX2_joinTwo_153 ?_
  refine x_toi (show _ = imax ((T 5 i) - (wA T i j (dist T i j))) ((T 5 j) - (wB T i j (dist T i j))) from rfl) ?_
  refine x_iast (f := T 5) (j := n) (x := imax ((T 5 i) - (wA T i j (dist T i j))) ((T 5 j) - (wB T i j (dist T i j)))) (w' := wX G a S ((tS ((tS ((tS ((tS ((tS ((tS ((tS T 8 (upd (upd (T 8) i (wA T i j (dist T i j))) j (wB T i j (dist T i j))))) 0 (upd (T 0) n (nI i)))) 1 (upd (T 1) n (nI j)))) 2 (upd (upd (upd (T 2) n ((-1))) i (nI n)) j (nI n)))) 3 (upd (T 3) n (imax ((T 3 i) - (wA T i j (dist T i j))) ((T 3 j) - (wB T i j (dist T i j))))))) 4 (upd (T 4) n (imin ((T 4 i) + (wA T i j (dist T i j))) ((T 4 j) + (wB T i j (dist T i j))))))) 5 (upd (T 5) n (imax ((T 5 i) - (wA T i j (dist T i j))) ((T 5 j) - (wB T i j (dist T i j))))))) L F bs) C hH 12 gX_12 (by omega) (by decide) sX_12 dX2_joinTwo_156 (fun H locs hH => ?_)
  refine lv_aload_n C.1 C.2.1 dX2_joinTwo_157 rfl (lv_at hl 1 rfl) ?_
  refine x_get (C := RX2) (T := TX2) (N := 14) (v := .ref (a 13)) C inX2 hH 6 gX_6 rfl 6 (by decide) rfl rfl 16 rfl dX2_joinTwo_158 ?_
  refine lv_iload_n C.1 C.2.1 dX2_joinTwo_161 rfl (lv_at hl 0 rfl) ?_
  refine lv_aload_n C.1 C.2.1 dX2_joinTwo_162 rfl (lv_at hl 1 rfl) ?_
  refine x_get (C := RX2) (T := TX2) (N := 14) (v := .ref (a 13)) C inX2 hH 6 gX_6 rfl 6 (by decide) rfl rfl 16 rfl dX2_joinTwo_163 ?_
  refine lv_iload_n C.1 C.2.1 dX2_joinTwo_166 rfl (lv_at hl 2 rfl) ?_
  refine x_iald (f := T 6) (j := i) (v := T 6 i) C hH 13 gX_13 (by omega) (by decide) (rfl) dX2_joinTwo_167 ?_
  refine lv_aload_n C.1 C.2.1 dX2_joinTwo_168 rfl (lv_at hl 1 rfl) ?_
  refine x_get (C := RX2) (T := TX2) (N := 14) (v := .ref (a 15)) C inX2 hH 6 gX_6 rfl 8 (by decide) rfl rfl 6 rfl dX2_joinTwo_169 ?_
  refine lv_iload_n C.1 C.2.1 dX2_joinTwo_172 rfl (lv_at hl 2 rfl) ?_
  refine x_iald (f := upd (upd (T 8) i (wA T i j (dist T i j))) j (wB T i j (dist T i j))) (j := i) (v := wA T i j (dist T i j)) C hH 15 gX_15 (by omega) (by decide) (by rw [pk_un hne, pk_us]) dX2_joinTwo_173 ?_
  refine lv_iadd C.1 C.2.1 dX2_joinTwo_174 ?_
  refine lv_aload_n C.1 C.2.1 dX2_joinTwo_175 rfl (lv_at hl 1 rfl) ?_
  refine x_get (C := RX2) (T := TX2) (N := 14) (v := .ref (a 13)) C inX2 hH 6 gX_6 rfl 6 (by decide) rfl rfl 16 rfl dX2_joinTwo_176 ?_
  refine lv_iload_n C.1 C.2.1 dX2_joinTwo_179 rfl (lv_at hl 3 rfl) ?_
  refine x_iald (f := T 6) (j := j) (v := T 6 j) C hH 13 gX_13 (by omega) (by decide) (rfl) dX2_joinTwo_180 ?_
  refine lv_aload_n C.1 C.2.1 dX2_joinTwo_181 rfl (lv_at hl 1 rfl) ?_
  refine x_get (C := RX2) (T := TX2) (N := 14) (v := .ref (a 15)) C inX2 hH 6 gX_6 rfl 8 (by decide) rfl rfl 6 rfl dX2_joinTwo_182 ?_
  refine lv_iload_n C.1 C.2.1 dX2_joinTwo_185 rfl (lv_at hl 3 rfl) ?_
  refine x_iald (f := upd (upd (T 8) i (wA T i j (dist T i j))) j (wB T i j (dist T i j))) (j := j) (v := wB T i j (dist T i j)) C hH 15 gX_15 (by omega) (by decide) (pk_us) dX2_joinTwo_186 ?_
  refine lv_iadd C.1 C.2.1 dX2_joinTwo_187 ?_
  refine va_mmin C.1 C.2.1 (hml.trans hl.1.symm) C.2.2.1 (C.2.2.2.1 _ (List.mem_of_getElem? (i := 12) rfl)) (C.2.2.2.1 _ (List.mem_of_getElem? (i := 13) rfl)) (C.2.2.2.1 _ (List.mem_of_getElem? (i := 9) rfl)) (C.2.2.2.1 _ (List.mem_of_getElem? (i := 14) rfl)) (Nat.le_of_ble_eq_true rfl) (Nat.le_of_ble_eq_true rfl) (Nat.le_of_ble_eq_true rfl) (Nat.le_of_ble_eq_true rfl) dX2_joinTwo_188 ?_
  refine x_toi (show _ = imin ((T 6 i) + (wA T i j (dist T i j))) ((T 6 j) + (wB T i j (dist T i j))) from rfl) ?_
  refine x_iast (f := T 6) (j := n) (x := imin ((T 6 i) + (wA T i j (dist T i j))) ((T 6 j) + (wB T i j (dist T i j)))) (w' := wX G a S ((tS ((tS ((tS ((tS ((tS ((tS ((tS ((tS T 8 (upd (upd (T 8) i (wA T i j (dist T i j))) j (wB T i j (dist T i j))))) 0 (upd (T 0) n (nI i)))) 1 (upd (T 1) n (nI j)))) 2 (upd (upd (upd (T 2) n ((-1))) i (nI n)) j (nI n)))) 3 (upd (T 3) n (imax ((T 3 i) - (wA T i j (dist T i j))) ((T 3 j) - (wB T i j (dist T i j))))))) 4 (upd (T 4) n (imin ((T 4 i) + (wA T i j (dist T i j))) ((T 4 j) + (wB T i j (dist T i j))))))) 5 (upd (T 5) n (imax ((T 5 i) - (wA T i j (dist T i j))) ((T 5 j) - (wB T i j (dist T i j))))))) 6 (upd (T 6) n (imin ((T 6 i) + (wA T i j (dist T i j))) ((T 6 j) + (wB T i j (dist T i j))))))) L F bs) C hH 13 gX_13 (by omega) (by decide) sX_13 dX2_joinTwo_191 (fun H locs hH => ?_)
  refine lv_aload_n C.1 C.2.1 dX2_joinTwo_192 rfl (lv_at hl 1 rfl) ?_
  refine x_get (C := RX2) (T := TX2) (N := 14) (v := .ref (a 14)) C inX2 hH 6 gX_6 rfl 7 (by decide) rfl rfl 17 rfl dX2_joinTwo_193 ?_
  refine lv_iload_n C.1 C.2.1 dX2_joinTwo_196 rfl (lv_at hl 0 rfl) ?_
  refine lv_aload_n C.1 C.2.1 dX2_joinTwo_197 rfl (lv_at hl 1 rfl) ?_
  refine x_get (C := RX2) (T := TX2) (N := 14) (v := .ref (a 14)) C inX2 hH 6 gX_6 rfl 7 (by decide) rfl rfl 17 rfl dX2_joinTwo_198 ?_
  refine lv_iload_n C.1 C.2.1 dX2_joinTwo_201 rfl (lv_at hl 2 rfl) ?_
  refine x_iald (f := T 7) (j := i) (v := T 7 i) C hH 14 gX_14 (by omega) (by decide) (rfl) dX2_joinTwo_202 ?_
  refine lv_aload_n C.1 C.2.1 dX2_joinTwo_203 rfl (lv_at hl 1 rfl) ?_
  refine x_get (C := RX2) (T := TX2) (N := 14) (v := .ref (a 15)) C inX2 hH 6 gX_6 rfl 8 (by decide) rfl rfl 6 rfl dX2_joinTwo_204 ?_
  refine lv_iload_n C.1 C.2.1 dX2_joinTwo_207 rfl (lv_at hl 2 rfl) ?_
  refine x_iald (f := upd (upd (T 8) i (wA T i j (dist T i j))) j (wB T i j (dist T i j))) (j := i) (v := wA T i j (dist T i j)) C hH 15 gX_15 (by omega) (by decide) (by rw [pk_un hne, pk_us]) dX2_joinTwo_208 ?_
  refine lv_iadd C.1 C.2.1 dX2_joinTwo_209 ?_
  refine x_iast (f := T 7) (j := n) (x := (T 7 i) + (wA T i j (dist T i j))) (w' := wX G a S ((tS ((tS ((tS ((tS ((tS ((tS ((tS ((tS ((tS T 8 (upd (upd (T 8) i (wA T i j (dist T i j))) j (wB T i j (dist T i j))))) 0 (upd (T 0) n (nI i)))) 1 (upd (T 1) n (nI j)))) 2 (upd (upd (upd (T 2) n ((-1))) i (nI n)) j (nI n)))) 3 (upd (T 3) n (imax ((T 3 i) - (wA T i j (dist T i j))) ((T 3 j) - (wB T i j (dist T i j))))))) 4 (upd (T 4) n (imin ((T 4 i) + (wA T i j (dist T i j))) ((T 4 j) + (wB T i j (dist T i j))))))) 5 (upd (T 5) n (imax ((T 5 i) - (wA T i j (dist T i j))) ((T 5 j) - (wB T i j (dist T i j))))))) 6 (upd (T 6) n (imin ((T 6 i) + (wA T i j (dist T i j))) ((T 6 j) + (wB T i j (dist T i j))))))) 7 (upd (T 7) n ((T 7 i) + (wA T i j (dist T i j)))))) L F bs) C hH 14 gX_14 (by omega) (by decide) sX_14 dX2_joinTwo_210 (fun H locs hH => ?_)
  refine lv_aload_n C.1 C.2.1 dX2_joinTwo_211 rfl (lv_at hl 1 rfl) ?_
  refine lv_iload_n C.1 C.2.1 dX2_joinTwo_212 rfl (lv_at hl 0 rfl) ?_
  refine lv_iconst (v := nI 1) C.1 C.2.1 dX2_joinTwo_213 (by decide) ?_
  refine lv_iadd C.1 C.2.1 dX2_joinTwo_214 ?_
  refine x_toi (nI_add n 1) ?_
  refine x_put (C := RX2) (T := TX2) (N := 14) (v := .int (nI (n + 1))) (w' := wX G a S ((tS ((tS ((tS ((tS ((tS ((tS ((tS ((tS ((tS T 8 (upd (upd (T 8) i (wA T i j (dist T i j))) j (wB T i j (dist T i j))))) 0 (upd (T 0) n (nI i)))) 1 (upd (T 1) n (nI j)))) 2 (upd (upd (upd (T 2) n ((-1))) i (nI n)) j (nI n)))) 3 (upd (T 3) n (imax ((T 3 i) - (wA T i j (dist T i j))) ((T 3 j) - (wB T i j (dist T i j))))))) 4 (upd (T 4) n (imin ((T 4 i) + (wA T i j (dist T i j))) ((T 4 j) + (wB T i j (dist T i j))))))) 5 (upd (T 5) n (imax ((T 5 i) - (wA T i j (dist T i j))) ((T 5 j) - (wB T i j (dist T i j))))))) 6 (upd (T 6) n (imin ((T 6 i) + (wA T i j (dist T i j))) ((T 6 j) + (wB T i j (dist T i j))))))) 7 (upd (T 7) n ((T 7 i) + (wA T i j (dist T i j)))))) L ((tS F 6 (nI (n + 1)))) bs) C inX2 tyX2 tyX2_ok nmX2 hH 6 gX_6 rfl 13 (by decide) rfl rfl rfl rfl (Nat.le_of_ble_eq_true rfl) fX_6_13 1 rfl dX2_joinTwo_215 (fun H locs hH => ?_)
  refine lv_iload_n C.1 C.2.1 dX2_joinTwo_218 rfl (lv_at hl 0 rfl) ?_
  have hH := x_eqw (w' := wX G a S (joinT T n i j) L (tS F 6 (nI (n + 1))) bs) (rfl) hH
  exact hE _ _ _ _ _ hH (rfl) (rfl) dX2_joinTwo_219
end
section
set_option maxHeartbeats 1000000 in
set_option maxRecDepth 100000 in
theorem c_X2_standNear (l : Launch) (G : xG) (a : Nat → Nat) (S T : Nat → Nat → Int32) (L : Nat → Nat → Int64) (F : Nat → Int32) (bs : Int64) (k : Nat) (x y : Int32) (hk : k < 19) : xMv l yX2_standNear wsX2_standNear { frames := 1, cells := 0, slots := 0, locals := 16 } [.ref (a 6), .int (nI k), .int x, .int y] G (wX G a S T L F bs) (wX G a S (standT T k x y) L F bs) 0 0 := by
  refine x_ofv (cc := cX2_standNear) (maxL := 4) (by decide) rfl (Nat.le_of_ble_eq_true rfl) ?_
  intro p e s m args below meth c ls A Q C hml hA hH hl hE
  have hl : lv_has ls 4 [(0, .ref (a 6)), (1, .int (nI k)), (2, .int x), (3, .int y)] := hl
  have inX2 : ∀ w ∈ wsX20, w ∈ wsX2_standNear := fun _ h => (List.mem_cons_of_mem _ (List.mem_append_right _ h))
  refine lv_aload_n C.1 C.2.1 dX2_standNear_0 rfl (lv_at hl 0 rfl) ?_
  refine x_get (C := RX2) (T := TX2) (N := 14) (v := .ref (a 16)) C inX2 hH 6 gX_6 rfl 9 (by decide) rfl rfl 1 rfl dX2_standNear_1 ?_
  refine lv_iload_n C.1 C.2.1 dX2_standNear_4 rfl (lv_at hl 1 rfl) ?_
  refine lv_aload_n C.1 C.2.1 dX2_standNear_5 rfl (lv_at hl 0 rfl) ?_
  refine x_get (C := RX2) (T := TX2) (N := 14) (v := .ref (a 10)) C inX2 hH 6 gX_6 rfl 3 (by decide) rfl rfl 2 rfl dX2_standNear_6 ?_
  refine lv_iload_n C.1 C.2.1 dX2_standNear_9 rfl (lv_at hl 1 rfl) ?_
  refine x_iald (f := T 3) (j := k) (v := T 3 k) C hH 10 gX_10 (by omega) (by decide) (rfl) dX2_standNear_10 ?_
  refine lv_aload_n C.1 C.2.1 dX2_standNear_11 rfl (lv_at hl 0 rfl) ?_
  refine x_get (C := RX2) (T := TX2) (N := 14) (v := .ref (a 11)) C inX2 hH 6 gX_6 rfl 4 (by decide) rfl rfl 3 rfl dX2_standNear_12 ?_
  refine lv_iload_n C.1 C.2.1 dX2_standNear_15 rfl (lv_at hl 1 rfl) ?_
  refine x_iald (f := T 4) (j := k) (v := T 4 k) C hH 11 gX_11 (by omega) (by decide) (rfl) dX2_standNear_16 ?_
  refine lv_iload_n C.1 C.2.1 dX2_standNear_17 rfl (lv_at hl 2 rfl) ?_
  refine va_mmin C.1 C.2.1 (hml.trans hl.1.symm) C.2.2.1 (C.2.2.2.1 _ (List.mem_of_getElem? (i := 4) rfl)) (C.2.2.2.1 _ (List.mem_of_getElem? (i := 5) rfl)) (C.2.2.2.1 _ (List.mem_of_getElem? (i := 6) rfl)) (C.2.2.2.1 _ (List.mem_of_getElem? (i := 7) rfl)) (Nat.le_of_ble_eq_true rfl) (Nat.le_of_ble_eq_true rfl) (Nat.le_of_ble_eq_true rfl) (Nat.le_of_ble_eq_true rfl) dX2_standNear_18 ?_
  refine x_toi (show _ = imin (T 4 k) x from rfl) ?_
  refine va_mmax C.1 C.2.1 (hml.trans hl.1.symm) C.2.2.1 (C.2.2.2.1 _ (List.mem_of_getElem? (i := 8) rfl)) (C.2.2.2.1 _ (List.mem_of_getElem? (i := 9) rfl)) (C.2.2.2.1 _ (List.mem_of_getElem? (i := 6) rfl)) (C.2.2.2.1 _ (List.mem_of_getElem? (i := 10) rfl)) (Nat.le_of_ble_eq_true rfl) (Nat.le_of_ble_eq_true rfl) (Nat.le_of_ble_eq_true rfl) (Nat.le_of_ble_eq_true rfl) dX2_standNear_21 ?_
  refine x_toi (show _ = imax (T 3 k) (imin (T 4 k) x) from rfl) ?_
  refine x_iast (f := T 9) (j := k) (x := imax (T 3 k) (imin (T 4 k) x)) (w' := wX G a S ((tS T 9 (upd (T 9) k (imax (T 3 k) (imin (T 4 k) x))))) L F bs) C hH 16 gX_16 (by omega) (by decide) sX_16 dX2_standNear_24 (fun H locs hH => ?_)
  refine lv_aload_n C.1 C.2.1 dX2_standNear_25 rfl (lv_at hl 0 rfl) ?_
  refine x_get (C := RX2) (T := TX2) (N := 14) (v := .ref (a 17)) C inX2 hH 6 gX_6 rfl 10 (by decide) rfl rfl 11 rfl dX2_standNear_26 ?_
  refine lv_iload_n C.1 C.2.1 dX2_standNear_29 rfl (lv_at hl 1 rfl) ?_
  refine lv_aload_n C.1 C.2.1 dX2_standNear_30 rfl (lv_at hl 0 rfl) ?_
  refine x_get (C := RX2) (T := TX2) (N := 14) (v := .ref (a 12)) C inX2 hH 6 gX_6 rfl 5 (by decide) rfl rfl 12 rfl dX2_standNear_31 ?_
  refine lv_iload_n C.1 C.2.1 dX2_standNear_34 rfl (lv_at hl 1 rfl) ?_
  refine x_iald (f := T 5) (j := k) (v := T 5 k) C hH 12 gX_12 (by omega) (by decide) (rfl) dX2_standNear_35 ?_
  refine lv_aload_n C.1 C.2.1 dX2_standNear_36 rfl (lv_at hl 0 rfl) ?_
  refine x_get (C := RX2) (T := TX2) (N := 14) (v := .ref (a 13)) C inX2 hH 6 gX_6 rfl 6 (by decide) rfl rfl 13 rfl dX2_standNear_37 ?_
  refine lv_iload_n C.1 C.2.1 dX2_standNear_40 rfl (lv_at hl 1 rfl) ?_
  refine x_iald (f := T 6) (j := k) (v := T 6 k) C hH 13 gX_13 (by omega) (by decide) (rfl) dX2_standNear_41 ?_
  refine lv_iload_n C.1 C.2.1 dX2_standNear_42 rfl (lv_at hl 3 rfl) ?_
  refine va_mmin C.1 C.2.1 (hml.trans hl.1.symm) C.2.2.1 (C.2.2.2.1 _ (List.mem_of_getElem? (i := 4) rfl)) (C.2.2.2.1 _ (List.mem_of_getElem? (i := 5) rfl)) (C.2.2.2.1 _ (List.mem_of_getElem? (i := 6) rfl)) (C.2.2.2.1 _ (List.mem_of_getElem? (i := 7) rfl)) (Nat.le_of_ble_eq_true rfl) (Nat.le_of_ble_eq_true rfl) (Nat.le_of_ble_eq_true rfl) (Nat.le_of_ble_eq_true rfl) dX2_standNear_43 ?_
  refine x_toi (show _ = imin (T 6 k) y from rfl) ?_
  refine va_mmax C.1 C.2.1 (hml.trans hl.1.symm) C.2.2.1 (C.2.2.2.1 _ (List.mem_of_getElem? (i := 8) rfl)) (C.2.2.2.1 _ (List.mem_of_getElem? (i := 9) rfl)) (C.2.2.2.1 _ (List.mem_of_getElem? (i := 6) rfl)) (C.2.2.2.1 _ (List.mem_of_getElem? (i := 10) rfl)) (Nat.le_of_ble_eq_true rfl) (Nat.le_of_ble_eq_true rfl) (Nat.le_of_ble_eq_true rfl) (Nat.le_of_ble_eq_true rfl) dX2_standNear_46 ?_
  refine x_toi (show _ = imax (T 5 k) (imin (T 6 k) y) from rfl) ?_
  refine x_iast (f := T 10) (j := k) (x := imax (T 5 k) (imin (T 6 k) y)) (w' := wX G a S ((tS ((tS T 9 (upd (T 9) k (imax (T 3 k) (imin (T 4 k) x))))) 10 (upd (T 10) k (imax (T 5 k) (imin (T 6 k) y))))) L F bs) C hH 17 gX_17 (by omega) (by decide) sX_17 dX2_standNear_49 (fun H locs hH => ?_)
  have hH := x_eqw (w' := wX G a S (standT T k x y) L F bs) (rfl) hH
  exact hE _ _ _ _ hH dX2_standNear_50
set_option maxHeartbeats 1000000 in
set_option maxRecDepth 100000 in
theorem c_X2_plantSinks (l : Launch) (G : xG) (a : Nat → Nat) (S T : Nat → Nat → Int32) (L : Nat → Nat → Int64) (F : Nat → Int32) (bs : Int64) (ct : Nat) (hF4 : F 4 = nI ct) (hc : ct ≤ 10) : xMv l yX2_plantSinks wsX2_plantSinks { frames := 1, cells := 0, slots := 0, locals := 21 } [.ref (a 6), .ref (a 1)] G (wX G a S T L F bs) (wX G a S (plantF S ct 0 T) L (tS (tS F 5 (nI ct)) 6 (nI ct)) bs) 0 0 := by
  refine x_ofv (cc := cX2_plantSinks) (maxL := 5) (by decide) rfl (Nat.le_of_ble_eq_true rfl) ?_
  intro p e s m args below meth c ls A Q C hml hA hH hl hE
  have hl : lv_has ls 5 [(0, .ref (a 6)), (1, .ref (a 1))] := hl
  have inX1 : ∀ w ∈ wsX10, w ∈ wsX2_plantSinks := fun _ h => (List.mem_cons_of_mem _ (List.mem_append_left _ (List.mem_append_right _ h)))
  have inX2 : ∀ w ∈ wsX20, w ∈ wsX2_plantSinks := fun _ h => (List.mem_cons_of_mem _ (List.mem_append_right _ h))
  refine lv_aload_n C.1 C.2.1 dX2_plantSinks_0 rfl (lv_at hl 0 rfl) ?_
  refine lv_aload_n C.1 C.2.1 dX2_plantSinks_1 rfl (lv_at hl 1 rfl) ?_
  refine x_get (C := RX1) (T := TX1) (N := 5) (v := .int (F 4)) C inX1 hH 1 gX_1 rfl 4 (by decide) rfl rfl 1 rfl dX2_plantSinks_2 ?_
  refine x_toi hF4 ?_
  refine x_put (C := RX2) (T := TX2) (N := 14) (v := .int (nI ct)) (w' := wX G a S T L ((tS F 5 (nI ct))) bs) C inX2 tyX2 tyX2_ok nmX2 hH 6 gX_6 rfl 12 (by decide) rfl rfl rfl rfl (Nat.le_of_ble_eq_true rfl) fX_6_12 2 rfl dX2_plantSinks_5 (fun H locs hH => ?_)
  refine lv_aload_n C.1 C.2.1 dX2_plantSinks_8 rfl (lv_at hl 0 rfl) ?_
  refine lv_aload_n C.1 C.2.1 dX2_plantSinks_9 rfl (lv_at hl 0 rfl) ?_
  refine x_get (C := RX2) (T := TX2) (N := 14) (v := .int (nI ct)) C inX2 hH 6 gX_6 rfl 12 (by decide) rfl rfl 2 rfl dX2_plantSinks_10 ?_
  refine x_put (C := RX2) (T := TX2) (N := 14) (v := .int (nI ct)) (w' := wX G a S T L ((tS ((tS F 5 (nI ct))) 6 (nI ct))) bs) C inX2 tyX2 tyX2_ok nmX2 hH 6 gX_6 rfl 13 (by decide) rfl rfl rfl rfl (Nat.le_of_ble_eq_true rfl) fX_6_13 3 rfl dX2_plantSinks_13 (fun H locs hH => ?_)
  refine lv_iconst (v := nI 0) C.1 C.2.1 dX2_plantSinks_16 (by decide) ?_
  refine lv_istore_n (lv' := [(2, .int (nI 0)), (0, .ref (a 6)), (1, .ref (a 1))]) C.1 C.2.1 dX2_plantSinks_17 rfl hl (by decide) rfl (fun ls hl => ?_)
  have lp : ∀ (n : Nat) (i : Nat) (T1 : Nat → Nat → Int32) (H : Heap) (locs : List Loc) (ls : Array Slot), i + n = ct → plantF S n i T1 = plantF S ct 0 T → xH G A s.heap H locs (wX G a S T1 L ((tS ((tS F 5 (nI ct))) 6 (nI ct))) bs) → lv_has ls 5 [(0, .ref (a 6)), (1, .ref (a 1)), (2, .int (nI i))] → W p l e ({ frames := 1, cells := 0, slots := 0, locals := 21 }) s m args below meth c H locs 0 0 Q (F0 m 18 ls []) := by
    intro n
    induction n with
    | zero =>
      intro i T1 H locs ls hin hf hH hl
      refine lv_iload_n C.1 C.2.1 dX2_plantSinks_18 rfl (lv_at hl 2 rfl) ?_
      refine lv_aload_n C.1 C.2.1 dX2_plantSinks_19 rfl (lv_at hl 0 rfl) ?_
      refine x_get (C := RX2) (T := TX2) (N := 14) (v := .int (nI ct)) C inX2 hH 6 gX_6 rfl 12 (by decide) rfl rfl 2 rfl dX2_plantSinks_20 ?_
      refine lv_icmp_ge (tgt := 123) C.1 C.2.1 dX2_plantSinks_23 (by decide) (fun _ => ?_) (fun c_1 => absurd ((nI_leI (a := ct) (b := i) (by omega) (by omega)).mpr (by omega)) c_1)
      have hH := x_eqw (w' := wX G a S (plantF S ct 0 T) L (tS (tS F 5 (nI ct)) 6 (nI ct)) bs) (by rw [← hf]; rfl) hH
      exact hE _ _ _ _ hH dX2_plantSinks_123
    | succ n ih18 =>
      intro i T1 H locs ls hin hf hH hl
      refine lv_iload_n C.1 C.2.1 dX2_plantSinks_18 rfl (lv_at hl 2 rfl) ?_
      refine lv_aload_n C.1 C.2.1 dX2_plantSinks_19 rfl (lv_at hl 0 rfl) ?_
      refine x_get (C := RX2) (T := TX2) (N := 14) (v := .int (nI ct)) C inX2 hH 6 gX_6 rfl 12 (by decide) rfl rfl 2 rfl dX2_plantSinks_20 ?_
      refine lv_icmp_ge (tgt := 123) C.1 C.2.1 dX2_plantSinks_23 (by decide) (fun c_2 => absurd ((nI_leI (a := ct) (b := i) (by omega) (by omega)).mp c_2) (by omega)) (fun _ => ?_)
      refine lv_aload_n C.1 C.2.1 dX2_plantSinks_26 rfl (lv_at hl 1 rfl) ?_
      refine x_get (C := RX1) (T := TX1) (N := 5) (v := .ref (a 2)) C inX1 hH 1 gX_1 rfl 0 (by decide) rfl rfl 4 rfl dX2_plantSinks_27 ?_
      refine lv_iload_n C.1 C.2.1 dX2_plantSinks_30 rfl (lv_at hl 2 rfl) ?_
      refine x_iald (f := S 0) (j := i) (v := S 0 i) C hH 2 gX_2 (by omega) (by decide) (rfl) dX2_plantSinks_31 ?_
      refine lv_aload_n C.1 C.2.1 dX2_plantSinks_32 rfl (lv_at hl 1 rfl) ?_
      refine x_get (C := RX1) (T := TX1) (N := 5) (v := .ref (a 3)) C inX1 hH 1 gX_1 rfl 1 (by decide) rfl rfl 5 rfl dX2_plantSinks_33 ?_
      refine lv_iload_n C.1 C.2.1 dX2_plantSinks_36 rfl (lv_at hl 2 rfl) ?_
      refine x_iald (f := S 1) (j := i) (v := S 1 i) C hH 3 gX_3 (by omega) (by decide) (rfl) dX2_plantSinks_37 ?_
      refine x_ci (w' := wX G a S T1 L ((tS ((tS F 5 (nI ct))) 6 (nI ct))) bs) (va_runSN (host := RX3) (As := [.int (S 0 i), .int (S 1 i)]) (rest := []) (x_fix C hml) (c_X3_placeU l G a S T1 L ((tS ((tS F 5 (nI ct))) 6 (nI ct))) bs (S 0 i) (S 1 i) _) ⟨va_cnB 2 C.2.2.2.1 gX2_plantSinks_X3_placeU_n66 rfl rfl rfl C.2.2.2.2.2.1 (C.2.2.2.1 _ (List.mem_of_getElem? (i := 15) rfl)) (by decide +kernel) ⟨Nat.le_of_ble_eq_true rfl, Nat.le_of_ble_eq_true rfl⟩, C.2.2.2.1 _ (List.mem_of_getElem? (i := 14) rfl), trivial⟩ (x_ps C hH) rfl rfl hl.1 rfl (lv_room (Nat.le_of_ble_eq_true rfl)) dX2_plantSinks_38 ⟨Nat.le_of_ble_eq_true rfl, Nat.le_of_ble_eq_true rfl⟩) hH hA (fun H locs hH => ?_)
      refine lv_istore_n (lv' := [(3, .int (nI 1024 * ((S 0 i) + (S 1 i)))), (0, .ref (a 6)), (1, .ref (a 1)), (2, .int (nI i))]) C.1 C.2.1 dX2_plantSinks_41 rfl hl (by decide) rfl (fun ls hl => ?_)
      refine lv_aload_n C.1 C.2.1 dX2_plantSinks_42 rfl (lv_at hl 2 rfl) ?_
      refine x_get (C := RX1) (T := TX1) (N := 5) (v := .ref (a 2)) C inX1 hH 1 gX_1 rfl 0 (by decide) rfl rfl 4 rfl dX2_plantSinks_43 ?_
      refine lv_iload_n C.1 C.2.1 dX2_plantSinks_46 rfl (lv_at hl 3 rfl) ?_
      refine x_iald (f := S 0) (j := i) (v := S 0 i) C hH 2 gX_2 (by omega) (by decide) (rfl) dX2_plantSinks_47 ?_
      refine lv_aload_n C.1 C.2.1 dX2_plantSinks_48 rfl (lv_at hl 2 rfl) ?_
      refine x_get (C := RX1) (T := TX1) (N := 5) (v := .ref (a 3)) C inX1 hH 1 gX_1 rfl 1 (by decide) rfl rfl 5 rfl dX2_plantSinks_49 ?_
      refine lv_iload_n C.1 C.2.1 dX2_plantSinks_52 rfl (lv_at hl 3 rfl) ?_
      refine x_iald (f := S 1) (j := i) (v := S 1 i) C hH 3 gX_3 (by omega) (by decide) (rfl) dX2_plantSinks_53 ?_
      refine x_ci (w' := wX G a S T1 L ((tS ((tS F 5 (nI ct))) 6 (nI ct))) bs) (va_runSN (host := RX3) (As := [.int (S 0 i), .int (S 1 i)]) (rest := []) (x_fix C hml) (c_X3_placeV l G a S T1 L ((tS ((tS F 5 (nI ct))) 6 (nI ct))) bs (S 0 i) (S 1 i) _) ⟨va_cnB 2 C.2.2.2.1 gX2_plantSinks_X3_placeV_n70 rfl rfl rfl C.2.2.2.2.2.2 (C.2.2.2.1 _ (List.mem_of_getElem? (i := 15) rfl)) (by decide +kernel) ⟨Nat.le_of_ble_eq_true rfl, Nat.le_of_ble_eq_true rfl⟩, C.2.2.2.1 _ (List.mem_of_getElem? (i := 17) rfl), trivial⟩ (x_ps C hH) rfl rfl hl.1 rfl (lv_room (Nat.le_of_ble_eq_true rfl)) dX2_plantSinks_54 ⟨Nat.le_of_ble_eq_true rfl, Nat.le_of_ble_eq_true rfl⟩) hH hA (fun H locs hH => ?_)
      refine lv_istore (lv' := [(4, .int (nI 1024 * ((S 0 i) - (S 1 i)))), (3, .int (nI 1024 * ((S 0 i) + (S 1 i)))), (0, .ref (a 6)), (1, .ref (a 1)), (2, .int (nI i))]) C.1 C.2.1 dX2_plantSinks_57 hl (by decide) rfl (fun ls hl => ?_)
      refine lv_aload_n C.1 C.2.1 dX2_plantSinks_59 rfl (lv_at hl 2 rfl) ?_
      refine x_get (C := RX2) (T := TX2) (N := 14) (v := .ref (a 7)) C inX2 hH 6 gX_6 rfl 0 (by decide) rfl rfl 6 rfl dX2_plantSinks_60 ?_
      refine lv_iload_n C.1 C.2.1 dX2_plantSinks_63 rfl (lv_at hl 4 rfl) ?_
      refine lv_iconst (v := (-1)) C.1 C.2.1 dX2_plantSinks_64 (by decide) ?_
      refine x_iast (f := T1 0) (j := i) (x := (-1)) (w' := wX G a S ((tS T1 0 (upd (T1 0) i ((-1))))) L ((tS ((tS F 5 (nI ct))) 6 (nI ct))) bs) C hH 7 gX_7 (by omega) (by decide) sX_7 dX2_plantSinks_65 (fun H locs hH => ?_)
      refine lv_aload_n C.1 C.2.1 dX2_plantSinks_66 rfl (lv_at hl 2 rfl) ?_
      refine x_get (C := RX2) (T := TX2) (N := 14) (v := .ref (a 8)) C inX2 hH 6 gX_6 rfl 1 (by decide) rfl rfl 7 rfl dX2_plantSinks_67 ?_
      refine lv_iload_n C.1 C.2.1 dX2_plantSinks_70 rfl (lv_at hl 4 rfl) ?_
      refine lv_iconst (v := (-1)) C.1 C.2.1 dX2_plantSinks_71 (by decide) ?_
      refine x_iast (f := T1 1) (j := i) (x := (-1)) (w' := wX G a S ((tS ((tS T1 0 (upd (T1 0) i ((-1))))) 1 (upd (T1 1) i ((-1))))) L ((tS ((tS F 5 (nI ct))) 6 (nI ct))) bs) C hH 8 gX_8 (by omega) (by decide) sX_8 dX2_plantSinks_72 (fun H locs hH => ?_)
      refine lv_aload_n C.1 C.2.1 dX2_plantSinks_73 rfl (lv_at hl 2 rfl) ?_
      refine x_get (C := RX2) (T := TX2) (N := 14) (v := .ref (a 9)) C inX2 hH 6 gX_6 rfl 2 (by decide) rfl rfl 8 rfl dX2_plantSinks_74 ?_
      refine lv_iload_n C.1 C.2.1 dX2_plantSinks_77 rfl (lv_at hl 4 rfl) ?_
      refine lv_iconst (v := (-1)) C.1 C.2.1 dX2_plantSinks_78 (by decide) ?_
      refine x_iast (f := T1 2) (j := i) (x := (-1)) (w' := wX G a S ((tS ((tS ((tS T1 0 (upd (T1 0) i ((-1))))) 1 (upd (T1 1) i ((-1))))) 2 (upd (T1 2) i ((-1))))) L ((tS ((tS F 5 (nI ct))) 6 (nI ct))) bs) C hH 9 gX_9 (by omega) (by decide) sX_9 dX2_plantSinks_79 (fun H locs hH => ?_)
      refine lv_aload_n C.1 C.2.1 dX2_plantSinks_80 rfl (lv_at hl 2 rfl) ?_
      refine x_get (C := RX2) (T := TX2) (N := 14) (v := .ref (a 10)) C inX2 hH 6 gX_6 rfl 3 (by decide) rfl rfl 9 rfl dX2_plantSinks_81 ?_
      refine lv_iload_n C.1 C.2.1 dX2_plantSinks_84 rfl (lv_at hl 4 rfl) ?_
      refine lv_iload_n C.1 C.2.1 dX2_plantSinks_85 rfl (lv_at hl 1 rfl) ?_
      refine x_iast (f := T1 3) (j := i) (x := nI 1024 * ((S 0 i) + (S 1 i))) (w' := wX G a S ((tS ((tS ((tS ((tS T1 0 (upd (T1 0) i ((-1))))) 1 (upd (T1 1) i ((-1))))) 2 (upd (T1 2) i ((-1))))) 3 (upd (T1 3) i (nI 1024 * ((S 0 i) + (S 1 i)))))) L ((tS ((tS F 5 (nI ct))) 6 (nI ct))) bs) C hH 10 gX_10 (by omega) (by decide) sX_10 dX2_plantSinks_86 (fun H locs hH => ?_)
      refine lv_aload_n C.1 C.2.1 dX2_plantSinks_87 rfl (lv_at hl 2 rfl) ?_
      refine x_get (C := RX2) (T := TX2) (N := 14) (v := .ref (a 11)) C inX2 hH 6 gX_6 rfl 4 (by decide) rfl rfl 10 rfl dX2_plantSinks_88 ?_
      refine lv_iload_n C.1 C.2.1 dX2_plantSinks_91 rfl (lv_at hl 4 rfl) ?_
      refine lv_iload_n C.1 C.2.1 dX2_plantSinks_92 rfl (lv_at hl 1 rfl) ?_
      refine x_iast (f := T1 4) (j := i) (x := nI 1024 * ((S 0 i) + (S 1 i))) (w' := wX G a S ((tS ((tS ((tS ((tS ((tS T1 0 (upd (T1 0) i ((-1))))) 1 (upd (T1 1) i ((-1))))) 2 (upd (T1 2) i ((-1))))) 3 (upd (T1 3) i (nI 1024 * ((S 0 i) + (S 1 i)))))) 4 (upd (T1 4) i (nI 1024 * ((S 0 i) + (S 1 i)))))) L ((tS ((tS F 5 (nI ct))) 6 (nI ct))) bs) C hH 11 gX_11 (by omega) (by decide) sX_11 dX2_plantSinks_93 (fun H locs hH => ?_)
      refine lv_aload_n C.1 C.2.1 dX2_plantSinks_94 rfl (lv_at hl 2 rfl) ?_
      refine x_get (C := RX2) (T := TX2) (N := 14) (v := .ref (a 12)) C inX2 hH 6 gX_6 rfl 5 (by decide) rfl rfl 11 rfl dX2_plantSinks_95 ?_
      refine lv_iload_n C.1 C.2.1 dX2_plantSinks_98 rfl (lv_at hl 4 rfl) ?_
      refine lv_iload C.1 C.2.1 dX2_plantSinks_99 (lv_at hl 0 rfl) ?_
      refine x_iast (f := T1 5) (j := i) (x := nI 1024 * ((S 0 i) - (S 1 i))) (w' := wX G a S ((tS ((tS ((tS ((tS ((tS ((tS T1 0 (upd (T1 0) i ((-1))))) 1 (upd (T1 1) i ((-1))))) 2 (upd (T1 2) i ((-1))))) 3 (upd (T1 3) i (nI 1024 * ((S 0 i) + (S 1 i)))))) 4 (upd (T1 4) i (nI 1024 * ((S 0 i) + (S 1 i)))))) 5 (upd (T1 5) i (nI 1024 * ((S 0 i) - (S 1 i)))))) L ((tS ((tS F 5 (nI ct))) 6 (nI ct))) bs) C hH 12 gX_12 (by omega) (by decide) sX_12 dX2_plantSinks_101 (fun H locs hH => ?_)
      refine lv_aload_n C.1 C.2.1 dX2_plantSinks_102 rfl (lv_at hl 2 rfl) ?_
      refine x_get (C := RX2) (T := TX2) (N := 14) (v := .ref (a 13)) C inX2 hH 6 gX_6 rfl 6 (by decide) rfl rfl 12 rfl dX2_plantSinks_103 ?_
      refine lv_iload_n C.1 C.2.1 dX2_plantSinks_106 rfl (lv_at hl 4 rfl) ?_
      refine lv_iload C.1 C.2.1 dX2_plantSinks_107 (lv_at hl 0 rfl) ?_
      refine x_iast (f := T1 6) (j := i) (x := nI 1024 * ((S 0 i) - (S 1 i))) (w' := wX G a S ((tS ((tS ((tS ((tS ((tS ((tS ((tS T1 0 (upd (T1 0) i ((-1))))) 1 (upd (T1 1) i ((-1))))) 2 (upd (T1 2) i ((-1))))) 3 (upd (T1 3) i (nI 1024 * ((S 0 i) + (S 1 i)))))) 4 (upd (T1 4) i (nI 1024 * ((S 0 i) + (S 1 i)))))) 5 (upd (T1 5) i (nI 1024 * ((S 0 i) - (S 1 i)))))) 6 (upd (T1 6) i (nI 1024 * ((S 0 i) - (S 1 i)))))) L ((tS ((tS F 5 (nI ct))) 6 (nI ct))) bs) C hH 13 gX_13 (by omega) (by decide) sX_13 dX2_plantSinks_109 (fun H locs hH => ?_)
      refine lv_aload_n C.1 C.2.1 dX2_plantSinks_110 rfl (lv_at hl 2 rfl) ?_
      refine x_get (C := RX2) (T := TX2) (N := 14) (v := .ref (a 14)) C inX2 hH 6 gX_6 rfl 7 (by decide) rfl rfl 13 rfl dX2_plantSinks_111 ?_
      refine lv_iload_n C.1 C.2.1 dX2_plantSinks_114 rfl (lv_at hl 4 rfl) ?_
      refine lv_iconst (v := nI 0) C.1 C.2.1 dX2_plantSinks_115 (by decide) ?_
      refine x_iast (f := T1 7) (j := i) (x := nI 0) (w' := wX G a S ((tS ((tS ((tS ((tS ((tS ((tS ((tS ((tS T1 0 (upd (T1 0) i ((-1))))) 1 (upd (T1 1) i ((-1))))) 2 (upd (T1 2) i ((-1))))) 3 (upd (T1 3) i (nI 1024 * ((S 0 i) + (S 1 i)))))) 4 (upd (T1 4) i (nI 1024 * ((S 0 i) + (S 1 i)))))) 5 (upd (T1 5) i (nI 1024 * ((S 0 i) - (S 1 i)))))) 6 (upd (T1 6) i (nI 1024 * ((S 0 i) - (S 1 i)))))) 7 (upd (T1 7) i (nI 0)))) L ((tS ((tS F 5 (nI ct))) 6 (nI ct))) bs) C hH 14 gX_14 (by omega) (by decide) sX_14 dX2_plantSinks_116 (fun H locs hH => ?_)
      refine lv_iinc (v := nI (i + 1)) (lv' := [(2, .int (nI (i + 1))), (4, .int (nI 1024 * ((S 0 i) - (S 1 i)))), (3, .int (nI 1024 * ((S 0 i) + (S 1 i)))), (0, .ref (a 6)), (1, .ref (a 1))]) C.1 C.2.1 dX2_plantSinks_117 hl (k := 4) rfl (nI_add i 1) (by decide) rfl (fun ls hl => ?_)
      refine lv_goto (tgt := 18) C.1 C.2.1 dX2_plantSinks_120 (by decide) ?_
      have hH := x_eqw (w' := wX G a S (plantK S T1 i) L ((tS ((tS F 5 (nI ct))) 6 (nI ct))) bs) (rfl) hH
      exact ih18 (i + 1) (plantK S T1 i) _ _ _ (by omega) (hf) hH (lv_sub hl [3, 4, 0] rfl)
  exact lp (ct) 0 T _ _ _ (by omega) (rfl) hH (lv_sub hl [1, 2, 0] rfl)
set_option maxHeartbeats 1000000 in
set_option maxRecDepth 100000 in
theorem c_X2_choosePlaces (l : Launch) (G : xG) (a : Nat → Nat) (S T : Nat → Nat → Int32) (L : Nat → Nat → Int64) (F : Nat → Int32) (bs : Int64) (rt : Nat) (P : Nat → Nat) (x y : Int32) (hF6 : F 6 = nI (rt + 1)) (hr : rt < 19) (hP : ∀ k, k < rt → T 2 k = nI (P k)) (hP1 : ∀ k, k < rt → P k < 19) : xMv l yX2_choosePlaces wsX2_choosePlaces { frames := 2, cells := 0, slots := 0, locals := 39 } [.ref (a 6), .int x, .int y] G (wX G a S T L F bs) (wX G a S (chooseF P rt (rootT T rt x y)) L F bs) 0 0 := by
  refine x_ofv (cc := cX2_choosePlaces) (maxL := 5) (by decide) rfl (Nat.le_of_ble_eq_true rfl) ?_
  intro p e s m args below meth c ls A Q C hml hA hH hl hE
  have hl : lv_has ls 5 [(0, .ref (a 6)), (1, .int x), (2, .int y)] := hl
  have inX2 : ∀ w ∈ wsX20, w ∈ wsX2_choosePlaces := fun _ h => (List.mem_cons_of_mem _ (List.mem_append_right _ h))
  refine lv_aload_n C.1 C.2.1 dX2_choosePlaces_0 rfl (lv_at hl 0 rfl) ?_
  refine x_get (C := RX2) (T := TX2) (N := 14) (v := .int (F 6)) C inX2 hH 6 gX_6 rfl 13 (by decide) rfl rfl 1 rfl dX2_choosePlaces_1 ?_
  refine x_toi hF6 ?_
  refine lv_iconst (v := nI 1) C.1 C.2.1 dX2_choosePlaces_4 (by decide) ?_
  refine lv_isub C.1 C.2.1 dX2_choosePlaces_5 ?_
  refine x_toi (pk_sub (a := rt + 1) (b := 1) (by omega)) ?_
  refine lv_istore_n (lv' := [(3, .int (nI rt)), (0, .ref (a 6)), (1, .int x), (2, .int y)]) C.1 C.2.1 dX2_choosePlaces_6 rfl hl (by decide) rfl (fun ls hl => ?_)
  refine lv_aload_n C.1 C.2.1 dX2_choosePlaces_7 rfl (lv_at hl 1 rfl) ?_
  refine lv_iload_n C.1 C.2.1 dX2_choosePlaces_8 rfl (lv_at hl 0 rfl) ?_
  refine lv_iload_n C.1 C.2.1 dX2_choosePlaces_9 rfl (lv_at hl 2 rfl) ?_
  refine lv_iload_n C.1 C.2.1 dX2_choosePlaces_10 rfl (lv_at hl 3 rfl) ?_
  refine x_cv (w' := wX G a S (standT T rt x y) L F bs) (va_runV (As := [.int (nI rt), .int x, .int y]) (rest := []) (x_fix C hml) (c_X2_standNear l G a S T L F bs rt x y (by omega) _) (cwV 3 C.2.2.2.1 gX2_choosePlaces_X2_standNear rfl rfl rfl (by decide +kernel) ⟨Nat.le_of_ble_eq_true rfl, Nat.le_of_ble_eq_true rfl⟩) (x_pv C hH rfl gX_6 rfl rfl) rfl rfl hl.1 rfl (lv_room (Nat.le_of_ble_eq_true rfl)) dX2_choosePlaces_11 ⟨Nat.le_of_ble_eq_true rfl, Nat.le_of_ble_eq_true rfl⟩) hH hA (fun H locs hH => ?_)
  refine lv_aload_n C.1 C.2.1 dX2_choosePlaces_14 rfl (lv_at hl 1 rfl) ?_
  refine x_get (C := RX2) (T := TX2) (N := 14) (v := .ref (a 15)) C inX2 hH 6 gX_6 rfl 8 (by decide) rfl rfl 2 rfl dX2_choosePlaces_15 ?_
  refine lv_iload_n C.1 C.2.1 dX2_choosePlaces_18 rfl (lv_at hl 0 rfl) ?_
  refine lv_aload_n C.1 C.2.1 dX2_choosePlaces_19 rfl (lv_at hl 1 rfl) ?_
  refine x_get (C := RX2) (T := TX2) (N := 14) (v := .ref (a 16)) C inX2 hH 6 gX_6 rfl 9 (by decide) rfl rfl 3 rfl dX2_choosePlaces_20 ?_
  refine lv_iload_n C.1 C.2.1 dX2_choosePlaces_23 rfl (lv_at hl 0 rfl) ?_
  refine x_iald (f := (standT T rt x y) 9) (j := rt) (v := (standT T rt x y) 9 rt) C hH 16 gX_16 (by omega) (by decide) (rfl) dX2_choosePlaces_24 ?_
  refine lv_iload_n C.1 C.2.1 dX2_choosePlaces_25 rfl (lv_at hl 2 rfl) ?_
  refine lv_isub C.1 C.2.1 dX2_choosePlaces_26 ?_
  refine va_mabs C.1 C.2.1 (hml.trans hl.1.symm) C.2.2.1 (C.2.2.2.1 _ (List.mem_of_getElem? (i := 4) rfl)) (C.2.2.2.1 _ (List.mem_of_getElem? (i := 5) rfl)) (C.2.2.2.1 _ (List.mem_of_getElem? (i := 6) rfl)) (C.2.2.2.1 _ (List.mem_of_getElem? (i := 7) rfl)) (Nat.le_of_ble_eq_true rfl) (Nat.le_of_ble_eq_true rfl) (Nat.le_of_ble_eq_true rfl) (Nat.le_of_ble_eq_true rfl) dX2_choosePlaces_27 ?_
  refine x_toi (show _ = iabs (((standT T rt x y) 9 rt) - x) from rfl) ?_
  refine lv_aload_n C.1 C.2.1 dX2_choosePlaces_30 rfl (lv_at hl 1 rfl) ?_
  refine x_get (C := RX2) (T := TX2) (N := 14) (v := .ref (a 17)) C inX2 hH 6 gX_6 rfl 10 (by decide) rfl rfl 8 rfl dX2_choosePlaces_31 ?_
  refine lv_iload_n C.1 C.2.1 dX2_choosePlaces_34 rfl (lv_at hl 0 rfl) ?_
  refine x_iald (f := (standT T rt x y) 10) (j := rt) (v := (standT T rt x y) 10 rt) C hH 17 gX_17 (by omega) (by decide) (rfl) dX2_choosePlaces_35 ?_
  refine lv_iload_n C.1 C.2.1 dX2_choosePlaces_36 rfl (lv_at hl 3 rfl) ?_
  refine lv_isub C.1 C.2.1 dX2_choosePlaces_37 ?_
  refine va_mabs C.1 C.2.1 (hml.trans hl.1.symm) C.2.2.1 (C.2.2.2.1 _ (List.mem_of_getElem? (i := 4) rfl)) (C.2.2.2.1 _ (List.mem_of_getElem? (i := 5) rfl)) (C.2.2.2.1 _ (List.mem_of_getElem? (i := 6) rfl)) (C.2.2.2.1 _ (List.mem_of_getElem? (i := 7) rfl)) (Nat.le_of_ble_eq_true rfl) (Nat.le_of_ble_eq_true rfl) (Nat.le_of_ble_eq_true rfl) (Nat.le_of_ble_eq_true rfl) dX2_choosePlaces_38 ?_
  refine x_toi (show _ = iabs (((standT T rt x y) 10 rt) - y) from rfl) ?_
  refine va_mmax C.1 C.2.1 (hml.trans hl.1.symm) C.2.2.1 (C.2.2.2.1 _ (List.mem_of_getElem? (i := 9) rfl)) (C.2.2.2.1 _ (List.mem_of_getElem? (i := 10) rfl)) (C.2.2.2.1 _ (List.mem_of_getElem? (i := 6) rfl)) (C.2.2.2.1 _ (List.mem_of_getElem? (i := 11) rfl)) (Nat.le_of_ble_eq_true rfl) (Nat.le_of_ble_eq_true rfl) (Nat.le_of_ble_eq_true rfl) (Nat.le_of_ble_eq_true rfl) dX2_choosePlaces_41 ?_
  refine x_toi (show _ = imax (iabs (((standT T rt x y) 9 rt) - x)) (iabs (((standT T rt x y) 10 rt) - y)) from rfl) ?_
  refine x_iast (f := (standT T rt x y) 8) (j := rt) (x := imax (iabs (((standT T rt x y) 9 rt) - x)) (iabs (((standT T rt x y) 10 rt) - y))) (w' := wX G a S ((tS (standT T rt x y) 8 (upd ((standT T rt x y) 8) rt (imax (iabs (((standT T rt x y) 9 rt) - x)) (iabs (((standT T rt x y) 10 rt) - y)))))) L F bs) C hH 15 gX_15 (by omega) (by decide) sX_15 dX2_choosePlaces_44 (fun H locs hH => ?_)
  refine lv_iload_n C.1 C.2.1 dX2_choosePlaces_45 rfl (lv_at hl 0 rfl) ?_
  refine lv_iconst (v := nI 1) C.1 C.2.1 dX2_choosePlaces_46 (by decide) ?_
  refine lv_isub C.1 C.2.1 dX2_choosePlaces_47 ?_
  refine x_toi (rfl) ?_
  refine lv_istore (lv' := [(4, .int (nI rt - nI 1)), (3, .int (nI rt)), (0, .ref (a 6)), (1, .int x), (2, .int y)]) C.1 C.2.1 dX2_choosePlaces_48 hl (by decide) rfl (fun ls hl => ?_)
  have lp : ∀ (n : Nat) (T1 : Nat → Nat → Int32) (H : Heap) (locs : List Loc) (ls : Array Slot), n ≤ rt → (∀ k, k < rt → T1 2 k = nI (P k)) → chooseF P n T1 = chooseF P rt (rootT T rt x y) → xH G A s.heap H locs (wX G a S T1 L F bs) → lv_has ls 5 [(0, .ref (a 6)), (1, .int x), (2, .int y), (3, .int (nI rt)), (4, .int (nI n - nI 1))] → W p l e ({ frames := 2, cells := 0, slots := 0, locals := 39 }) s m args below meth c H locs 0 0 Q (F0 m 50 ls []) := by
    intro n
    induction n with
    | zero =>
      intro T1 H locs ls hin hp hf hH hl
      refine lv_iload C.1 C.2.1 dX2_choosePlaces_50 (lv_at hl 4 rfl) ?_
      refine lv_if_lt (tgt := 91) C.1 C.2.1 dX2_choosePlaces_52 (by decide) (fun _ => ?_) (fun c_1 => absurd (by decide) c_1)
      have hH := x_eqw (w' := wX G a S (chooseF P rt (rootT T rt x y)) L F bs) (by rw [← hf]; rfl) hH
      exact hE _ _ _ _ hH dX2_choosePlaces_91
    | succ n ih50 =>
      intro T1 H locs ls hin hp hf hH hl
      rw [show nI (n + 1) - nI 1 = nI n from nI_pred n] at hl
      have hP2 := hP1 n (by omega)
      refine lv_iload C.1 C.2.1 dX2_choosePlaces_50 (lv_at hl 4 rfl) ?_
      refine lv_if_lt (tgt := 91) C.1 C.2.1 dX2_choosePlaces_52 (by decide) (fun c_2 => absurd c_2 (nI_pos (by omega))) (fun _ => ?_)
      refine lv_aload_n C.1 C.2.1 dX2_choosePlaces_55 rfl (lv_at hl 0 rfl) ?_
      refine lv_iload C.1 C.2.1 dX2_choosePlaces_56 (lv_at hl 4 rfl) ?_
      refine lv_aload_n C.1 C.2.1 dX2_choosePlaces_58 rfl (lv_at hl 0 rfl) ?_
      refine x_get (C := RX2) (T := TX2) (N := 14) (v := .ref (a 16)) C inX2 hH 6 gX_6 rfl 9 (by decide) rfl rfl 3 rfl dX2_choosePlaces_59 ?_
      refine lv_aload_n C.1 C.2.1 dX2_choosePlaces_62 rfl (lv_at hl 0 rfl) ?_
      refine x_get (C := RX2) (T := TX2) (N := 14) (v := .ref (a 9)) C inX2 hH 6 gX_6 rfl 2 (by decide) rfl rfl 12 rfl dX2_choosePlaces_63 ?_
      refine lv_iload C.1 C.2.1 dX2_choosePlaces_66 (lv_at hl 4 rfl) ?_
      refine x_iald (f := T1 2) (j := n) (v := nI (P n)) C hH 9 gX_9 (by omega) (by decide) (hp n (by omega)) dX2_choosePlaces_68 ?_
      refine x_iald (f := T1 9) (j := P n) (v := T1 9 (P n)) C hH 16 gX_16 (by omega) (by decide) (rfl) dX2_choosePlaces_69 ?_
      refine lv_aload_n C.1 C.2.1 dX2_choosePlaces_70 rfl (lv_at hl 0 rfl) ?_
      refine x_get (C := RX2) (T := TX2) (N := 14) (v := .ref (a 17)) C inX2 hH 6 gX_6 rfl 10 (by decide) rfl rfl 8 rfl dX2_choosePlaces_71 ?_
      refine lv_aload_n C.1 C.2.1 dX2_choosePlaces_74 rfl (lv_at hl 0 rfl) ?_
      refine x_get (C := RX2) (T := TX2) (N := 14) (v := .ref (a 9)) C inX2 hH 6 gX_6 rfl 2 (by decide) rfl rfl 12 rfl dX2_choosePlaces_75 ?_
      refine lv_iload C.1 C.2.1 dX2_choosePlaces_78 (lv_at hl 4 rfl) ?_
      refine x_iald (f := T1 2) (j := n) (v := nI (P n)) C hH 9 gX_9 (by omega) (by decide) (hp n (by omega)) dX2_choosePlaces_80 ?_
      refine x_iald (f := T1 10) (j := P n) (v := T1 10 (P n)) C hH 17 gX_17 (by omega) (by decide) (rfl) dX2_choosePlaces_81 ?_
      refine x_cv (w' := wX G a S (standT T1 n (T1 9 (P n)) (T1 10 (P n))) L F bs) (va_runV (As := [.int (nI n), .int (T1 9 (P n)), .int (T1 10 (P n))]) (rest := []) (x_fix C hml) (c_X2_standNear l G a S T1 L F bs n (T1 9 (P n)) (T1 10 (P n)) (by omega) _) (cwV 3 C.2.2.2.1 gX2_choosePlaces_X2_standNear rfl rfl rfl (by decide +kernel) ⟨Nat.le_of_ble_eq_true rfl, Nat.le_of_ble_eq_true rfl⟩) (x_pv C hH rfl gX_6 rfl rfl) rfl rfl hl.1 rfl (lv_room (Nat.le_of_ble_eq_true rfl)) dX2_choosePlaces_82 ⟨Nat.le_of_ble_eq_true rfl, Nat.le_of_ble_eq_true rfl⟩) hH hA (fun H locs hH => ?_)
      refine lv_iinc (v := nI n - nI 1) (lv' := [(4, .int (nI n - nI 1)), (0, .ref (a 6)), (1, .int x), (2, .int y), (3, .int (nI rt))]) C.1 C.2.1 dX2_choosePlaces_85 hl (k := 4) rfl (xn_dec2 n) (by decide) rfl (fun ls hl => ?_)
      refine lv_goto (tgt := 50) C.1 C.2.1 dX2_choosePlaces_88 (by decide) ?_
      have hH := x_eqw (w' := wX G a S (standT T1 n (T1 9 (P n)) (T1 10 (P n))) L F bs) (rfl) hH
      exact ih50 (standT T1 n (T1 9 (P n)) (T1 10 (P n))) _ _ _ (by omega) (hp) (hf) hH (lv_sub hl [1, 2, 3, 4, 0] rfl)
  exact lp (rt) ((tS (standT T rt x y) 8 (upd ((standT T rt x y) 8) rt (imax (iabs (((standT T rt x y) 9 rt) - x)) (iabs (((standT T rt x y) 10 rt) - y)))))) _ _ _ (by omega) (fun k hk => hP k hk) (rfl) hH (lv_sub hl [2, 3, 4, 1, 0] rfl)
set_option maxHeartbeats 1000000 in
set_option maxRecDepth 100000 in
theorem c_X2_wireSum (l : Launch) (G : xG) (a : Nat → Nat) (S T : Nat → Nat → Int32) (L : Nat → Nat → Int64) (F : Nat → Int32) (bs : Int64) (nd : Nat) (hF6 : F 6 = nI nd) (hn : nd ≤ 19) : xMi l yX2_wireSum wsX2_wireSum { frames := 0, cells := 0, slots := 0, locals := 0 } [.ref (a 6)] G (wX G a S T L F bs) (sumW T nd 0 (nI 0)) (wX G a S T L F bs) 0 0 := by
  refine x_ofi (cc := cX2_wireSum) (maxL := 3) (ty := .int) (by decide) rfl (Nat.le_of_ble_eq_true rfl) ?_
  intro p e s m args below meth c ls A Q C hml hA hH hl hE
  have hl : lv_has ls 3 [(0, .ref (a 6))] := hl
  have inX2 : ∀ w ∈ wsX20, w ∈ wsX2_wireSum := fun _ h => (List.mem_cons_of_mem _ (List.mem_append_right _ h))
  refine lv_iconst (v := nI 0) C.1 C.2.1 dX2_wireSum_0 (by decide) ?_
  refine lv_istore_n (lv' := [(1, .int (nI 0)), (0, .ref (a 6))]) C.1 C.2.1 dX2_wireSum_1 rfl hl (by decide) rfl (fun ls hl => ?_)
  refine lv_iconst (v := nI 0) C.1 C.2.1 dX2_wireSum_2 (by decide) ?_
  refine lv_istore_n (lv' := [(2, .int (nI 0)), (1, .int (nI 0)), (0, .ref (a 6))]) C.1 C.2.1 dX2_wireSum_3 rfl hl (by decide) rfl (fun ls hl => ?_)
  have lp : ∀ (n : Nat) (i : Nat) (v : Int32) (H : Heap) (locs : List Loc) (ls : Array Slot), i + n = nd → sumW T n i v = sumW T nd 0 (nI 0) → xH G A s.heap H locs (wX G a S T L F bs) → lv_has ls 3 [(0, .ref (a 6)), (1, .int v), (2, .int (nI i))] → W p l e ({ frames := 0, cells := 0, slots := 0, locals := 0 }) s m args below meth c H locs 0 0 Q (F0 m 4 ls []) := by
    intro n
    induction n with
    | zero =>
      intro i v H locs ls hin hf hH hl
      refine lv_iload_n C.1 C.2.1 dX2_wireSum_4 rfl (lv_at hl 2 rfl) ?_
      refine lv_aload_n C.1 C.2.1 dX2_wireSum_5 rfl (lv_at hl 0 rfl) ?_
      refine x_get (C := RX2) (T := TX2) (N := 14) (v := .int (F 6)) C inX2 hH 6 gX_6 rfl 13 (by decide) rfl rfl 1 rfl dX2_wireSum_6 ?_
      refine x_toi hF6 ?_
      refine lv_icmp_ge (tgt := 27) C.1 C.2.1 dX2_wireSum_9 (by decide) (fun _ => ?_) (fun c_1 => absurd ((nI_leI (a := nd) (b := i) (by omega) (by omega)).mpr (by omega)) c_1)
      refine lv_iload_n C.1 C.2.1 dX2_wireSum_27 rfl (lv_at hl 1 rfl) ?_
      exact hE _ _ _ _ _ hH (hf) (rfl) dX2_wireSum_28
    | succ n ih4 =>
      intro i v H locs ls hin hf hH hl
      refine lv_iload_n C.1 C.2.1 dX2_wireSum_4 rfl (lv_at hl 2 rfl) ?_
      refine lv_aload_n C.1 C.2.1 dX2_wireSum_5 rfl (lv_at hl 0 rfl) ?_
      refine x_get (C := RX2) (T := TX2) (N := 14) (v := .int (F 6)) C inX2 hH 6 gX_6 rfl 13 (by decide) rfl rfl 1 rfl dX2_wireSum_6 ?_
      refine x_toi hF6 ?_
      refine lv_icmp_ge (tgt := 27) C.1 C.2.1 dX2_wireSum_9 (by decide) (fun c_2 => absurd ((nI_leI (a := nd) (b := i) (by omega) (by omega)).mp c_2) (by omega)) (fun _ => ?_)
      refine lv_iload_n C.1 C.2.1 dX2_wireSum_12 rfl (lv_at hl 1 rfl) ?_
      refine lv_aload_n C.1 C.2.1 dX2_wireSum_13 rfl (lv_at hl 0 rfl) ?_
      refine x_get (C := RX2) (T := TX2) (N := 14) (v := .ref (a 15)) C inX2 hH 6 gX_6 rfl 8 (by decide) rfl rfl 2 rfl dX2_wireSum_14 ?_
      refine lv_iload_n C.1 C.2.1 dX2_wireSum_17 rfl (lv_at hl 2 rfl) ?_
      refine x_iald (f := T 8) (j := i) (v := T 8 i) C hH 15 gX_15 (by omega) (by decide) (rfl) dX2_wireSum_18 ?_
      refine lv_iadd C.1 C.2.1 dX2_wireSum_19 ?_
      refine lv_istore_n (lv' := [(1, .int (v + (T 8 i))), (0, .ref (a 6)), (2, .int (nI i))]) C.1 C.2.1 dX2_wireSum_20 rfl hl (by decide) rfl (fun ls hl => ?_)
      refine lv_iinc (v := nI (i + 1)) (lv' := [(2, .int (nI (i + 1))), (1, .int (v + (T 8 i))), (0, .ref (a 6))]) C.1 C.2.1 dX2_wireSum_21 hl (k := 2) rfl (nI_add i 1) (by decide) rfl (fun ls hl => ?_)
      refine lv_goto (tgt := 4) C.1 C.2.1 dX2_wireSum_24 (by decide) ?_
      exact ih4 (i + 1) (v + (T 8 i)) _ _ _ (by omega) (hf) hH (lv_sub hl [2, 1, 0] rfl)
  exact lp (nd) 0 (nI 0) _ _ _ (by omega) (rfl) hH (lv_sub hl [2, 1, 0] rfl)
set_option maxHeartbeats 1000000 in
set_option maxRecDepth 100000 in
theorem c_X2_partOf_0 (l : Launch) (G : xG) (a : Nat → Nat) (S T : Nat → Nat → Int32) (L : Nat → Nat → Int64) (F : Nat → Int32) (bs : Int64) (k : Nat) (hk : k < 19) : xMi l yX2_partOf wsX2_partOf { frames := 0, cells := 0, slots := 0, locals := 0 } [.ref (a 6), .int (nI k), .int (nI 0)] G (wX G a S T L F bs) (T 0 k) (wX G a S T L F bs) 0 0 := by
  refine x_ofi (cc := cX2_partOf) (maxL := 3) (ty := .int) (by decide) rfl (Nat.le_of_ble_eq_true rfl) ?_
  intro p e s m args below meth c ls A Q C hml hA hH hl hE
  have hl : lv_has ls 3 [(0, .ref (a 6)), (1, .int (nI k)), (2, .int (nI 0))] := hl
  have inX2 : ∀ w ∈ wsX20, w ∈ wsX2_partOf := fun _ h => (List.mem_cons_of_mem _ (List.mem_append_right _ h))
  refine lv_iload_n C.1 C.2.1 dX2_partOf_0 rfl (lv_at hl 2 rfl) ?_
  refine lv_tableIn (tgt := 56) C.1 C.2.1 dX2_partOf_1 (by decide) (by decide) rfl (by decide) ?_
  refine lv_aload_n C.1 C.2.1 dX2_partOf_56 rfl (lv_at hl 0 rfl) ?_
  refine x_get (C := RX2) (T := TX2) (N := 14) (v := .ref (a 7)) C inX2 hH 6 gX_6 rfl 0 (by decide) rfl rfl 1 rfl dX2_partOf_57 ?_
  refine lv_iload_n C.1 C.2.1 dX2_partOf_60 rfl (lv_at hl 1 rfl) ?_
  refine x_iald (f := T 0) (j := k) (v := T 0 k) C hH 7 gX_7 (by omega) (by decide) (rfl) dX2_partOf_61 ?_
  exact hE _ _ _ _ _ hH (rfl) (rfl) dX2_partOf_62
set_option maxHeartbeats 1000000 in
set_option maxRecDepth 100000 in
theorem c_X2_partOf_1 (l : Launch) (G : xG) (a : Nat → Nat) (S T : Nat → Nat → Int32) (L : Nat → Nat → Int64) (F : Nat → Int32) (bs : Int64) (k : Nat) (hk : k < 19) : xMi l yX2_partOf wsX2_partOf { frames := 0, cells := 0, slots := 0, locals := 0 } [.ref (a 6), .int (nI k), .int (nI 1)] G (wX G a S T L F bs) (T 1 k) (wX G a S T L F bs) 0 0 := by
  refine x_ofi (cc := cX2_partOf) (maxL := 3) (ty := .int) (by decide) rfl (Nat.le_of_ble_eq_true rfl) ?_
  intro p e s m args below meth c ls A Q C hml hA hH hl hE
  have hl : lv_has ls 3 [(0, .ref (a 6)), (1, .int (nI k)), (2, .int (nI 1))] := hl
  have inX2 : ∀ w ∈ wsX20, w ∈ wsX2_partOf := fun _ h => (List.mem_cons_of_mem _ (List.mem_append_right _ h))
  refine lv_iload_n C.1 C.2.1 dX2_partOf_0 rfl (lv_at hl 2 rfl) ?_
  refine lv_tableIn (tgt := 63) C.1 C.2.1 dX2_partOf_1 (by decide) (by decide) rfl (by decide) ?_
  refine lv_aload_n C.1 C.2.1 dX2_partOf_63 rfl (lv_at hl 0 rfl) ?_
  refine x_get (C := RX2) (T := TX2) (N := 14) (v := .ref (a 8)) C inX2 hH 6 gX_6 rfl 1 (by decide) rfl rfl 2 rfl dX2_partOf_64 ?_
  refine lv_iload_n C.1 C.2.1 dX2_partOf_67 rfl (lv_at hl 1 rfl) ?_
  refine x_iald (f := T 1) (j := k) (v := T 1 k) C hH 8 gX_8 (by omega) (by decide) (rfl) dX2_partOf_68 ?_
  exact hE _ _ _ _ _ hH (rfl) (rfl) dX2_partOf_69
set_option maxHeartbeats 1000000 in
set_option maxRecDepth 100000 in
theorem c_X2_partOf_2 (l : Launch) (G : xG) (a : Nat → Nat) (S T : Nat → Nat → Int32) (L : Nat → Nat → Int64) (F : Nat → Int32) (bs : Int64) (k : Nat) (hk : k < 19) : xMi l yX2_partOf wsX2_partOf { frames := 0, cells := 0, slots := 0, locals := 0 } [.ref (a 6), .int (nI k), .int (nI 2)] G (wX G a S T L F bs) (T 2 k) (wX G a S T L F bs) 0 0 := by
  refine x_ofi (cc := cX2_partOf) (maxL := 3) (ty := .int) (by decide) rfl (Nat.le_of_ble_eq_true rfl) ?_
  intro p e s m args below meth c ls A Q C hml hA hH hl hE
  have hl : lv_has ls 3 [(0, .ref (a 6)), (1, .int (nI k)), (2, .int (nI 2))] := hl
  have inX2 : ∀ w ∈ wsX20, w ∈ wsX2_partOf := fun _ h => (List.mem_cons_of_mem _ (List.mem_append_right _ h))
  refine lv_iload_n C.1 C.2.1 dX2_partOf_0 rfl (lv_at hl 2 rfl) ?_
  refine lv_tableIn (tgt := 70) C.1 C.2.1 dX2_partOf_1 (by decide) (by decide) rfl (by decide) ?_
  refine lv_aload_n C.1 C.2.1 dX2_partOf_70 rfl (lv_at hl 0 rfl) ?_
  refine x_get (C := RX2) (T := TX2) (N := 14) (v := .ref (a 9)) C inX2 hH 6 gX_6 rfl 2 (by decide) rfl rfl 3 rfl dX2_partOf_71 ?_
  refine lv_iload_n C.1 C.2.1 dX2_partOf_74 rfl (lv_at hl 1 rfl) ?_
  refine x_iald (f := T 2) (j := k) (v := T 2 k) C hH 9 gX_9 (by omega) (by decide) (rfl) dX2_partOf_75 ?_
  exact hE _ _ _ _ _ hH (rfl) (rfl) dX2_partOf_76
set_option maxHeartbeats 1000000 in
set_option maxRecDepth 100000 in
theorem c_X2_partOf_3 (l : Launch) (G : xG) (a : Nat → Nat) (S T : Nat → Nat → Int32) (L : Nat → Nat → Int64) (F : Nat → Int32) (bs : Int64) (k : Nat) (hk : k < 19) : xMi l yX2_partOf wsX2_partOf { frames := 0, cells := 0, slots := 0, locals := 0 } [.ref (a 6), .int (nI k), .int (nI 3)] G (wX G a S T L F bs) (T 3 k) (wX G a S T L F bs) 0 0 := by
  refine x_ofi (cc := cX2_partOf) (maxL := 3) (ty := .int) (by decide) rfl (Nat.le_of_ble_eq_true rfl) ?_
  intro p e s m args below meth c ls A Q C hml hA hH hl hE
  have hl : lv_has ls 3 [(0, .ref (a 6)), (1, .int (nI k)), (2, .int (nI 3))] := hl
  have inX2 : ∀ w ∈ wsX20, w ∈ wsX2_partOf := fun _ h => (List.mem_cons_of_mem _ (List.mem_append_right _ h))
  refine lv_iload_n C.1 C.2.1 dX2_partOf_0 rfl (lv_at hl 2 rfl) ?_
  refine lv_tableIn (tgt := 77) C.1 C.2.1 dX2_partOf_1 (by decide) (by decide) rfl (by decide) ?_
  refine lv_aload_n C.1 C.2.1 dX2_partOf_77 rfl (lv_at hl 0 rfl) ?_
  refine x_get (C := RX2) (T := TX2) (N := 14) (v := .ref (a 10)) C inX2 hH 6 gX_6 rfl 3 (by decide) rfl rfl 4 rfl dX2_partOf_78 ?_
  refine lv_iload_n C.1 C.2.1 dX2_partOf_81 rfl (lv_at hl 1 rfl) ?_
  refine x_iald (f := T 3) (j := k) (v := T 3 k) C hH 10 gX_10 (by omega) (by decide) (rfl) dX2_partOf_82 ?_
  exact hE _ _ _ _ _ hH (rfl) (rfl) dX2_partOf_83
set_option maxHeartbeats 1000000 in
set_option maxRecDepth 100000 in
theorem c_X2_partOf_4 (l : Launch) (G : xG) (a : Nat → Nat) (S T : Nat → Nat → Int32) (L : Nat → Nat → Int64) (F : Nat → Int32) (bs : Int64) (k : Nat) (hk : k < 19) : xMi l yX2_partOf wsX2_partOf { frames := 0, cells := 0, slots := 0, locals := 0 } [.ref (a 6), .int (nI k), .int (nI 4)] G (wX G a S T L F bs) (T 4 k) (wX G a S T L F bs) 0 0 := by
  refine x_ofi (cc := cX2_partOf) (maxL := 3) (ty := .int) (by decide) rfl (Nat.le_of_ble_eq_true rfl) ?_
  intro p e s m args below meth c ls A Q C hml hA hH hl hE
  have hl : lv_has ls 3 [(0, .ref (a 6)), (1, .int (nI k)), (2, .int (nI 4))] := hl
  have inX2 : ∀ w ∈ wsX20, w ∈ wsX2_partOf := fun _ h => (List.mem_cons_of_mem _ (List.mem_append_right _ h))
  refine lv_iload_n C.1 C.2.1 dX2_partOf_0 rfl (lv_at hl 2 rfl) ?_
  refine lv_tableIn (tgt := 84) C.1 C.2.1 dX2_partOf_1 (by decide) (by decide) rfl (by decide) ?_
  refine lv_aload_n C.1 C.2.1 dX2_partOf_84 rfl (lv_at hl 0 rfl) ?_
  refine x_get (C := RX2) (T := TX2) (N := 14) (v := .ref (a 11)) C inX2 hH 6 gX_6 rfl 4 (by decide) rfl rfl 5 rfl dX2_partOf_85 ?_
  refine lv_iload_n C.1 C.2.1 dX2_partOf_88 rfl (lv_at hl 1 rfl) ?_
  refine x_iald (f := T 4) (j := k) (v := T 4 k) C hH 11 gX_11 (by omega) (by decide) (rfl) dX2_partOf_89 ?_
  exact hE _ _ _ _ _ hH (rfl) (rfl) dX2_partOf_90
set_option maxHeartbeats 1000000 in
set_option maxRecDepth 100000 in
theorem c_X2_partOf_5 (l : Launch) (G : xG) (a : Nat → Nat) (S T : Nat → Nat → Int32) (L : Nat → Nat → Int64) (F : Nat → Int32) (bs : Int64) (k : Nat) (hk : k < 19) : xMi l yX2_partOf wsX2_partOf { frames := 0, cells := 0, slots := 0, locals := 0 } [.ref (a 6), .int (nI k), .int (nI 5)] G (wX G a S T L F bs) (T 5 k) (wX G a S T L F bs) 0 0 := by
  refine x_ofi (cc := cX2_partOf) (maxL := 3) (ty := .int) (by decide) rfl (Nat.le_of_ble_eq_true rfl) ?_
  intro p e s m args below meth c ls A Q C hml hA hH hl hE
  have hl : lv_has ls 3 [(0, .ref (a 6)), (1, .int (nI k)), (2, .int (nI 5))] := hl
  have inX2 : ∀ w ∈ wsX20, w ∈ wsX2_partOf := fun _ h => (List.mem_cons_of_mem _ (List.mem_append_right _ h))
  refine lv_iload_n C.1 C.2.1 dX2_partOf_0 rfl (lv_at hl 2 rfl) ?_
  refine lv_tableIn (tgt := 91) C.1 C.2.1 dX2_partOf_1 (by decide) (by decide) rfl (by decide) ?_
  refine lv_aload_n C.1 C.2.1 dX2_partOf_91 rfl (lv_at hl 0 rfl) ?_
  refine x_get (C := RX2) (T := TX2) (N := 14) (v := .ref (a 12)) C inX2 hH 6 gX_6 rfl 5 (by decide) rfl rfl 6 rfl dX2_partOf_92 ?_
  refine lv_iload_n C.1 C.2.1 dX2_partOf_95 rfl (lv_at hl 1 rfl) ?_
  refine x_iald (f := T 5) (j := k) (v := T 5 k) C hH 12 gX_12 (by omega) (by decide) (rfl) dX2_partOf_96 ?_
  exact hE _ _ _ _ _ hH (rfl) (rfl) dX2_partOf_97
set_option maxHeartbeats 1000000 in
set_option maxRecDepth 100000 in
theorem c_X2_partOf_6 (l : Launch) (G : xG) (a : Nat → Nat) (S T : Nat → Nat → Int32) (L : Nat → Nat → Int64) (F : Nat → Int32) (bs : Int64) (k : Nat) (hk : k < 19) : xMi l yX2_partOf wsX2_partOf { frames := 0, cells := 0, slots := 0, locals := 0 } [.ref (a 6), .int (nI k), .int (nI 6)] G (wX G a S T L F bs) (T 6 k) (wX G a S T L F bs) 0 0 := by
  refine x_ofi (cc := cX2_partOf) (maxL := 3) (ty := .int) (by decide) rfl (Nat.le_of_ble_eq_true rfl) ?_
  intro p e s m args below meth c ls A Q C hml hA hH hl hE
  have hl : lv_has ls 3 [(0, .ref (a 6)), (1, .int (nI k)), (2, .int (nI 6))] := hl
  have inX2 : ∀ w ∈ wsX20, w ∈ wsX2_partOf := fun _ h => (List.mem_cons_of_mem _ (List.mem_append_right _ h))
  refine lv_iload_n C.1 C.2.1 dX2_partOf_0 rfl (lv_at hl 2 rfl) ?_
  refine lv_tableIn (tgt := 98) C.1 C.2.1 dX2_partOf_1 (by decide) (by decide) rfl (by decide) ?_
  refine lv_aload_n C.1 C.2.1 dX2_partOf_98 rfl (lv_at hl 0 rfl) ?_
  refine x_get (C := RX2) (T := TX2) (N := 14) (v := .ref (a 13)) C inX2 hH 6 gX_6 rfl 6 (by decide) rfl rfl 7 rfl dX2_partOf_99 ?_
  refine lv_iload_n C.1 C.2.1 dX2_partOf_102 rfl (lv_at hl 1 rfl) ?_
  refine x_iald (f := T 6) (j := k) (v := T 6 k) C hH 13 gX_13 (by omega) (by decide) (rfl) dX2_partOf_103 ?_
  exact hE _ _ _ _ _ hH (rfl) (rfl) dX2_partOf_104
set_option maxHeartbeats 1000000 in
set_option maxRecDepth 100000 in
theorem c_X2_partOf_7 (l : Launch) (G : xG) (a : Nat → Nat) (S T : Nat → Nat → Int32) (L : Nat → Nat → Int64) (F : Nat → Int32) (bs : Int64) (k : Nat) (hk : k < 19) : xMi l yX2_partOf wsX2_partOf { frames := 0, cells := 0, slots := 0, locals := 0 } [.ref (a 6), .int (nI k), .int (nI 7)] G (wX G a S T L F bs) (T 7 k) (wX G a S T L F bs) 0 0 := by
  refine x_ofi (cc := cX2_partOf) (maxL := 3) (ty := .int) (by decide) rfl (Nat.le_of_ble_eq_true rfl) ?_
  intro p e s m args below meth c ls A Q C hml hA hH hl hE
  have hl : lv_has ls 3 [(0, .ref (a 6)), (1, .int (nI k)), (2, .int (nI 7))] := hl
  have inX2 : ∀ w ∈ wsX20, w ∈ wsX2_partOf := fun _ h => (List.mem_cons_of_mem _ (List.mem_append_right _ h))
  refine lv_iload_n C.1 C.2.1 dX2_partOf_0 rfl (lv_at hl 2 rfl) ?_
  refine lv_tableIn (tgt := 105) C.1 C.2.1 dX2_partOf_1 (by decide) (by decide) rfl (by decide) ?_
  refine lv_aload_n C.1 C.2.1 dX2_partOf_105 rfl (lv_at hl 0 rfl) ?_
  refine x_get (C := RX2) (T := TX2) (N := 14) (v := .ref (a 14)) C inX2 hH 6 gX_6 rfl 7 (by decide) rfl rfl 8 rfl dX2_partOf_106 ?_
  refine lv_iload_n C.1 C.2.1 dX2_partOf_109 rfl (lv_at hl 1 rfl) ?_
  refine x_iald (f := T 7) (j := k) (v := T 7 k) C hH 14 gX_14 (by omega) (by decide) (rfl) dX2_partOf_110 ?_
  exact hE _ _ _ _ _ hH (rfl) (rfl) dX2_partOf_111
set_option maxHeartbeats 1000000 in
set_option maxRecDepth 100000 in
theorem c_X2_partOf_8 (l : Launch) (G : xG) (a : Nat → Nat) (S T : Nat → Nat → Int32) (L : Nat → Nat → Int64) (F : Nat → Int32) (bs : Int64) (k : Nat) (hk : k < 19) : xMi l yX2_partOf wsX2_partOf { frames := 0, cells := 0, slots := 0, locals := 0 } [.ref (a 6), .int (nI k), .int (nI 8)] G (wX G a S T L F bs) (T 8 k) (wX G a S T L F bs) 0 0 := by
  refine x_ofi (cc := cX2_partOf) (maxL := 3) (ty := .int) (by decide) rfl (Nat.le_of_ble_eq_true rfl) ?_
  intro p e s m args below meth c ls A Q C hml hA hH hl hE
  have hl : lv_has ls 3 [(0, .ref (a 6)), (1, .int (nI k)), (2, .int (nI 8))] := hl
  have inX2 : ∀ w ∈ wsX20, w ∈ wsX2_partOf := fun _ h => (List.mem_cons_of_mem _ (List.mem_append_right _ h))
  refine lv_iload_n C.1 C.2.1 dX2_partOf_0 rfl (lv_at hl 2 rfl) ?_
  refine lv_tableIn (tgt := 112) C.1 C.2.1 dX2_partOf_1 (by decide) (by decide) rfl (by decide) ?_
  refine lv_aload_n C.1 C.2.1 dX2_partOf_112 rfl (lv_at hl 0 rfl) ?_
  refine x_get (C := RX2) (T := TX2) (N := 14) (v := .ref (a 15)) C inX2 hH 6 gX_6 rfl 8 (by decide) rfl rfl 9 rfl dX2_partOf_113 ?_
  refine lv_iload_n C.1 C.2.1 dX2_partOf_116 rfl (lv_at hl 1 rfl) ?_
  refine x_iald (f := T 8) (j := k) (v := T 8 k) C hH 15 gX_15 (by omega) (by decide) (rfl) dX2_partOf_117 ?_
  exact hE _ _ _ _ _ hH (rfl) (rfl) dX2_partOf_118
set_option maxHeartbeats 1000000 in
set_option maxRecDepth 100000 in
theorem c_X2_partOf_9 (l : Launch) (G : xG) (a : Nat → Nat) (S T : Nat → Nat → Int32) (L : Nat → Nat → Int64) (F : Nat → Int32) (bs : Int64) (k : Nat) (hk : k < 19) : xMi l yX2_partOf wsX2_partOf { frames := 0, cells := 0, slots := 0, locals := 0 } [.ref (a 6), .int (nI k), .int (nI 9)] G (wX G a S T L F bs) (T 9 k) (wX G a S T L F bs) 0 0 := by
  refine x_ofi (cc := cX2_partOf) (maxL := 3) (ty := .int) (by decide) rfl (Nat.le_of_ble_eq_true rfl) ?_
  intro p e s m args below meth c ls A Q C hml hA hH hl hE
  have hl : lv_has ls 3 [(0, .ref (a 6)), (1, .int (nI k)), (2, .int (nI 9))] := hl
  have inX2 : ∀ w ∈ wsX20, w ∈ wsX2_partOf := fun _ h => (List.mem_cons_of_mem _ (List.mem_append_right _ h))
  refine lv_iload_n C.1 C.2.1 dX2_partOf_0 rfl (lv_at hl 2 rfl) ?_
  refine lv_tableIn (tgt := 119) C.1 C.2.1 dX2_partOf_1 (by decide) (by decide) rfl (by decide) ?_
  refine lv_aload_n C.1 C.2.1 dX2_partOf_119 rfl (lv_at hl 0 rfl) ?_
  refine x_get (C := RX2) (T := TX2) (N := 14) (v := .ref (a 16)) C inX2 hH 6 gX_6 rfl 9 (by decide) rfl rfl 10 rfl dX2_partOf_120 ?_
  refine lv_iload_n C.1 C.2.1 dX2_partOf_123 rfl (lv_at hl 1 rfl) ?_
  refine x_iald (f := T 9) (j := k) (v := T 9 k) C hH 16 gX_16 (by omega) (by decide) (rfl) dX2_partOf_124 ?_
  exact hE _ _ _ _ _ hH (rfl) (rfl) dX2_partOf_125
set_option maxHeartbeats 1000000 in
set_option maxRecDepth 100000 in
theorem c_X2_partOf_10 (l : Launch) (G : xG) (a : Nat → Nat) (S T : Nat → Nat → Int32) (L : Nat → Nat → Int64) (F : Nat → Int32) (bs : Int64) (k : Nat) (hk : k < 19) : xMi l yX2_partOf wsX2_partOf { frames := 0, cells := 0, slots := 0, locals := 0 } [.ref (a 6), .int (nI k), .int (nI 10)] G (wX G a S T L F bs) (T 10 k) (wX G a S T L F bs) 0 0 := by
  refine x_ofi (cc := cX2_partOf) (maxL := 3) (ty := .int) (by decide) rfl (Nat.le_of_ble_eq_true rfl) ?_
  intro p e s m args below meth c ls A Q C hml hA hH hl hE
  have hl : lv_has ls 3 [(0, .ref (a 6)), (1, .int (nI k)), (2, .int (nI 10))] := hl
  have inX2 : ∀ w ∈ wsX20, w ∈ wsX2_partOf := fun _ h => (List.mem_cons_of_mem _ (List.mem_append_right _ h))
  refine lv_iload_n C.1 C.2.1 dX2_partOf_0 rfl (lv_at hl 2 rfl) ?_
  refine lv_tableOut (tgt := 126) C.1 C.2.1 dX2_partOf_1 (by decide) (by decide) ?_
  refine lv_aload_n C.1 C.2.1 dX2_partOf_126 rfl (lv_at hl 0 rfl) ?_
  refine x_get (C := RX2) (T := TX2) (N := 14) (v := .ref (a 17)) C inX2 hH 6 gX_6 rfl 10 (by decide) rfl rfl 11 rfl dX2_partOf_127 ?_
  refine lv_iload_n C.1 C.2.1 dX2_partOf_130 rfl (lv_at hl 1 rfl) ?_
  refine x_iald (f := T 10) (j := k) (v := T 10 k) C hH 17 gX_17 (by omega) (by decide) (rfl) dX2_partOf_131 ?_
  exact hE _ _ _ _ _ hH (rfl) (rfl) dX2_partOf_132
end
