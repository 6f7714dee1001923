/-! The search for a handler, through rows that are passed: my own rows (the rounds are compiled without Shelf42, which NAMES.whole's vx_catch and vx_outP name). -/
def xc_Finds (e : Env) (s : State) (f : JFrame) (a : Addr) (h : Handler) (vm' : Vm) : Prop :=
  ∀ (Q : Handler → Pre) (E : CtlPost) (d : Bool) (acts : List Action), wp (findHandler f a) Q E e d acts s ↔ Q h d acts (s.setVm vm')
/-- a row that covers and links to a class: it takes the object, or the search goes on; the link is noted either way -/
theorem xc_row {Q : Handler → Pre} {E : CtlPost} {e : Env} {d : Bool} {acts : List Action} {s : State} {f : JFrame} {a : Addr} {x : ExceptionTableEntry} {t : List ExceptionTableEntry} {k : ClassId} {cell : Cell} (hx : covers x f.pc = true) (h0 : x.catchType ≠ 0)
    (hl : s.vm.ClassLinks e.platform f.method.cls x.catchType k) (hcell : s.heap[a]? = some cell) (hobj : ∀ z, cell.vm ≠ .statics z) (h1 : ∃ z, s.vm.classes[cell.cls]? = some z) (h2 : ∃ z, s.vm.classes[k]? = some z) :
    wp (findHandler.go f a (x :: t)) Q E e d acts s ↔ if s.vm.assignable cell.cls k = true then Q (.found x.handlerPc) d acts (s.setVm (s.vm.noted f.method.cls x.catchType (.cls k))) else wp (findHandler.go f a t) Q E e d acts (s.setVm (s.vm.noted f.method.cls x.catchType (.cls k))) := by
  simp only [covers] at hx
  obtain ⟨ha, ht⟩ := (resolveClass_links e.toSetting hl).op (op := VmOp.resolveClass f.method.cls x.catchType) rfl
  have hal : s.vm.Alike (s.vm.noted f.method.cls x.catchType (.cls k)) := (Vm.Alike.refl s.vm).noted _ _ _
  obtain ⟨z1, h1⟩ := h1
  obtain ⟨z2, h2⟩ := h2
  obtain ⟨z3, h3, -⟩ := hal.2.2 _ _ h1
  obtain ⟨z4, h4, -⟩ := hal.2.2 _ _ h2
  cases hfit : s.vm.assignable cell.cls k with
  | true =>
    have hfit' : (s.vm.noted f.method.cls x.catchType (.cls k)).assignable cell.cls k = true := by rw [hal.assignable]; exact hfit
    simp [findHandler.go, hx, h0, ha, ht, hcell, hobj, h3, h4, hfit', VmOp.dirties, VmOp.acts]
  | false =>
    have hfit' : (s.vm.noted f.method.cls x.catchType (.cls k)).assignable cell.cls k = false := by rw [hal.assignable]; exact hfit
    simp [findHandler.go, hx, h0, ha, ht, hcell, hobj, h3, h4, hfit', VmOp.dirties, VmOp.acts]
/-- a row is passed: it doesn't cover, or its class doesn't take the object -/
def xc_No (pl : Platform) (s : State) (k : ClassId) (pc : Nat) (o : ClassId) (y : ExceptionTableEntry) : Prop :=
  covers y pc = false ∨ (y.catchType ≠ 0 ∧ ∃ z, s.vm.ClassLinks pl k y.catchType z ∧ s.vm.assignable o z = false)
theorem xc_go {e : Env} {s : State} {f : JFrame} {a : Addr} {cell : Cell} (hobj : ∀ z, cell.vm ≠ .statics z) (hk : ∃ z, s.vm.classes[cell.cls]? = some z) (x : ExceptionTableEntry) (suf : List ExceptionTableEntry) (hx : covers x f.pc = true) (h0 : x.catchType ≠ 0) {k : ClassId}
    (hl : s.vm.ClassLinks e.platform f.method.cls x.catchType k) (hfit : s.vm.assignable cell.cls k = true) :
    ∀ (pre : List ExceptionTableEntry) (S : State), s.WarmedH S.vm → S.heap[a]? = some cell → (∀ y ∈ pre, xc_No e.platform s f.method.cls f.pc cell.cls y) →
      ∃ vm', s.WarmedH vm' ∧ ∀ (Q : Handler → Pre) (E : CtlPost) (d : Bool) (acts : List Action), wp (findHandler.go f a (pre ++ x :: suf)) Q E e d acts S ↔ Q (.found x.handlerPc) d acts (S.setVm vm') := by
  obtain ⟨z0, hk⟩ := hk
  intro pre
  induction pre with
  | nil =>
    intro S hW hcell _
    obtain ⟨z1, hz1, -⟩ := hW.alike.2.2 _ _ hk
    obtain ⟨dk, _, _, kt, hd, _, _, _, _, hkt, _, hopen⟩ := hl.here
    obtain ⟨z2, hz2, -⟩ := hW.alike.2.2 _ _ hkt
    exact ⟨_, hW.noted hd hopen (State.rightAt_cls hl), fun Q E d acts => by
      rw [List.nil_append, xc_row hx h0 (hW.classLinks hl) hcell hobj ⟨z1, hz1⟩ ⟨z2, hz2⟩, if_pos (by rw [hW.alike.assignable]; exact hfit)]⟩
  | cons y ys ih =>
    intro S hW hcell hno
    obtain ⟨z1, hz1, -⟩ := hW.alike.2.2 _ _ hk
    have hrest : ∀ z ∈ ys, xc_No e.platform s f.method.cls f.pc cell.cls z := fun z hz => hno z (List.mem_cons_of_mem _ hz)
    by_cases hcov : covers y f.pc = true
    · rcases hno y (List.mem_cons_self ..) with h | ⟨hy0, k2, hl2, hfit2⟩
      · rw [h] at hcov; cases hcov
      · obtain ⟨dk, _, _, kt, hd, _, _, _, _, hkt, _, hopen⟩ := hl2.here
        obtain ⟨z2, hz2, -⟩ := hW.alike.2.2 _ _ hkt
        obtain ⟨vm', hW', hq⟩ := ih (S.setVm (S.vm.noted f.method.cls y.catchType (.cls k2))) (hW.noted hd hopen (State.rightAt_cls hl2)) hcell hrest
        exact ⟨vm', hW', fun Q E d acts => by
          rw [List.cons_append, xc_row hcov hy0 (hW.classLinks hl2) hcell hobj ⟨z1, hz1⟩ ⟨z2, hz2⟩, if_neg (by rw [hW.alike.assignable, hfit2]; exact Bool.false_ne_true)]
          exact hq Q E d acts⟩
    · obtain ⟨vm', hW', hq⟩ := ih S hW hcell hrest
      exact ⟨vm', hW', fun Q E d acts => by
        rw [List.cons_append, Jvm.W.findHandler_go_skip (by simpa using hcov)]
        exact hq Q E d acts⟩
theorem xc_step {e : Env} {s : State} {a : Addr} {f : JFrame} {r : List Frame} {pc : Nat} {vm' : Vm} (hfind : xc_Finds e s f a (.found pc) vm') :
    (stepThrowing e s a (.java f :: r)).Is ((s.setVm vm').setFrames (.java { f with pc := pc, stack := [.ref a] } :: r)) [] := by
  simp only [stepThrowing, searchFrame, vmDo]
  generalize hr : Sem.go _ e false [] s = res
  obtain ⟨as, rfl, ha⟩ := Sem.eq_ok_of hr (a := Handler.found pc) (s' := s.setVm vm') (acts' := []) (by simp [hfind _ _ _ _])
  exact ⟨rfl, ha⟩
theorem xc_frames (u : State) (vm' : Vm) (F G : List Frame) : ((u.setFrames F).setVm vm').setFrames G = (u.setVm vm').setFrames G := by
  rw [show (u.setFrames F).setVm vm' = (u.setVm vm').setFrames F from rfl, State.setFrames_setFrames]
theorem xc_caught {p : Program} {l : Launch} {e : Env} {R : Room} {s : State} {m : MethodId} {args : Array Value} {below : List Frame} {meth : Method} {c : Code} {T : State} {locs : List Loc} {cells slots : Nat} (X : Stand p l e R s m args below meth c T locs cells slots) (a : Addr) {g : JFrame} (hg : g.method = m) {cell : Cell} (hcell : T.heap[a]? = some cell) (hobj : cell.vm.isStatics = false) (hk : ∃ z, s.vm.classes[cell.cls]? = some z)
    (pre : List ExceptionTableEntry) (x : ExceptionTableEntry) (suf : List ExceptionTableEntry) (hsplit : c.exceptionTable.toList = pre ++ x :: suf) (hno : ∀ y ∈ pre, xc_No e.platform s m.cls g.pc cell.cls y) (hx : covers x g.pc = true) (h0 : x.catchType ≠ 0) {k : ClassId}
    (hl : s.vm.ClassLinks e.platform m.cls x.catchType k) (hfit : s.vm.assignable cell.cls k = true) :
    ∃ vm', Stand p l e R s m args below meth c (T.setVm vm') locs cells slots ∧ Steps p.tables e below ((T.setTop g).pushFrame (.throwing a)) ((T.setVm vm').setTop { g with pc := x.handlerPc, stack := [.ref a] }) := by
  subst hg
  obtain ⟨vm', hW', hq⟩ := xc_go (e := e) (f := g) (a := a) (cell := cell) (fun z hz => by rw [hz] at hobj; cases hobj) hk x suf hx h0 hl hfit pre ((T.setTop g).pushFrame (.throwing a)) X.warmed hcell hno
  have hf : xc_Finds e ((T.setTop g).pushFrame (.throwing a)) g a (.found x.handlerPc) vm' := fun Q E d acts => by
    rw [Jvm.W.findHandler_eq (s := (T.setTop g).pushFrame (.throwing a)) (meth := meth) (code := c) X.method' X.code, hsplit]
    exact hq Q E d acts
  refine ⟨vm', X.noted hW', ?_⟩
  obtain ⟨hgo, hw⟩ := X.here.throwing a
  refine Steps.head hgo hw ?_
  rw [stepThread_throwing (frames_entered X.here.top _), (xc_step (s := (T.setTop g).pushFrame (.throwing a)) hf).1]
  obtain ⟨g₀, hg0⟩ := Option.isSome_iff_exists.mp X.here.top
  obtain ⟨r, hr⟩ := State.topJava?_eq_some.mp hg0
  have hr' : (T.setVm vm').frames = .java g₀ :: r := hr
  rw [State.setTop_of_frames _ hr', hr, List.tail_cons, State.pushFrame, xc_frames, State.setTop_of_frames _ hr, xc_frames]
  exact Steps.refl _
