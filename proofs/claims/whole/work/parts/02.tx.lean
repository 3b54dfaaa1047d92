/-! The search through a method's rows of handlers, where a row's named kind may still have to be looked up: the tables get warmer on the way. -/
section TX
/-- the search ends with h, and leaves these tables -/
def tx_F (e : Env) (s : State) (f : JFrame) (a : Addr) (h : Handler) (vm' : Vm) : Prop :=
  ∀ (Q : Handler → Pre) (E : CtlPost) (d : Bool) (acts : List Action), wp (findHandler f a) Q E e d acts s ↔ Q h d acts (s.setVm vm')
/-- one row that covers the place and names a kind: it takes the thing, or the search goes on -/
theorem tx_row {Q : Handler → Pre} {E : CtlPost} {e : Env} {d : Bool} {acts : List Action} {s : State} {f : JFrame} {a : Addr} {x : ExceptionTableEntry} {t : List ExceptionTableEntry} {c : ClassId} {cell : Cell}
    (hx : covers x f.pc = true) (h0 : x.catchType ≠ 0) (hl : s.vm.ClassLinks e.platform f.method.cls x.catchType c) (hcell : s.heap[a]? = some cell) (hobj : ∀ k, cell.vm ≠ .statics k)
    (hk : ∃ k, s.vm.classes[cell.cls]? = some k) (hc : ∃ k, s.vm.classes[c]? = some k) :
    wp (findHandler.go f a (x :: t)) Q E e d acts s ↔ (if s.vm.assignable cell.cls c = true then Q (.found x.handlerPc) d acts (s.setVm (s.vm.noted f.method.cls x.catchType (.cls c))) else wp (findHandler.go f a t) Q E e d acts (s.setVm (s.vm.noted f.method.cls x.catchType (.cls c)))) := by
  simp only [covers] at hx
  obtain ⟨ha, ht⟩ := (resolveClass_links e.toSetting hl).op (op := VmOp.resolveClass f.method.cls x.catchType) rfl
  have hal : s.vm.Alike (s.vm.noted f.method.cls x.catchType (.cls c)) := (Vm.Alike.refl s.vm).noted _ _ _
  obtain ⟨k1, hk1⟩ := hk
  obtain ⟨k2, hk2⟩ := hc
  obtain ⟨z1, hz1, -⟩ := hal.2.2 _ _ hk1
  obtain ⟨z2, hz2, -⟩ := hal.2.2 _ _ hk2
  cases hfit : s.vm.assignable cell.cls c <;>
    simp [findHandler.go, hx, h0, ha, ht, hcell, hobj, hz1, hz2, hal.assignable, hfit, VmOp.dirties, VmOp.acts]
/-- the rows ahead don't take it, x does -/
theorem tx_go {e : Env} {s₀ : State} {f : JFrame} {a : Addr} {cell : Cell} (hobj : ∀ k, cell.vm ≠ .statics k) (hk0 : ∃ k, s₀.vm.classes[cell.cls]? = some k)
    (x : ExceptionTableEntry) (suf : List ExceptionTableEntry) (hx : covers x f.pc = true) (h0 : x.catchType ≠ 0) {cx : ClassId} (hlx : s₀.vm.ClassLinks e.platform f.method.cls x.catchType cx) (hfx : s₀.vm.assignable cell.cls cx = true) :
    ∀ (pre : List ExceptionTableEntry) (S : State), s₀.WarmedH S.vm → S.heap[a]? = some cell →
      (∀ y ∈ pre, covers y f.pc = false ∨ (y.catchType ≠ 0 ∧ ∃ c, s₀.vm.ClassLinks e.platform f.method.cls y.catchType c ∧ s₀.vm.assignable cell.cls c = false)) →
      ∃ vm', s₀.WarmedH vm' ∧ ∀ (Q : Handler → Pre) (E : CtlPost) (d : Bool) (acts : List Action), wp (findHandler.go f a (pre ++ x :: suf)) Q E e d acts S ↔ Q (.found x.handlerPc) d acts (S.setVm vm') := by
  obtain ⟨k0, hk0⟩ := hk0
  have one : ∀ (y : ExceptionTableEntry) (c : ClassId) (S : State), s₀.WarmedH S.vm → s₀.vm.ClassLinks e.platform f.method.cls y.catchType c →
      s₀.WarmedH (S.vm.noted f.method.cls y.catchType (.cls c)) ∧ (∃ k, S.vm.classes[cell.cls]? = some k) ∧ (∃ k, S.vm.classes[c]? = some k) := by
    intro y c S hW hl
    obtain ⟨k0', hk0', -⟩ := hW.alike.2.2 _ _ hk0
    obtain ⟨dk, _, _, kt, hd, _, _, _, _, hkt, _, hop⟩ := hl.here
    obtain ⟨kt', hkt', -⟩ := hW.alike.2.2 _ _ hkt
    exact ⟨hW.noted hd hop (State.rightAt_cls hl), ⟨k0', hk0'⟩, ⟨kt', hkt'⟩⟩
  intro pre
  induction pre with
  | nil =>
    intro S hW hcell _
    obtain ⟨w1, w2, w3⟩ := one x cx S hW hlx
    refine ⟨_, w1, fun Q E d acts => ?_⟩
    rw [List.nil_append, tx_row hx h0 (hW.classLinks hlx) hcell hobj w2 w3, if_pos (by rw [hW.alike.assignable]; exact hfx)]
  | cons y ys ih =>
    intro S hW hcell hpass
    have hrest := fun z (hz : z ∈ ys) => hpass z (List.mem_cons_of_mem _ hz)
    by_cases hcov : covers y f.pc = true
    · rcases hpass y List.mem_cons_self with h | ⟨hy0, c, hl, hno⟩
      · rw [h] at hcov; cases hcov
      · obtain ⟨w1, w2, w3⟩ := one y c S hW hl
        obtain ⟨vm', hW', hq⟩ := ih (S.setVm (S.vm.noted f.method.cls y.catchType (.cls c))) w1 hcell hrest
        refine ⟨vm', hW', fun Q E d acts => ?_⟩
        rw [List.cons_append, tx_row hcov hy0 (hW.classLinks hl) hcell hobj w2 w3, if_neg (by rw [hW.alike.assignable, hno]; decide)]
        exact hq Q E d acts
    · obtain ⟨vm', hW', hq⟩ := ih S hW hcell hrest
      refine ⟨vm', hW', fun Q E d acts => ?_⟩
      rw [List.cons_append, W.findHandler_go_skip (by simpa using hcov)]
      exact hq Q E d acts
/-- a throw over the frame g comes to the handler -/
theorem tx_caught {p : Program} {l : Launch} {e : Env} {R : Room} {s : State} {m : MethodId} {args : Array Value} {below : List Frame} {meth : Method} {c : Code} {T : State} {locs : List Loc} {cells slots : Nat}
    (X : Stand p l e R s m args below meth c T locs cells slots) (a : Addr) {g : JFrame} (hg : g.method = m) {cell : Cell} (hcell : T.heap[a]? = some cell) (hobj : cell.vm.isStatics = false) (hk0 : ∃ k, s.vm.classes[cell.cls]? = some k)
    (pre : List ExceptionTableEntry) (x : ExceptionTableEntry) (suf : List ExceptionTableEntry) (hsplit : c.exceptionTable.toList = pre ++ x :: suf)
    (hpass : ∀ y ∈ pre, covers y g.pc = false ∨ (y.catchType ≠ 0 ∧ ∃ k, s.vm.ClassLinks e.platform m.cls y.catchType k ∧ s.vm.assignable cell.cls k = false))
    (hx : covers x g.pc = true) (h0 : x.catchType ≠ 0) {cx : ClassId} (hlx : s.vm.ClassLinks e.platform m.cls x.catchType cx) (hfx : s.vm.assignable cell.cls cx = true) :
    ∃ vm', Stand p l e R s m args below meth c (T.setVm vm') locs cells slots ∧ Steps p.tables e below ((T.setTop g).pushFrame (.throwing a)) ((T.setVm vm').setTop { g with pc := x.handlerPc, stack := [.ref a] }) := by
  subst hg
  obtain ⟨vm', hW', hq⟩ := tx_go (e := e) (s₀ := s) (f := g) (a := a) (VmData.ne_statics_of hobj) hk0 x suf hx h0 hlx hfx pre ((T.setTop g).pushFrame (.throwing a)) X.warmed hcell hpass
  have hfind : tx_F e ((T.setTop g).pushFrame (.throwing a)) g a (.found x.handlerPc) vm' := fun Q E d acts => by
    rw [W.findHandler_eq (show ((T.setTop g).pushFrame (.throwing a)).vm.method? g.method = some meth from X.method') X.code, hsplit]
    exact hq Q E d acts
  refine ⟨vm', X.noted hW', ?_⟩
  obtain ⟨hgo, hw⟩ := X.here.throwing (g := g) a
  refine Steps.head hgo hw ?_
  obtain ⟨g₀, hg0⟩ := Option.isSome_iff_exists.mp X.here.top
  obtain ⟨r, hr⟩ := State.topJava?_eq_some.mp hg0
  have hst : (stepThrowing e ((T.setTop g).pushFrame (.throwing a)) a (.java g :: T.frames.tail)).1 = ((T.setVm vm').setTop { g with pc := x.handlerPc, stack := [.ref a] }) := by
    simp only [stepThrowing, searchFrame, vmDo]
    generalize hres : Sem.go _ e false [] _ = res
    obtain ⟨y, s', as, hgo2, ha, hs'⟩ := First.eq_ok_of' (P := fun y s' => y = Handler.found x.handlerPc ∧ s' = ((T.setTop g).pushFrame (.throwing a)).setVm vm') hres (by simp [hfind _ _ _ _])
    subst ha; subst hs'; rw [hgo2]
    have hr' : (T.setVm vm').frames = .java g₀ :: r := hr
    rw [State.setTop_of_frames _ hr', State.setTop_of_frames _ hr, State.pushFrame]
    simp [hr]
    exact First.setVm_setFrames _ _ _ _
  rw [stepThread_throwing (frames_entered X.here.top _), hst]
  exact Steps.refl _
end TX
