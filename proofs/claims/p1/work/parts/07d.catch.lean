/-! a throw of a callee, caught by the first or the second row of the method's table; the rows' classes may be linked here for the first time -/
section XCT
theorem x_row {e : Env} {S : State} {f : JFrame} {a : Addr} {x : ExceptionTableEntry} {t : List ExceptionTableEntry} {k : ClassId} {cell : Cell} {b : Bool} (hx : covers x f.pc = true) (h0 : x.catchType ≠ 0) (hl : S.vm.ClassLinks e.platform f.method.cls x.catchType k) (hcell : S.heap[a]? = some cell) (hobj : cell.vm = .none)
    (h1 : ∃ c1, S.vm.classes[cell.cls]? = some c1) (h2 : ∃ c2, S.vm.classes[k]? = some c2) (hb : S.vm.assignable cell.cls k = b) (Q : Handler → Jvm.Pre) (E : CtlPost) (d : Bool) (acts : List Action) :
    wp (findHandler.go f a (x :: t)) Q E e d acts S ↔ (if b = true then Q (.found x.handlerPc) d acts (S.setVm (S.vm.noted f.method.cls x.catchType (.cls k))) else wp (findHandler.go f a t) Q E e d acts (S.setVm (S.vm.noted f.method.cls x.catchType (.cls k)))) := by
  have hx2 := hx
  simp only [covers] at hx2
  obtain ⟨u1, u2⟩ := (resolveClass_links e.toSetting hl).op (op := VmOp.resolveClass f.method.cls x.catchType) rfl
  have al : S.vm.Alike (S.vm.noted f.method.cls x.catchType (.cls k)) := (Vm.Alike.refl S.vm).noted _ _ _
  obtain ⟨c1, g1⟩ := h1
  obtain ⟨c2, g2⟩ := h2
  obtain ⟨d1, r1, -⟩ := al.2.2 _ _ g1
  obtain ⟨d2, r2, -⟩ := al.2.2 _ _ g2
  have hobj2 : ∀ z, cell.vm ≠ .statics z := fun z h => by rw [hobj] at h; cases h
  have hb2 : (S.vm.noted f.method.cls x.catchType (.cls k)).assignable cell.cls k = b := by rw [al.assignable]; exact hb
  cases b <;> simp [findHandler.go, hx2, h0, u1, u2, hcell, hobj2, r1, r2, hb2, VmOp.dirties, VmOp.acts]
def x_Fd (e : Env) (S : State) (f : JFrame) (a : Addr) (pc : Nat) (vm' : Vm) : Prop := ∀ (Q : Handler → Jvm.Pre) (E : CtlPost) (d : Bool) (acts : List Action), wp (findHandler f a) Q E e d acts S ↔ Q (.found pc) d acts (S.setVm vm')
/-- a row of the table, as the start's tables have it: its class, and whether it takes the object -/
def x_Rw (pl : Platform) (s : State) (d thrown : ClassId) (pc : Nat) (x : ExceptionTableEntry) (b : Bool) : Prop := covers x pc = true ∧ x.catchType ≠ 0 ∧ ∃ k, s.vm.ClassLinks pl d x.catchType k ∧ s.vm.assignable thrown k = b
theorem x_Rw.use {e : Env} {s S : State} {f : JFrame} {a : Addr} {x : ExceptionTableEntry} {t : List ExceptionTableEntry} {cell : Cell} {b : Bool} (hW : s.WarmedH S.vm) (hcell : S.heap[a]? = some cell) (hobj : cell.vm = .none) (hk : ∃ c1, s.vm.classes[cell.cls]? = some c1) (h : x_Rw e.platform s f.method.cls cell.cls f.pc x b) :
    ∃ vm1, s.WarmedH vm1 ∧ ∀ (Q : Handler → Jvm.Pre) (E : CtlPost) (d : Bool) (acts : List Action), wp (findHandler.go f a (x :: t)) Q E e d acts S ↔ (if b = true then Q (.found x.handlerPc) d acts (S.setVm vm1) else wp (findHandler.go f a t) Q E e d acts (S.setVm vm1)) := by
  obtain ⟨hx, h0, k, hl, hb⟩ := h
  obtain ⟨dk, _, _, kt, hd, _, _, _, _, hkt, _, hopen⟩ := hl.here
  obtain ⟨c1, hk⟩ := hk
  obtain ⟨c1', hk', -⟩ := hW.alike.2.2 _ _ hk
  obtain ⟨kt', hkt', -⟩ := hW.alike.2.2 _ _ hkt
  exact ⟨_, hW.noted hd hopen (State.rightAt_cls hl), fun Q E d acts => x_row hx h0 (hW.classLinks hl) hcell hobj ⟨c1', hk'⟩ ⟨kt', hkt'⟩ (by rw [hW.alike.assignable]; exact hb) Q E d acts⟩
theorem x_fd1 {e : Env} {s S : State} {f : JFrame} {a : Addr} {meth : Method} {code : Code} {x : ExceptionTableEntry} {t : List ExceptionTableEntry} {cell : Cell} (hm : S.vm.method? f.method = some meth) (hc : meth.code = some code) (ht : code.exceptionTable.toList = x :: t) (hW : s.WarmedH S.vm) (hcell : S.heap[a]? = some cell) (hobj : cell.vm = .none) (hk : ∃ c1, s.vm.classes[cell.cls]? = some c1)
    (h : x_Rw e.platform s f.method.cls cell.cls f.pc x true) : ∃ vm1, s.WarmedH vm1 ∧ x_Fd e S f a x.handlerPc vm1 := by
  obtain ⟨vm1, w1, q1⟩ := x_Rw.use (t := t) hW hcell hobj hk h
  refine ⟨vm1, w1, fun Q E d acts => ?_⟩
  rw [W.findHandler_eq hm hc, ht, q1 Q E d acts, if_pos rfl]
theorem x_fd2 {e : Env} {s S : State} {f : JFrame} {a : Addr} {meth : Method} {code : Code} {x y : ExceptionTableEntry} {t : List ExceptionTableEntry} {cell : Cell} (hm : S.vm.method? f.method = some meth) (hc : meth.code = some code) (ht : code.exceptionTable.toList = y :: x :: t) (hW : s.WarmedH S.vm) (hcell : S.heap[a]? = some cell) (hobj : cell.vm = .none) (hk : ∃ c1, s.vm.classes[cell.cls]? = some c1)
    (hy : x_Rw e.platform s f.method.cls cell.cls f.pc y false) (hx : x_Rw e.platform s f.method.cls cell.cls f.pc x true) : ∃ vm1, s.WarmedH vm1 ∧ x_Fd e S f a x.handlerPc vm1 := by
  obtain ⟨vm1, w1, q1⟩ := x_Rw.use (t := x :: t) hW hcell hobj hk hy
  obtain ⟨vm2, w2, q2⟩ := x_Rw.use (S := S.setVm vm1) (t := t) w1 hcell hobj hk hx
  refine ⟨vm2, w2, fun Q E d acts => ?_⟩
  rw [W.findHandler_eq hm hc, ht, q1 Q E d acts, if_neg (by decide), q2 Q E d acts, if_pos rfl]
  exact Iff.rfl
theorem x_caught {tb : Tables} {e : Env} {T target : State} {g : JFrame} {c : Code} {below : List Frame} {a : Addr} {pc : Nat} {vm' : Vm} (h : At T g.method c below) (hf : x_Fd e ((T.setTop g).pushFrame (.throwing a)) g a pc vm')
    (hr : Steps tb e below ((T.setVm vm').setTop { g with pc := pc, stack := [.ref a] }) target) : Steps tb e below ((T.setTop g).pushFrame (.throwing a)) target := by
  obtain ⟨hgo, hw⟩ := h.throwing a
  refine Steps.head hgo hw ?_
  have hstep : ∀ (S : State) (r : List Frame), x_Fd e S g a pc vm' → (stepThrowing e S a (.java g :: r)).Is ((S.setVm vm').setFrames (.java { g with pc := pc, stack := [.ref a] } :: r)) [] := by
    intro S r hS
    simp only [stepThrowing, searchFrame, vmDo]
    generalize hq : Sem.go _ e false [] S = res
    obtain ⟨as, rfl, ha⟩ := Sem.eq_ok_of hq (a := Handler.found pc) (s' := S.setVm vm') (acts' := []) (by simp [hS _ _ _ _])
    exact ⟨rfl, ha⟩
  rw [stepThread_throwing (frames_entered h.top _), (hstep _ _ hf).1]
  obtain ⟨g₀, hg⟩ := Option.isSome_iff_exists.mp h.top
  obtain ⟨r, hr0⟩ := State.topJava?_eq_some.mp hg
  have hr1 : (T.setVm vm').frames = .java g₀ :: r := hr0
  have hsw : ∀ (u : State) (F G : List Frame), ((u.setFrames F).setVm vm').setFrames G = (u.setVm vm').setFrames G := fun u F G => by
    show ((u.setVm vm').setFrames F).setFrames G = _
    rw [State.setFrames_setFrames]
  rw [State.setTop_of_frames _ hr1] at hr
  rw [hr0, List.tail_cons, State.pushFrame, hsw, State.setTop_of_frames _ hr0, hsw]
  exact hr
end XCT
