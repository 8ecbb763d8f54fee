section XCL
variable {p : Program} {l : Launch} {e : Env} {R : Room} {s : State} {m : MethodId} {args : Array Value} {below : List Frame} {meth : Method} {c : Code} {locs : List Loc} {cells slots : Nat}
/-- what a callee that throws has done: one new cell of six slots, and writes at Lo -/
def x_End (st : State) (o : Outcome) (t : State) (q : Addr) (Lo : List Loc) : Prop := o = .threw q ∧ st.WarmedH t.vm ∧ st.sameButNew ({ t with vm := st.vm } : State) Lo 1 6
theorem x_thrown {U : State} {g : JFrame} {ig : Instr} {len W maxL : Nat} {y : MethodName} {mk : MethodId} {a : Array Value} {ws : List Cond} {rm : Room} {P : Array Value → State → Prop} {Q : Array Value → State → Outcome → State → Prop} {bytes : ByteArray} {ret : Option FieldType} {Z : List Loc → Prop}
    (X : Stand p l e R s m args below meth c U locs cells slots) (hM : MetFree l y (headSpec ws rm) P (fun _ _ _ _ _ => True) Q) (hg : g.method = m) (hsize : g.locals.size = c.maxLocals) (hdg : decode c.code g.pc = .ok (ig, len)) (hW : 2 * g.monitorRoom + (g.stack.map fun v => v.category).sum ≤ W) (hn : U.methodNamed? y = some mk)
    (hcode : (Cond.code y bytes maxL ret).before a U = true) (hini : (Cond.initialized y.cls).before a U = true) (hws : ∀ w ∈ ws, w.before a U = true) (hfr : rm.frames + 1 ≤ R.frames) (hlo : W + (maxL + 11) + rm.locals ≤ R.locals) (hc : cells + rm.cells ≤ R.cells) (hs : slots + rm.slots ≤ R.slots) (hP : P a (U.calling g mk a))
    (hQ : ∀ o t, Q a (U.calling g mk a) o t → ∃ q Lo, x_End (U.calling g mk a) o t q Lo ∧ Z Lo) :
    ∃ (q : Addr) (t T' : State) (Lo : List Loc), Z Lo ∧ Stand p l e R s m args below meth c T' (locs ++ Lo) (cells + 1) (slots + 6) ∧ T'.heap = t.heap ∧ T'.vm = t.vm ∧ Q a (U.calling g mk a) (.threw q) t ∧ Steps p.tables e below (doInvoke e (U.setTop g) [] mk a).1 ((T'.setTop g).pushFrame (.throwing q)) := by
  obtain ⟨methY, cY, hmY, hcY, -, hlY, -, -, -, -⟩ := Cond.code_spec hn hcode
  obtain ⟨kY, hkY, -⟩ := className_of_methodNamed hn
  have hinitY : kY.init = .initialized := Cond.initialized_spec (findClass_of_methodNamed hn) hkY hini
  have h : At U g.method c below := by rw [hg]; exact X.here
  have happ : (headSpec ws rm).appliesLoose y e.platform (U.calling g mk a) = true :=
    Spec.appliesLoose_calling (g := g) h hdg hn hkY hinitY
      (X.room_calling (g := g) (R' := (headSpec ws rm).room) hsize hmY hcY hfr (by rw [hlY]; show 2 * g.monitorRoom + _ + (maxL + 11) + rm.locals ≤ _; omega) hc hs) (atoms_intro hws)
  obtain ⟨mid, hmid⟩ := h.above
  have hfr' : (U.setTop g).frames = (.java g :: mid) ++ below := by rw [State.frames_setTop' g h.top, hmid]; rfl
  obtain ⟨o, s₂, hsteps, -, hend, hq⟩ := Steps.callFree hM p X.admits X.cas X.clock (acts := []) hfr' happ hP trivial
  have hq' : Q a (U.calling g mk a) o s₂ := hq
  obtain ⟨q, Lo, he, hz⟩ := hQ o s₂ hq'
  obtain ⟨ho, hW₂, e2, q2, q3, q4, q5, q6⟩ := id he
  subst ho
  have hf₂ : s₂.frames = .throwing q :: (U.setTop g).frames := hend
  have hW' : U.WarmedH s₂.vm := hW₂
  have e3 : s₂ = ({ (U.calling g mk a).setFrames s₂.frames with heap := s₂.heap, slotsUsed := s₂.slotsUsed } : State).setVm s₂.vm := by
    have : s₂ = ({ s₂ with vm := (U.calling g mk a).vm } : State).setVm s₂.vm := rfl
    rw [e2] at this
    exact this
  obtain ⟨g₀, hg0⟩ := Option.isSome_iff_exists.mp h.top
  obtain ⟨r, hr⟩ := State.topJava?_eq_some.mp hg0
  have hr' : (({ U with heap := s₂.heap, slotsUsed := s₂.slotsUsed } : State).setVm s₂.vm).frames = .java g₀ :: r := hr
  have hs₂ : s₂ = ((({ U with heap := s₂.heap, slotsUsed := s₂.slotsUsed } : State).setVm s₂.vm).setTop g).pushFrame (.throwing q) := by
    refine e3.trans ?_
    have hA : At (({ U with heap := s₂.heap, slotsUsed := s₂.slotsUsed } : State).setVm s₂.vm) g.method c below := (h.setHeapUsed s₂.heap s₂.slotsUsed).setVm hW'.alike
    rw [hf₂, State.calling_eq h.top, State.setFrames_setFrames, State.pushFrame, State.frames_setTop' g hA.top, State.frames_setTop' g h.top, State.setTop_of_frames _ hr', State.setFrames_setFrames]
    rfl
  have hsame : U.sameButNew ({ U with heap := s₂.heap, slotsUsed := s₂.slotsUsed } : State) Lo 1 6 := by
    refine ⟨?_, q2, q3, q4, q5, q6⟩
    obtain ⟨t, ht, -⟩ := State.frames_cons hr
    show ({ U with heap := s₂.heap, slotsUsed := s₂.slotsUsed } : State) = { U.setFrames U.frames with heap := s₂.heap, slotsUsed := s₂.slotsUsed }
    rw [State.setFrames_self ht]
  subst hg
  refine ⟨q, s₂, (({ U with heap := s₂.heap, slotsUsed := s₂.slotsUsed } : State).setVm s₂.vm), Lo, hz,
    ⟨X.admits, X.cas, X.clock, X.frames, X.room, X.hears, X.method, X.code, (X.here.setHeapUsed s₂.heap s₂.slotsUsed).setVm hW'.alike, X.tail, State.WarmedH.trans X.warmed hW', X.limits, X.bytes, X.same.trans (hsame.setVm s.vm)⟩, rfl, rfl, hq', ?_⟩
  rw [← hs₂]
  exact hsteps
end XCL
