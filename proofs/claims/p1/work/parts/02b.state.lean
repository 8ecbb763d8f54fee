/-! what the tables and the statics hold that a throw needs, carried from state to state -/
section XST
def x_S (n d : String) (A : Nat → Prop) (U : State) (H : Heap) : Prop := ∃ (c : ClassId) (k : Class) (i : Nat) (f : Field) (a : Nat) (cell : Cell) (v : Value), U.vm.findClass Bundle.tN = some c ∧ U.fieldFound? Bundle.tN n d = some (c, k, i, f) ∧ f.isStatic = true ∧ k.statics = some a ∧ H[a]? = some cell ∧ cell.vm.isStatics = true ∧ cell.cls = c ∧ f.slot < cell.slots.size ∧ k.staticTypes[f.slot]? = some f.type ∧ cell.slots[f.slot]? = some v ∧ v.isRef = true ∧ ¬ A a
theorem x_S.moved {n d : String} {A : Nat → Prop} {u U : State} {H : Heap} (hvm : u.vm.Alike U.vm) (h : x_S n d A u H) : x_S n d A U H := by
  obtain ⟨c, k, i, f, a, cell, v, h0, h1, h2, h3, h4, h5, h6, h7, h8, h9⟩ := h
  obtain ⟨k', hi', he⟩ := State.fieldFound?_setVm hvm h1
  exact ⟨c, k', i, f, a, cell, v, by rw [hvm.findClass]; exact h0, hi', h2, by rw [he]; exact h3, h4, h5, h6, h7, by rw [he]; exact h8, h9⟩
theorem x_S.kept {n d : String} {A : Nat → Prop} {U : State} {H H1 : Heap} (h : x_S n d A U H) (hq : ∀ a : Nat, a < H.size → ¬ A a → H1[a]? = H[a]?) : x_S n d A U H1 := by
  obtain ⟨c, k, i, f, a, cell, v, h0, h1, h2, h3, h4, h5, h6, h7, h8, h9, h10, h11⟩ := h
  exact ⟨c, k, i, f, a, cell, v, h0, h1, h2, h3, by rw [hq a (Array.getElem?_eq_some_iff.mp h4).1 h11]; exact h4, h5, h6, h7, h8, h9, h10, h11⟩
theorem x_S.narrow {n d : String} {A B : Nat → Prop} {U : State} {H : Heap} (h : x_S n d A U H) (hAB : ∀ q, B q → A q) : x_S n d B U H := by
  obtain ⟨c, k, i, f, a, cell, v, h0, h1, h2, h3, h4, h5, h6, h7, h8, h9, h10, h11⟩ := h
  exact ⟨c, k, i, f, a, cell, v, h0, h1, h2, h3, h4, h5, h6, h7, h8, h9, h10, fun z => h11 (hAB a z)⟩
theorem x_S.lays {n d : String} {A : Nat → Prop} {U : State} {args : Array Value} (h : x_S n d A U U.heap) : (Cond.laysStatic Bundle.tN n d).before args U = true := by
  obtain ⟨c, k, i, f, a, cell, v, h0, h1, h2, h3, h4, h5, h6, h7, h8, h9, h10, h11⟩ := h
  simp [Cond.before, Cond.holds, Cond.value, h0, h1, h2, h3, h4, h5, h6, h7, h8]
theorem x_S.isRef {n d : String} {A : Nat → Prop} {U : State} {args : Array Value} (h : x_S n d A U U.heap) : (Cond.isRef (.static Bundle.tN n d)).before args U = true := by
  obtain ⟨c, k, i, f, a, cell, v, h0, h1, h2, h3, h4, h5, h6, h7, h8, h9, h10, h11⟩ := h
  have e : (Term.static Bundle.tN n d).eval args U none [] U = some v := by
    simp [Term.eval, State.fieldNamed?, h1, h2, h3, h4, h5, h9]
  cases v <;> simp [Value.isRef] at h10 <;> simp [Cond.before, Cond.holds, Cond.value, e]
def x_Z (A : Nat → Prop) (U : State) (H : Heap) : Prop := x_S "UNASSIGNED_STACK" Bundle.steD A U H ∧ x_S "SUPPRESSED_SENTINEL" Bundle.listD A U H
theorem x_Z.moved {A : Nat → Prop} {u U : State} {H : Heap} (hvm : u.vm.Alike U.vm) (h : x_Z A u H) : x_Z A U H := ⟨h.1.moved hvm, h.2.moved hvm⟩
theorem x_Z.kept {A : Nat → Prop} {U : State} {H H1 : Heap} (h : x_Z A U H) (hq : ∀ a : Nat, a < H.size → ¬ A a → H1[a]? = H[a]?) : x_Z A U H1 := ⟨h.1.kept hq, h.2.kept hq⟩
theorem x_Z.narrow {A B : Nat → Prop} {U : State} {H : Heap} (h : x_Z A U H) (hAB : ∀ q, B q → A q) : x_Z B U H := ⟨h.1.narrow hAB, h.2.narrow hAB⟩
/-- no cell that may be written is one of statics -/
def x_no (A : Nat → Prop) (s : State) : Prop := ∀ q, A q → ∀ cell, s.heap[q]? = some cell → cell.vm.isStatics = false
theorem x_no_of {D : va_G} {cl : List vw_C} {ws : va_W} {s : State} (h : va_P D cl ws s.heap) : x_no (va_A ws s.heap.size) s := by
  intro q hq cell hc
  rcases hq with ⟨k, e, hk⟩ | hq
  · have h1 := h k (q, e) hk
    rcases e with ⟨cA, n, a⟩ | o
    · have h2 : s.heap[q]? = some (vp_cell cA (n, a)) := h1
      rw [hc] at h2
      cases h2
      rcases a with f | f | f | f | f <;> rfl
    · obtain ⟨r, -, cell', h2, -, h3, -⟩ := h1
      have h4 : s.heap[q]? = some cell' := h2
      rw [hc] at h4
      cases h4
      rw [h3]
      rfl
  · have := (Array.getElem?_eq_some_iff.mp hc).1
    omega
def x_E1 : String := "java/lang/IllegalArgumentException"
def x_E2 : String := "java/lang/IllegalStateException"
def x_E3 : String := "java/lang/IndexOutOfBoundsException"
def x_cast : List String := [x_E1, x_E2, x_E3]
def x_decl : List MethodName := [Bundle.initS "java/lang/RuntimeException", Bundle.initS "java/lang/Exception", Bundle.initS Bundle.tN]
def x_nc : List (String × String) := [(x_E1, x_E2), (x_E2, x_E1)]
def x_str : List (Nat × String) := [(79, "no such type"), (90, "there are eight constructors"), (97, "there are six functions"), (99, "no such variable"), (102, "there are 100 terms"), (118, "no such constructor or part, or too high or great"), (124, "no such function or argument, or too high or great"), (133, "no such function or term, or no clause"), (137, "there are six clauses of the function, or 24 in all"), (150, "no such clause"), (156, "no such call"), (162, "no such argument"), (181, "the program is not checked, or wrong"), (186, "no such function, or an argument is no value of its type"), (196, "no such constructor of an answer")]
def x_N (U : State) : Prop := (∀ c ∈ x_cast, va_Nw (.castable c c) U) ∧ (∀ y ∈ x_decl, va_Nw (.declares y) U) ∧ (∀ q ∈ x_nc, va_Nc q.1 q.2 U) ∧ ∀ q ∈ x_str, ∃ a, vk_R R_Fu q.1 q.2 a U
theorem x_N.moved {s U : State} (hW : s.WarmedH U.vm) (h : x_N s) : x_N U :=
  ⟨fun c hc => va_Nw.warmC hW (h.1 c hc), fun y hy => va_Nw.warmD hW (h.2.1 y hy), fun q hq => (h.2.2.1 q hq).moved hW.alike, fun q hq => by
    obtain ⟨a, ha⟩ := h.2.2.2 q hq
    exact ⟨a, vk_R.warm hW ha⟩⟩
theorem x_N.same {u U : State} (hv : U.vm = u.vm) (h : x_N u) : x_N U :=
  ⟨fun c hc => va_Nw.same rfl hv.symm (h.1 c hc), fun y hy => va_Nw.same rfl hv.symm (h.2.1 y hy), fun q hq => (h.2.2.1 q hq).moved (by rw [hv]; exact Vm.Alike.refl _), fun q hq => by
    obtain ⟨a, ha⟩ := h.2.2.2 q hq
    exact ⟨a, vk_R.same hv ha⟩⟩
end XST
