section XTH
variable {p : Program} {l : Launch} {e : Env} {R : Room} {s : State} {m : MethodId} {args : Array Value} {below : List Frame} {meth : Method} {c : Code} {H : Heap} {locs : List Loc} {cells slots : Nat} {Q : State → Prop}
/-- what isn't a word of the tables among the words of a throw -/
def x_sp : List Cond := [.isRef (.static Bundle.tN "UNASSIGNED_STACK" Bundle.steD), .isRef (.static Bundle.tN "SUPPRESSED_SENTINEL" Bundle.listD), .laysStatic Bundle.tN "UNASSIGNED_STACK" Bundle.steD, .laysStatic Bundle.tN "SUPPRESSED_SENTINEL" Bundle.listD] ++ x_cast.map (fun c => Cond.castable c c) ++ x_decl.map Cond.declares
def x_up : List String := ["java/lang/RuntimeException", "java/lang/Exception"]
theorem x_sp_at {A : Nat → Prop} (hZ : x_Z A s s.heap) (hN : x_N s) : ∀ w ∈ x_sp, w.before args s = true := by
  intro w hw
  unfold x_sp at hw
  rcases List.mem_append.mp hw with hw | hw
  · rcases List.mem_append.mp hw with hw | hw
    · simp only [List.mem_cons, List.not_mem_nil, or_false] at hw
      rcases hw with rfl | rfl | rfl | rfl
      · exact hZ.1.isRef
      · exact hZ.2.isRef
      · exact hZ.1.lays
      · exact hZ.2.lays
    · obtain ⟨c0, hc0, rfl⟩ := List.mem_map.mp hw
      exact va_Nw.use rfl (hN.1 c0 hc0)
  · obtain ⟨y, hy, rfl⟩ := List.mem_map.mp hw
    exact va_Nw.use rfl (hN.2.1 y hy)
/-- an exception that SureFunctions throws: its class's and its constructor's numbers in the pool -/
def x_Ex (E : String) (ik ic : Nat) : Prop := Bundle.fit E = true ∧ (∀ w ∈ Bundle.ownAtoms R_Fu ic E x_up, w ∈ gw ∨ w ∈ x_sp) ∧ Cond.classLink R_Fu ik E ∈ gw ∧ Cond.initialized E ∈ gw
theorem x_frame {s U : State} {k n : Nat} (h : s.sameButNew U [] k n) : s.heap.size ≤ U.heap.size ∧ ∀ q : Nat, q < s.heap.size → U.heap[q]? = s.heap[q]? := by
  obtain ⟨-, h1, -, -, -, h2⟩ := h
  refine ⟨h1, fun q hq => ?_⟩
  obtain ⟨c0, hc0⟩ : ∃ c0, s.heap[q]? = some c0 := ⟨s.heap[q], Array.getElem?_eq_getElem hq⟩
  obtain ⟨c1, g1, g2, g3, g4⟩ := h2 q c0 hc0
  rw [g1, hc0]
  have e1 : c1.slots = c0.slots := by
    apply Array.ext_getElem?
    intro i
    exact g4 i (fun z => nomatch z)
  rw [g2, e1]
theorem x_throw {cc : ByteArray} {pc ik is ic : Nat} {lsA : Array Slot} {A : Nat → Prop} {E text : String} (hexec : p.tables.exec = Jvm.exec) (hb : c.code = cc) (hl : l.stackTraces = false) (hown : s.vm.findClass R_Fu = some m.cls) (hts : ∀ w ∈ gw, w.before args s = true) (hN : x_N s) (hZ : x_Z A s s.heap) (hS : va_S A s.heap H locs) (hsize : lsA.size = c.maxLocals) (hlocks : meth.locks = false)
    (hout : ∀ x ∈ c.exceptionTable.toList, covers x (pc + 9) = false) (hE : x_Ex E ik ic) (hstr : (is, text) ∈ x_str)
    (d0 : decode cc pc = .ok (.new ik, 3)) (d3 : decode cc (pc + 3) = .ok (.dup, 1)) (d4 : decode cc (pc + 4) = .ok (.ldc is, 2)) (d6 : decode cc (pc + 6) = .ok (.invokespecial ic, 3)) (d9 : decode cc (pc + 9) = .ok (.athrow, 1))
    (hR : 6 ≤ R.frames ∧ 90 ≤ R.locals) (hRc : cells + 1 ≤ R.cells ∧ slots + 6 ≤ R.slots)
    (k : ∀ (U : State) (q : Nat) (ce : Cell), U.status = .running → Ended U below (.threw q) → H.size ≤ q → U.heap[q]? = some ce → ce.vm = .none → s.vm.findClass E = some ce.cls → s.WarmedH U.vm → s.sameButNew ({ U with vm := s.vm } : State) locs (cells + 1) (slots + 6) → H.size ≤ U.heap.size → (∀ a : Nat, a < H.size → U.heap[a]? = H[a]?) → Q U) :
    W p l e R s m args below meth c H locs cells slots Q (F0 m pc lsA []) := by
  intro T hT X
  subst hT
  have htr : e.platform.stackTraces = false := (show e.platform.stackTraces = l.stackTraces by rw [X.admits.platform]).trans hl
  have Y := x_rebase X 1 6 hRc.1 hRc.2
  obtain ⟨s', hs'⟩ : ∃ z, z = x_at T s m args below := ⟨_, rfl⟩
  rw [← hs'] at Y
  have hvm : s'.vm = s.vm := by rw [hs']; rfl
  have hhp : s'.heap = T.heap := by rw [hs']; rfl
  have hW0 : s.WarmedH s'.vm := by rw [hvm]; exact State.WarmedH.refl s
  have hgw : ∀ w ∈ gw, w.before args s' = true := fun w hw => word_at hW0 (good_of_word (List.mem_filter.mp hw).2) (hts w hw)
  have hZ' : x_Z A s' s'.heap := by rw [hhp]; exact (hZ.kept hS.2.1).moved hW0.alike
  have hN' : x_N s' := x_N.same hvm hN
  have hat : ∀ w ∈ Bundle.ownAtoms R_Fu ic E x_up, w.before args s' = true := fun w hw => (hE.2.1 w hw).elim (hgw w) (x_sp_at hZ' hN' w)
  have hown' : s'.vm.findClass R_Fu = some m.cls := by rw [hvm]; exact hown
  obtain ⟨sa, hsa⟩ := hN'.2.2.2 _ hstr
  obtain ⟨vm₁, cX, kX, hfX, hkX, -, -, X₁, st1⟩ := Y.newCold hexec (own := R_Fu) (C := E) (index := ik) (n := 6) hown' (hgw _ hE.2.2.1) (hat (.instantiable E 6) (by simp [Bundle.ownAtoms])) (hgw _ hE.2.2.2)
    (g := F0 m pc lsA []) rfl (by rw [hb]; exact d0) (Nat.le_refl _) (Nat.le_refl _)
  generalize hT1 : (T.setVm vm₁).pushCell { cls := cX, slots := kX.instanceTypes.map defaultValue, vm := .none } = T1 at X₁ st1
  have hcellA : T1.heap[T.heap.size]? = some (freshCell cX kX) := by rw [← hT1]; exact State.heap_pushCell_size _ _
  have d3' : decode c.code (pc + 3) = .ok (.dup, 1) := by rw [hb]; exact d3
  have d4' : decode c.code (pc + 4) = .ok (.ldc is, 2) := by rw [hb]; exact d4
  obtain ⟨U, hsteps, hrun, hend, hW, hsame, ce, hce, hO⟩ := X₁.ctorThrowS hexec htr (own := R_Fu) (cls := E) (names := x_up) (ic := ic) hown' hE.1 (by decide +kernel) hat (fun x hx => nomatch hx) hfX hkX hcellA (by rw [hhp]; exact Nat.le_refl _) (msg := .ref sa) rfl
    (g := { method := m, pc := pc + 6, locals := lsA, stack := .ref sa :: .ref T.heap.size :: .ref T.heap.size :: [], locked := none }) rfl hsize rfl rfl (rest := []) rfl
    (by rw [hb]; exact d6) (by rw [hb]; exact d9) hout (by show 2 + 3 < R.frames; omega) (by show 2 * 0 + (1 + 0) + (13 * (2 + 1) + 42) ≤ R.locals; omega) hlocks
  obtain ⟨f1, f2⟩ := x_frame hsame
  rw [hhp] at f1 f2
  refine ⟨U, ?_, k U T.heap.size ce hrun hend (Nat.le_refl _) hce hO.vm (by have h9 := hO.cls; rw [hvm] at h9; exact h9) (State.WarmedH.trans hW0 hW) ?_ f1 f2⟩
  · refine st1 _ ?_
    show Steps p.tables e below (T1.setTop { method := m, pc := pc + 3, locals := lsA, stack := .ref T.heap.size :: [], locked := none }) _
    jvm_step X₁.here [X₁.here.top, hexec, d3', Value.category]
    exact X₁.ldcString hexec (own := R_Fu) (text := text) (index := is) (a := sa) hown' hsa.1 hsa.2
      (g := { method := m, pc := pc + 4, locals := lsA, stack := .ref T.heap.size :: .ref T.heap.size :: [], locked := none }) rfl d4' _ hsteps
  · subst hs'
    obtain ⟨e1, e2⟩ := hsame
    rw [State.setFrames_setFrames] at e1
    have h2 : (T.setVm s.vm).sameButNew ({ U with vm := s.vm } : State) [] (0 + 1) (0 + 6) := ⟨e1, e2⟩
    have h3 := X.same.trans h2
    rw [List.append_nil] at h3
    exact h3.mono (by omega) (by omega)
theorem x_ex1 : x_Ex x_E1 77 81 := ⟨by decide +kernel, by decide +kernel, by decide +kernel, by decide +kernel⟩
theorem x_ex2 : x_Ex x_E2 88 92 := ⟨by decide +kernel, by decide +kernel, by decide +kernel, by decide +kernel⟩
theorem x_ex3 : x_Ex x_E3 194 198 := ⟨by decide +kernel, by decide +kernel, by decide +kernel, by decide +kernel⟩
end XTH
