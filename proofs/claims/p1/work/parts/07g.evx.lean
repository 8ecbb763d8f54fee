section XEV
variable {Me : g_Me} {R : Room} {Fi : g_Fin} {pc q : Nat} {ls : g_Ls} {st : List g_v} {L : g_L} {M : g_M} {nc ns : Nat}
abbrev x_rows (c : Code) : List (Nat × Nat × Nat × Nat) := c.exceptionTable.toList.map (fun h => (h.startPc, h.endPc, h.handlerPc, h.catchType))
/-- a method with a table of handlers, in a launch without stack traces -/
def x_tab (hh : List (Nat × Nat × Nat × Nat)) : Launch → State → Code → (Nat → Prop) → Prop := fun l _ c _ => l.stackTraces = false ∧ x_rows c = hh
/-- which row catches an E at pc: the first, or the second where the first names a class that E isn't -/
def x_Hit (own : String) (hh : List (Nat × Nat × Nat × Nat)) (pc : Nat) (E : String) (hp : Nat) : Prop :=
  (∃ (a b ct : Nat) (t : List (Nat × Nat × Nat × Nat)), hh = (a, b, hp, ct) :: t ∧ a ≤ pc ∧ pc < b ∧ ct ≠ 0 ∧ Cond.classLink own ct E ∈ gw ∧ E ∈ x_cast) ∨
  ∃ (a b ct a1 b1 h1 ct1 : Nat) (E1 : String) (t : List (Nat × Nat × Nat × Nat)), hh = (a1, b1, h1, ct1) :: (a, b, hp, ct) :: t ∧ (a ≤ pc ∧ pc < b ∧ ct ≠ 0 ∧ Cond.classLink own ct E ∈ gw ∧ E ∈ x_cast) ∧ a1 ≤ pc ∧ pc < b1 ∧ ct1 ≠ 0 ∧ Cond.classLink own ct1 E1 ∈ gw ∧ (E, E1) ∈ x_nc
theorem x_Rw.hit {e : Env} {s : State} {m : MethodId} {args : Array Value} {own E : String} {x : ExceptionTableEntry} {thrown : ClassId} (hpl : e.platform.magicAccessors = ({} : Platform).magicAccessors) (hown : s.vm.findClass own = some m.cls) (hts : ∀ w ∈ gw, w.before args s = true) (hN : x_N s) (ht : s.vm.findClass E = some thrown) (h1 : x.startPc ≤ pc) (h2 : pc < x.endPc) (h3 : x.catchType ≠ 0) (h4 : Cond.classLink own x.catchType E ∈ gw) (h5 : E ∈ x_cast) : x_Rw e.platform s m.cls thrown pc x true := by
  obtain ⟨k, hk, hl⟩ := Cond.classLink_spec hown (hts _ h4) e.platform hpl
  obtain ⟨c3, c4, g3, g4, g5⟩ := Cond.castable_spec (va_Nw.use (A := args) rfl (hN.1 E h5))
  cases Option.some.inj (g3.symm.trans ht)
  cases Option.some.inj (g4.symm.trans ht)
  cases Option.some.inj (hk.symm.trans ht)
  exact ⟨by simp [covers, h1, h2], h3, _, hl, g5⟩
theorem x_Rw.pass {e : Env} {s : State} {m : MethodId} {args : Array Value} {own E E1 : String} {x : ExceptionTableEntry} {thrown : ClassId} (hpl : e.platform.magicAccessors = ({} : Platform).magicAccessors) (hown : s.vm.findClass own = some m.cls) (hts : ∀ w ∈ gw, w.before args s = true) (hN : x_N s) (ht : s.vm.findClass E = some thrown) (h1 : x.startPc ≤ pc) (h2 : pc < x.endPc) (h3 : x.catchType ≠ 0) (h4 : Cond.classLink own x.catchType E1 ∈ gw) (h5 : (E, E1) ∈ x_nc) : x_Rw e.platform s m.cls thrown pc x false := by
  obtain ⟨k, hk, hl⟩ := Cond.classLink_spec hown (hts _ h4) e.platform hpl
  obtain ⟨c3, c4, g3, g4, g5⟩ := hN.2.2.1 _ h5
  cases Option.some.inj (g3.symm.trans ht)
  cases Option.some.inj (g4.symm.trans hk)
  exact ⟨by simp [covers, h1, h2], h3, _, hl, g5⟩
theorem x_find {e : Env} {s S : State} {f : JFrame} {m : MethodId} {a : Addr} {args : Array Value} {meth : Method} {code : Code} {cell : Cell} {own E : String} {hh : List (Nat × Nat × Nat × Nat)} {hp : Nat} (hpl : e.platform.magicAccessors = ({} : Platform).magicAccessors) (hf : f.method = m) (hfp : f.pc = pc) (hown : s.vm.findClass own = some m.cls) (hts : ∀ w ∈ gw, w.before args s = true) (hN : x_N s) (ht : s.vm.findClass E = some cell.cls)
    (hm : S.vm.method? f.method = some meth) (hc : meth.code = some code) (hW : s.WarmedH S.vm) (hcell : S.heap[a]? = some cell) (hobj : cell.vm = .none) (hr : x_rows code = hh) (h : x_Hit own hh pc E hp) : ∃ vm1, s.WarmedH vm1 ∧ x_Fd e S f a hp vm1 := by
  subst hf
  subst hfp
  have hk : ∃ c1, s.vm.classes[cell.cls]? = some c1 := Vm.classAt_of_findClass ht
  rcases h with ⟨a0, b0, ct, t, rfl, h1, h2, h3, h4, h5⟩ | ⟨a0, b0, ct, a1, b1, hp1, ct1, E1, t, rfl, ⟨h1, h2, h3, h4, h5⟩, k1, k2, k3, k4, k5⟩
  · obtain ⟨x, t', e1, e2, e3⟩ := List.map_eq_cons_iff.mp hr
    cases e2
    exact x_fd1 hm hc e1 hW hcell hobj hk (x_Rw.hit hpl hown hts hN ht h1 h2 h3 h4 h5)
  · obtain ⟨y, t1, e1, e2, e3⟩ := List.map_eq_cons_iff.mp hr
    obtain ⟨x, t2, f1, f2, f3⟩ := List.map_eq_cons_iff.mp e3
    cases e2
    cases f2
    subst f1
    exact x_fd2 hm hc e1 hW hcell hobj hk (x_Rw.pass hpl hown hts hN ht k1 k2 k3 k4 k5) (x_Rw.hit hpl hown hts hN ht h1 h2 h3 h4 h5)
theorem ev_callVX {idx maxL ci k hp : Nat} {y : MethodName} {ws : List Cond} {rm : Room} {fsr : List g_F} {As st0 : List g_v} {M' : g_M} {E : String} {hh : List (Nat × Nat × Nat × Nat)} (h : decode Me.2.1 pc = .ok (.invokevirtual idx, 3)) (hT : Me.2.2.2.2.1 = x_tab hh) (hH9 : x_Hit Me.1 hh pc E hp) (hC : g_CV Me.1 idx y ws As.length maxL ci) (hM : CoX y ws rm L M (g_r k :: As) M' E)
    (hR : rm.frames + 1 ≤ R.frames ∧ 8 + (maxL + 11) + rm.locals ≤ R.locals) (hcs : nc + rm.cells ≤ R.cells ∧ ns + rm.slots ≤ R.slots) (hk : L[k]? = some (.inr (ci, fsr))) (hnj : As.all g_nj = true) (hs : st0 = (g_r k :: As).reverse ++ st) (hst : (st.map g_cw).sum ≤ 8)
    (kk : ∀ x : Nat, Ev Me R Fi hp ls [g_o x] L M' (nc + 1) (ns + 6)) : Ev Me R Fi pc ls st0 L M nc ns := by
  intro p l e s m args below meth c Q D cs A C0 ad H locs lsA hH hV hF
  obtain ⟨⟨bytes, ret, ws', hw⟩, hG, hd, T0, N0, hc⟩ := hC
  obtain ⟨hltr, htab⟩ : l.stackTraces = false ∧ x_rows c = hh := by
    have := C0.2.2.2.2.2.1.2.2
    rw [hT] at this
    exact this
  have hav : ∀ v ∈ g_r k :: As, g_okl L.length v := by
    intro v hv
    refine g_nj_okl ?_ (hV.2.2 v (by rw [hs]; exact List.mem_append_left _ (List.mem_reverse.mpr hv)))
    rcases List.mem_cons.mp hv with rfl | hv
    · rfl
    · exact List.all_eq_true.mp hnj v hv
  have hts := C0.1.2.2.2.2
  have hexec := C0.1.1
  have hown := C0.1.2.2.2.1
  obtain ⟨⟨-, -, -, -, hwsU, hcw, hcode, hini, hy, hlen, hlink⟩, hinst, hsel⟩ := cwV (rm := rm) (R := R) As.length hts hG hw rfl rfl ⟨rfl, hd⟩ hR
  obtain ⟨cellB, hcB, hoB, hclB⟩ := va_recv C0.2.2.2.1.1 hH.1 hc (g_W_at hk)
  intro T hTh X
  subst hTh
  obtain ⟨mk, methM, hnamed, hmethM, hstM, habM⟩ := Cond.instanceMethod_spec hinst
  obtain ⟨methM', cM, hmethM', -, -, -, -, -, -, hsigM⟩ := Cond.code_spec hnamed hcode
  cases hmethM.symm.trans hmethM'
  obtain ⟨c2, r2, m2, z1, z2, z3, z4, kP, hkP, hkPi⟩ := Cond.selects_spec hsel
  cases hclB.symm.trans z1
  cases (State.methodFound?_of_named hnamed hy).symm.trans z2
  cases hnamed.symm.trans z3
  have hselP : selectMethod e.platform s.vm cellB.cls mk = .method mk := by rw [Launch.admits_selectMethod X.admits]; exact z4
  obtain ⟨vm₁, X₁, hstep₁⟩ := X.invokevirtual hexec hown hlink hnamed hmethM hstM hkP hkPi hy (a := ad k) (cell := cellB) hcB (fun z h9 => by rw [h9] at hoB; cases hoB) hselP hmethM habM hkP hkPi (g := F0 m pc lsA (st0.map (g_val ad))) rfl (argsL := As.map (g_val ad)) (rest := st.map (g_val ad)) (by rw [List.length_map]; exact hlen _ hsigM) (by rw [hs]; simp [g_val]) (by rw [C0.1.2.1]; exact h)
  have hWm := X₁.warmed
  obtain ⟨x, t, T', Lo, hLo, X2, eh, ev, hq, hst2⟩ := x_thrown (Z := fun Lo => ∀ x ∈ Lo, va_A (g_W cs ad L M) T.heap.size x.base) (g := F0 m pc lsA (st.map (g_val ad))) (a := (Value.ref (ad k) :: As.map (g_val ad)).toArray) X₁ (hM hH.2.2.2.1 hH.2.2.2.2 hav l hltr D cs ad T.heap.size) rfl (by rw [C0.1.2.2.1]; exact hV.1.1) (by rw [C0.1.2.1]; exact h) (lv_room (by rw [g_cw_sum]; exact hst)) (X₁.named hnamed)
    (hwsU _ hcw _ _ hWm) (word_at hWm (Or.inl (by first | rfl | simp [Cond.onTables, Cond.keeps, Cond.steady])) hini) (fun w hw9 => hwsU w hw9 _ _ hWm) hR.1 hR.2 hcs.1 hcs.2
    (g_blind _ _ _ _ (g_preC (av := g_r k :: As) C0.2.2.2.1 C0.2.2.2.2.2.1.1 C0.2.2.2.2.1 hH (T.setVm vm₁) rfl hWm))
    (fun o t ho => by obtain ⟨q9, ce9, Lo9, h9, -, -, -, -, -, -, -, -, -, h8⟩ := ho; exact ⟨q9, Lo9, h9, h8⟩)
  obtain ⟨q1, ce, Lo1, hend1, hnew, hce, hcv, hcl, hP1, hD1, hrg1, hwf1, hF1, hLo1⟩ := hq
  obtain ⟨ho1, -, hsb1⟩ := hend1
  cases ho1
  have hA1 := g_A1 hH C0.2.2.2.2.1
  have hpl : e.platform.magicAccessors = ({} : Platform).magicAccessors := by rw [X.admits.platform]
  have hclE : s.vm.findClass E = some ce.cls := by
    have h9 : (T.setVm vm₁).vm.findClass E = some ce.cls := hcl
    rw [← hWm.alike.findClass]
    exact h9
  obtain ⟨vm2, hW2, hfd⟩ := x_find (e := e) (s := s) (S := (T'.setTop (F0 m pc lsA (st.map (g_val ad)))).pushFrame (.throwing x)) (f := F0 m pc lsA (st.map (g_val ad))) (a := x) (meth := meth) (code := c) (cell := ce) hpl rfl rfl hown hts C0.2.2.2.1.2.2 hclE
    (by rw [Stand.throwing_vm]; exact X2.method') X.code (by rw [Stand.throwing_vm]; exact X2.warmed) (by rw [Stand.throwing_heap, eh]; exact hce) hcv htab hH9
  have hS1 : va_S A s.heap T'.heap (locs ++ Lo) := by
    refine ⟨Nat.le_trans hH.2.2.1.1 (by rw [eh]; exact hF1.1), fun z z1 z2 => ?_, fun z hz => ?_⟩
    · rw [eh, hF1.2 z (Nat.lt_of_lt_of_le z1 hH.2.2.1.1) (fun w => z2 (hA1 z w))]
      exact hH.2.2.1.2.1 z z1 z2
    · rcases List.mem_append.mp hz with h9 | h9
      · exact hH.2.2.1.2.2 z h9
      · exact hA1 _ (hLo z h9)
  obtain ⟨t2, b1, b2⟩ := kk x p l e s m args below meth c Q D cs A C0 ad T'.heap (locs ++ Lo) lsA ⟨by rw [eh]; exact hP1, hD1.weaken (fun _ z _ h9 => hA1 z.1 h9), hS1, hrg1, hwf1⟩ (g_V_st hV (fun v hv => by rw [List.mem_singleton.mp hv]; exact trivial)) hF (T'.setVm vm2) rfl (X2.noted hW2)
  refine ⟨t2, hstep₁ _ (fun acts => ?_), b2⟩
  rw [doInvoke_state]
  exact hst2.trans (x_caught X2.here hfd b1)
/-- a contract of a method in a launch without stack traces -/
def ConL (y : MethodName) (ws : List Cond) (rm : Room) (L : g_L) (M : g_M) (av : List g_v) (L' : g_L) (M' : g_M) (r : Option g_v) : Prop :=
  (∀ k j, g_rg (M k j)) → g_wf L → (∀ v ∈ av, g_okl L.length v) → ∀ (l : Launch), l.stackTraces = false → ∀ (D : va_G) (cs : g_cs) (ad : Nat → Nat) (sz : Nat),
    Met l y ws rm (g_Pre D cs ad L M av sz) (g_Post D cs (va_A (g_W cs ad L M) sz) ad L.length L' M' r) rm.cells rm.slots (va_A (g_W cs ad L M) sz)
theorem conW_of {y : MethodName} {ws ws' : List Cond} {rm : Room} {bytes : ByteArray} {maxL : Nat} {ret : Option FieldType} {hh : List (Nat × Nat × Nat × Nat)} {av : List g_v} {ls0 : g_Ls} {L' : g_L} {M' : g_M} {r : Option g_v} (hy : plainName y.cls = true) (hw : ws = Cond.codeWith y bytes maxL ret hh :: ws') (hlen : av.length ≤ maxL) (hls : ∀ (i : Nat) (v : g_v), ls0[i]? = some (some v) → av[i]? = some v)
    (hgw : ∀ w ∈ gw, w ∈ ws) (hE : Ev (y.cls, bytes, maxL, ret, x_tab hh, y.name) rm (g_fin bytes ret rm.cells rm.slots L' M' r) 0 ls0 [] L M 0 0) : ConL y ws rm L M av L' M' r := by
  intro hRg hwf hav l hltr D cs ad sz
  refine va_MetW (cc := bytes) (maxL := maxL) (ret := ret) (hh := hh) hy hw ?_
  intro p e s m args below meth c s₁ B hml hv
  obtain ⟨rfl, hsz, hP, hK, hD0, hZ0⟩ := hv
  subst hsz
  have hts := atoms_spec (ws := ws) B.pre
  have hown : s.vm.findClass y.cls = some m.cls := findClass_of_methodNamed B.named
  have hnm : meth.name = y.name := (name_of_methodNamed B.named B.method).1
  have htab : x_rows c = hh := by
    obtain ⟨m9, meth9, c9, g1, g2, g3, -, -, g4, -⟩ := Cond.codeWith_spec (hts _ (by rw [hw]; exact List.mem_cons_self))
    cases B.named.symm.trans g1
    cases B.method.symm.trans g2
    cases (Stand.of_body B).code.symm.trans g3
    exact g4
  have hl := lv_entry (av.map (g_val ad)) (n := maxL) (by rw [g_sl av hav]; exact hlen)
  rw [lg_entry_eq]
  refine hE p l e s m _ below meth c _ D cs (va_A (g_W cs ad L M) s.heap.size) ⟨⟨B.exec, B.bytes, hml, hown, fun w hw => hts w (hgw w hw)⟩, B.returns, B.notSynchronized, hK, fun x h => Or.inr h, ⟨hZ0, x_no_of hP, hltr, htab⟩, hnm⟩ ad s.heap [] _ ⟨hP, hD0.self, va_S.rf, hRg, hwf⟩ ⟨⟨hl.1, hl.2.1, fun i v hi => ?_⟩, fun i v hi => ?_, fun v hv => absurd hv List.not_mem_nil⟩ ?_
  · have h1 := g_args (ad := ad) av 0 i v hav (hls i v hi)
    rw [Nat.zero_add] at h1
    exact hl.2.2 _ h1
  · exact hav v (List.mem_of_getElem? (hls i v hi))
  · intro pc' ls' st' L2 M2 nc' ns' ad' H' locs' lsA' hf f2 f3 hH' hV'
    obtain ⟨rfl, rfl, n1, n2, rfl, hr⟩ := hf
    refine W.widen n1 n2 ?_
    have hpost : ∀ t : State, t.heap = H' → s.WarmedH t.vm → g_Post D cs (va_A (g_W cs ad L M) s.heap.size) ad L.length L2 M2 r (av.map (g_val ad)).toArray s (.returned (r.map (g_val ad'))) t :=
      fun t ht hW => ⟨⟨ad', f2, f3, rfl, by rw [ht]; exact hH'.1, hH'.2.1, hH'.2.2.2.1, hH'.2.2.2.2, fun v hv => hV'.2.2 v (by rw [hv]; exact List.mem_cons_self)⟩, hH'.2.2.1.F ht⟩
    rcases r with _ | z | k | z | a
    · exact W.vret B.exec B.bytes (B.returns.trans hr.2) hpost hH'.2.2.1.2.2 hr.1
    · obtain ⟨hr1, hr2 | ⟨hr2, hz⟩⟩ := hr
      · exact W.iret B.exec B.bytes (B.returns.trans hr2) hpost hH'.2.2.1.2.2 hr1
      · refine W.zret B.exec B.bytes (B.returns.trans hr2) ?_ hpost hH'.2.2.1.2.2 hr1
        rcases hz with rfl | rfl
        · decide +kernel
        · decide +kernel
    · exact absurd hr id
    · exact absurd hr id
    · exact absurd hr id
end XEV
