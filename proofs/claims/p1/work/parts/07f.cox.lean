section XCO
variable {L : g_L} {M : g_M}
def g_PX (D : va_G) (cs : g_cs) (A : Nat → Prop) (ad : Nat → Nat) (L : g_L) (M' : g_M) (E : String) : Array Value → State → Outcome → State → Prop := fun _ st oc t =>
  ∃ (q : Nat) (ce : Cell) (Lo : List Loc), x_End st oc t q Lo ∧ st.heap.size ≤ q ∧ t.heap[q]? = some ce ∧ ce.vm = .none ∧ st.vm.findClass E = some ce.cls ∧ va_P D vwCl (g_W cs ad L M') t.heap ∧ va_D A (g_W cs ad L M') ∧ (∀ k j, g_rg (M' k j)) ∧ g_wf L ∧ va_F A st t ∧ ∀ x ∈ Lo, A x.base
/-- y, called with the values av in the memory M, throws an E and leaves the memory M' -/
def CoX (y : MethodName) (ws : List Cond) (rm : Room) (L : g_L) (M : g_M) (av : List g_v) (M' : g_M) (E : String) : Prop :=
  (∀ k j, g_rg (M k j)) → g_wf L → (∀ v ∈ av, g_okl L.length v) → ∀ (l : Launch), l.stackTraces = false → ∀ (D : va_G) (cs : g_cs) (ad : Nat → Nat) (sz : Nat),
    MetFree l y (headSpec ws rm) (g_Pre D cs ad L M av sz) (fun _ _ _ _ _ => True) (g_PX D cs (va_A (g_W cs ad L M) sz) ad L M' E)
/-- the place of a throw -/
def g_thr (cc : ByteArray) (E : String) (L' : g_L) (M' : g_M) : g_Fin := fun pc _ st L2 M2 nc ns => L2 = L' ∧ M2 = M' ∧ nc = 0 ∧ ns = 0 ∧ st = [] ∧ ∃ (ik is ic : Nat) (text : String), x_Ex E ik ic ∧ (is, text) ∈ x_str ∧
  decode cc pc = .ok (.new ik, 3) ∧ decode cc (pc + 3) = .ok (.dup, 1) ∧ decode cc (pc + 4) = .ok (.ldc is, 2) ∧ decode cc (pc + 6) = .ok (.invokespecial ic, 3) ∧ decode cc (pc + 9) = .ok (.athrow, 1)
theorem conX_of {y : MethodName} {ws ws' : List Cond} {rm : Room} {bytes : ByteArray} {maxL : Nat} {ret : Option FieldType} {av : List g_v} {ls0 : g_Ls} {M' : g_M} {E : String} (hy : plainName y.cls = true) (hw : ws = Cond.code y bytes maxL ret :: ws') (hlen : av.length ≤ maxL) (hls : ∀ (i : Nat) (v : g_v), ls0[i]? = some (some v) → av[i]? = some v) (hgw : ∀ w ∈ gw, w ∈ ws) (hcl : y.cls = R_Fu) (hR : 6 ≤ rm.frames ∧ 90 ≤ rm.locals) (hRc : 1 ≤ rm.cells ∧ 6 ≤ rm.slots)
    (hE : Ev (y.cls, bytes, maxL, ret, (fun _ _ _ _ => True), y.name) rm (g_thr bytes E L M') 0 ls0 [] L M 0 0) : CoX y ws rm L M av M' E := by
  intro hRg hwf hav l hl D cs ad sz
  refine MetFree.of_bodyS (code := bytes) (maxLocals := maxL) (ret := ret) hy ?_ ?_
  · intro args s m h hn
    obtain ⟨meth, c, h1, h2, h3, h4, h5, h6, -, -⟩ := Cond.code_spec hn (atoms_spec (ws := ws) h _ (by rw [hw]; exact List.mem_cons_self))
    exact ⟨meth, c, h1, h2, h3, h4, h5, h6⟩
  · intro p e s m args below meth c s₁ B hml hv _
    obtain ⟨rfl, hsz, hP, hK, hD0, hZ0⟩ := hv
    subst hsz
    have hts := atoms_spec (ws := ws) B.pre
    have hcode : (Cond.code y bytes maxL ret).before (av.map (g_val ad)).toArray s = true := hts _ (by rw [hw]; exact List.mem_cons_self)
    have hown : s.vm.findClass y.cls = some m.cls := findClass_of_methodNamed B.named
    have hnm : meth.name = y.name := (name_of_methodNamed B.named B.method).1
    have hl0 := lv_entry (av.map (g_val ad)) (n := maxL) (by rw [g_sl av hav]; exact hlen)
    have hgts : ∀ w ∈ gw, w.before (av.map (g_val ad)).toArray s = true := fun w h => hts w (hgw w h)
    have hW : W p l e (headSpec ws rm).room s m (av.map (g_val ad)).toArray below meth c s.heap [] 0 0 (fun t => ∃ o, t.status = .running ∧ Ended t below o ∧ g_PX D cs (va_A (g_W cs ad L M) s.heap.size) ad L M' E (av.map (g_val ad)).toArray s o t) (entryFrame m (av.map (g_val ad)).toArray maxL) := by
      rw [lg_entry_eq]
      refine hE p l e s m _ below meth c _ D cs (va_A (g_W cs ad L M) s.heap.size) ⟨⟨B.exec, B.bytes, hml, hown, hgts⟩, B.returns, B.notSynchronized, hK, fun x h => Or.inr h, ⟨hZ0, x_no_of hP, trivial⟩, hnm⟩ ad s.heap [] _ ⟨hP, hD0.self, va_S.rf, hRg, hwf⟩ ⟨⟨hl0.1, hl0.2.1, fun i v hi => ?_⟩, fun i v hi => ?_, fun v hv => absurd hv List.not_mem_nil⟩ ?_
      · have h1 := g_args (ad := ad) av 0 i v hav (hls i v hi)
        rw [Nat.zero_add] at h1
        exact hl0.2.2 _ h1
      · exact hav v (List.mem_of_getElem? (hls i v hi))
      · intro pc' ls' st' L2 M2 nc' ns' ad' H' locs' lsA' hf f2 f3 hH' hV'
        obtain ⟨rfl, rfl, rfl, rfl, rfl, ik, is, ic, text, hx, hstr, d0, d3, d4, d6, d9⟩ := hf
        have ha : g_W cs ad' L2 M2 = g_W cs ad L2 M2 := by
          apply List.ext_getElem?
          intro j
          simp only [g_W, List.getElem?_mapIdx]
          cases hj : L2[j]? with
          | none => rfl
          | some c0 => simp only [Option.map_some]; rw [g_ent_ad (M := M2) hwf hj f2 rfl]
        rw [hcl] at hown
        refine x_throw B.exec B.bytes hl hown hgts hK.2.2 hZ0 hH'.2.2.1 (by rw [hml]; exact hV'.1.1) B.notSynchronized (covers_of_empty (B.noHandlers hcode) _) hx hstr d0 d3 d4 d6 d9 hR ⟨by show 0 + 1 ≤ rm.cells; omega, by show 0 + 6 ≤ rm.slots; omega⟩ ?_
        intro U q ce h1 h2 h3 h4 h5 h6 h7 h8 h9 h10
        have hkp : ∀ (k : Nat) (x : Nat × va_E), (g_W cs ad' L2 M2)[k]? = some x → U.heap[x.1]? = H'[x.1]? := fun k x hx => h10 x.1 ((hH'.1 k x hx).lt)
        refine ⟨.threw q, h1, h2, q, ce, locs', ⟨rfl, h7, by simpa using h8⟩, Nat.le_trans hH'.2.2.1.1 h3, h4, h5, h6, ?_, ?_, hH'.2.2.2.1, hwf, ⟨Nat.le_trans hH'.2.2.1.1 h9, fun z z1 z2 => ?_⟩, hH'.2.2.1.2.2⟩
        · rw [← ha]
          exact hH'.1.kept hkp
        · rw [← ha]
          exact hH'.2.1
        · rw [h10 z (Nat.lt_of_lt_of_le z1 hH'.2.2.1.1)]
          exact hH'.2.2.1.2.1 z z1 z2
    have hh0 : s₁.heap = s.heap := by rw [B.state]; rfl
    obtain ⟨t, a1, o, b1, b2, b3⟩ := hW s₁ hh0 (Stand.of_body B)
    exact ⟨t, o, a1, b1, b2, b3⟩
end XCO
