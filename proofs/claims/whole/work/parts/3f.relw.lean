section RELW
variable {Me : g_Me} {R : Room} {Fi : g_Fin} {pc q : Nat} {ls : g_Ls} {st : List g_v} {L : g_L} {M : g_M} {nc ns : Nat}
def ConLR (y : MethodName) (ws : List Cond) (rm : Room) (L : g_L) (M : g_M) (av : List g_v) (L' : g_L) (G : g_M → Option g_v → Prop) : Prop :=
  (∀ k j, g_rg (M k j)) → g_wf L → (∀ v ∈ av, g_okl L.length v) → ∀ (l : Launch), l.stackTraces = false → ∀ (D : va_G) (cs : g_cs) (ad : Nat → Nat) (sz : Nat),
    Met l y ws rm (g_Pre D cs ad L M av sz) (g_PostR D cs (va_A (g_W cs ad L M) sz) ad L.length L' G) rm.cells rm.slots (va_A (g_W cs ad L M) sz)
theorem conW_ofR {y : MethodName} {ws ws' : List Cond} {rm : Room} {bytes : ByteArray} {maxL : Nat} {ret : Option FieldType} {hh : List (Nat × Nat × Nat × Nat)} {av : List g_v} {ls0 : g_Ls} {L' : g_L} {G : g_M → Option g_v → Prop} (hy : plainName y.cls = true) (hw : ws = Cond.codeWith y bytes maxL ret hh :: ws') (hlen : av.length ≤ maxL) (hls : ∀ (i : Nat) (v : g_v), ls0[i]? = some (some v) → av[i]? = some v)
    (hgw : ∀ w ∈ gw, w ∈ ws) (hE : Ev (y.cls, bytes, maxL, ret, x_tab hh, y.name) rm (g_finR bytes ret rm.cells rm.slots L' G) 0 ls0 [] L M 0 0) : ConLR y ws rm L M av L' G := by
  intro hRg hwf hav l hltr D cs ad sz
  refine va_MetW (cc := bytes) (maxL := maxL) (ret := ret) (hh := hh) hy hw ?_
  intro p e s m args below meth c s₁ B hml hv
  obtain ⟨rfl, hsz, hP, hK, hD0, hZ0⟩ := hv
  subst hsz
  have hts := atoms_spec (ws := ws) B.pre
  have hown : s.vm.findClass y.cls = some m.cls := findClass_of_methodNamed B.named
  have hnm : meth.name = y.name := (name_of_methodNamed B.named B.method).1
  have htab : x_rows c = hh := by
    obtain ⟨m9, meth9, c9, g1, g2, g3, -, -, g4, -⟩ := Cond.codeWith_spec (hts _ (by rw [hw]; exact List.mem_cons_self))
    cases B.named.symm.trans g1
    cases B.method.symm.trans g2
    cases (Stand.of_body B).code.symm.trans g3
    exact g4
  have hl := lv_entry (av.map (g_val ad)) (n := maxL) (by rw [g_sl av hav]; exact hlen)
  rw [lg_entry_eq]
  refine hE p l e s m _ below meth c _ D cs (va_A (g_W cs ad L M) s.heap.size) ⟨⟨B.exec, B.bytes, hml, hown, fun w hw => hts w (hgw w hw)⟩, B.returns, B.notSynchronized, hK, fun x h => Or.inr h, ⟨hZ0, x_no_of hP, hltr, htab⟩, hnm⟩ ad s.heap [] _ ⟨hP, hD0.self, va_S.rf, hRg, hwf⟩ ⟨⟨hl.1, hl.2.1, fun i v hi => ?_⟩, fun i v hi => ?_, fun v hv => absurd hv List.not_mem_nil⟩ ?_
  · have h1 := g_args (ad := ad) av 0 i v hav (hls i v hi)
    rw [Nat.zero_add] at h1
    exact hl.2.2 _ h1
  · exact hav v (List.mem_of_getElem? (hls i v hi))
  · intro pc' ls' st' L2 M2 nc' ns' ad' H' locs' lsA' hf f2 f3 hH' hV'
    obtain ⟨rfl, n1, n2, r, hG, rfl, hr⟩ := hf
    refine W.widen n1 n2 ?_
    have hpost : ∀ t : State, t.heap = H' → s.WarmedH t.vm → g_PostR D cs (va_A (g_W cs ad L M) s.heap.size) ad L.length L2 G (av.map (g_val ad)).toArray s (.returned (r.map (g_val ad'))) t :=
      fun t ht hW => ⟨M2, r, hG, ⟨ad', f2, f3, rfl, by rw [ht]; exact hH'.1, hH'.2.1, hH'.2.2.2.1, hH'.2.2.2.2, fun v hv => hV'.2.2 v (by rw [hv]; exact List.mem_cons_self)⟩, hH'.2.2.1.F ht⟩
    rcases r with _ | z | k | z | a
    · exact W.vret B.exec B.bytes (B.returns.trans hr.2) hpost hH'.2.2.1.2.2 hr.1
    · obtain ⟨hr1, hr2 | ⟨hr2, hz⟩⟩ := hr
      · exact W.iret B.exec B.bytes (B.returns.trans hr2) hpost hH'.2.2.1.2.2 hr1
      · refine W.zret B.exec B.bytes (B.returns.trans hr2) ?_ hpost hH'.2.2.1.2.2 hr1
        rcases hz with rfl | rfl
        · decide +kernel
        · decide +kernel
    · exact absurd hr id
    · exact absurd hr id
    · exact absurd hr id
theorem ev_callWR {idx maxL : Nat} {y : MethodName} {ws : List Cond} {rm : Room} {As st0 : List g_v} {L' : g_L} {G : g_M → Option g_v → Prop} {nc' ns' : Nat} (hl0 : ∀ l s c A, Me.2.2.2.2.1 l s c A → l.stackTraces = false) (h : decode Me.2.1 pc = .ok (.invokestatic idx, 3)) (hq : pc + 3 = q) (hC : g_CW Me.1 idx y ws As.length maxL) (hM : ConLR y ws rm L M As L' G)
    (hR : rm.frames + 1 ≤ R.frames ∧ 8 + (maxL + 11) + rm.locals ≤ R.locals) (hcs : nc + rm.cells ≤ R.cells ∧ ns + rm.slots ≤ R.slots) (hnj : As.all g_nj = true) (hs : st0 = As.reverse ++ st) (hst : (st.map g_cw).sum ≤ 8) (hnc : nc + rm.cells = nc') (hns : ns + rm.slots = ns')
    (kk : ∀ (M' : g_M) (r : Option g_v), G M' r → Ev Me R Fi q ls (r.toList ++ st) L' M' nc' ns') : Ev Me R Fi pc ls st0 L M nc ns := by
  subst hq
  subst hnc
  subst hns
  intro p l e s m args below meth c Q D cs A C0 ad H locs lsA hH hV hF
  obtain ⟨⟨bytes, ret, hh, ws', hw⟩, hG, hd, h1, h2, h3⟩ := hC
  have hts := C0.1.2.2.2.2
  have hltr := hl0 _ _ _ _ C0.2.2.2.2.2.1.2.2
  have hav : ∀ v ∈ As, g_okl L.length v := by
    intro v hv
    exact g_nj_okl (List.all_eq_true.mp hnj v hv) (hV.2.2 v (by rw [hs]; exact List.mem_append_left _ (List.mem_reverse.mpr hv)))
  have hcw : Cond.codeWith y bytes maxL ret hh ∈ ws := by rw [hw]; exact List.mem_cons_self
  have hwsU : ∀ w ∈ ws, ∀ (a' : Array Value) (U : State), s.WarmedH U.vm → w.before a' U = true := pay_in hts hG
  have hK : Back l R p e below s args y 3 8 (PreOf R rm.cells rm.slots (g_Pre D cs ad L M As H.size)) (PostOf (g_PostR D cs (va_A (g_W cs ad L M) H.size) ad L.length L' G) rm.cells rm.slots (va_A (g_W cs ad L M) H.size)) :=
    va_backW (hh := hh) (bytes := bytes) (maxL := maxL) (ret := ret) (hM hH.2.2.2.1 hH.2.2.2.2 hav l hltr D cs ad H.size) g_blind rfl rfl hR.1 hR.2 hwsU hcw (fun a' U hW => word_at hW (Or.inl (by first | rfl | simp [Cond.onTables, Cond.keeps, Cond.steady])) (hts _ h2))
  have hrun : va_Run p l e R s m args below meth c H locs nc ns rm.cells rm.slots (F0 m pc lsA (st0.map (g_val ad))) (st.map (g_val ad)) (g_PostR D cs (va_A (g_W cs ad L M) H.size) ad L.length L' G (As.map (g_val ad)).toArray) (va_A (g_W cs ad L M) H.size) := by
    intro T hT X
    obtain ⟨mk, methM, cM, hnamed, hmethM, -, -, -, -, -, -, hsigM⟩ := Cond.codeWith_spec (hts _ (hG _ hcw).1)
    have hstatic : methM.isStatic = true := Cond.static_spec hnamed hmethM (hts _ h1)
    obtain ⟨kP, hkP, -⟩ := className_of_methodNamed hnamed
    have hinitP : kP.init = .initialized := Cond.initialized_spec (findClass_of_methodNamed hnamed) hkP (hts _ h2)
    obtain ⟨vm₁, X₁, hstep₁⟩ := X.invokestatic C0.1.1 C0.1.2.2.2.1 (hts _ h3) hnamed hmethM hstatic hkP hinitP ⟨hd.1, hd.2.1⟩ (g := F0 m pc lsA (st0.map (g_val ad))) rfl (argsL := As.map (g_val ad)) (rest := st.map (g_val ad)) (by
      have h9 := hd.2.2
      rw [hsigM] at h9
      rw [List.length_map]
      exact (Option.some.inj h9).symm) (by rw [hs]; simp) (by rw [C0.1.2.1]; exact h)
    obtain ⟨v, ⟨U', l2, c2, s2⟩, X', ⟨g', mk', t, Lo, e1, e2, hq9, g1, hLo, g2, g3⟩, hsteps⟩ := hK m meth c ⟨T.setVm vm₁, locs, nc, ns⟩ (F0 m pc lsA (st.map (g_val ad))) (.invokestatic idx) mk (As.map (g_val ad)).toArray X₁ rfl (by rw [C0.1.2.2.1]; exact hV.1.1) (by rw [C0.1.2.1]; exact h) (lv_room (by rw [g_cw_sum]; exact hst)) (X₁.named hnamed) ⟨hcs.1, hcs.2, g_preC C0.2.2.2.1 C0.2.2.2.2.2.1.1 C0.2.2.2.2.1 hH (T.setVm vm₁) hT X₁.warmed⟩
    dsimp only [Pt.U, Pt.locs, Pt.cells, Pt.slots] at X' e1 e2 g1 g2 g3 hsteps
    subst g1; subst g2; subst g3
    exact ⟨v, (T.setVm vm₁).calling g' mk' (As.map (g_val ad)).toArray, t, U', Lo, hT, X', hLo, e1, e2, hq9, fun target h9 => hstep₁ _ fun acts => by rw [doInvoke_state]; exact hsteps.trans h9⟩
  exact g_callER C0 hH hV hs hF kk hrun
end RELW
