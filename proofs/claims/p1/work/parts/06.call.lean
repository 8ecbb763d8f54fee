section GEN4
variable {Me : g_Me} {R : Room} {Fi : g_Fin} {pc q : Nat} {ls : g_Ls} {st : List g_v} {L : g_L} {M : g_M} {nc ns : Nat}
abbrev g_nm (y : MethodName) : Prop := y.cls ≠ "java/lang/invoke/MethodHandle" ∧ y.cls ≠ "java/lang/invoke/VarHandle"
/-- a call of a method of the receiver's own class: its words -/
def g_CV (own : String) (idx : Nat) (y : MethodName) (ws : List Cond) (n maxL ci : Nat) : Prop :=
  (∃ (bytes : ByteArray) (ret : Option FieldType) (ws' : List Cond), ws = Cond.code y bytes maxL ret :: ws') ∧ GoodIn gw (wsV own idx y.cls y ws) ∧ (y.cls ≠ "java/lang/invoke/MethodHandle" ∧ y.cls ≠ "java/lang/invoke/VarHandle" ∧ (parseMethodDescriptor y.desc).map (fun d => d.parameters.length) = some n) ∧ ∃ (T : u_T) (N : Nat), vwCl[ci]? = some (y.cls, T, N)
def g_CS (own : String) (idx : Nat) (y : MethodName) (ws : List Cond) (n maxL : Nat) : Prop :=
  (∃ (bytes : ByteArray) (ret : Option FieldType) (ws' : List Cond), ws = Cond.code y bytes maxL ret :: ws') ∧ GoodIn gw ws ∧ (y.cls ≠ "java/lang/invoke/MethodHandle" ∧ y.cls ≠ "java/lang/invoke/VarHandle" ∧ (parseMethodDescriptor y.desc).map (fun d => d.parameters.length) = some n) ∧ Cond.static y ∈ gw ∧ Cond.initialized y.cls ∈ gw ∧ Cond.methodLink own idx y ∈ gw
theorem g_preC {s : State} {H : Heap} {locs : List Loc} {D : va_G} {cs : g_cs} {ad : Nat → Nat} {A : Nat → Prop} {av : List g_v} (hK : g_K D cs s) (hZ : x_Z A s s.heap) (hA : ∀ q, s.heap.size ≤ q → A q) (hH : g_H D cs A s.heap ad L M H locs) : ∀ U : State, U.heap = H → s.WarmedH U.vm → g_Pre D cs ad L M av H.size (av.map (g_val ad)).toArray U :=
  fun U hU hW => ⟨rfl, by rw [hU], by rw [hU]; exact hH.1, g_K.moved hW hK, hH.2.1.weaken (fun _ _ _ _ => trivial), by rw [hU]; exact ((hZ.kept hH.2.2.1.2.1).moved hW.alike).narrow (g_A1 hH hA)⟩
theorem ev_callV {idx maxL ci k : Nat} {y : MethodName} {ws : List Cond} {rm : Room} {fsr : List g_F} {As st0 : List g_v} {L' : g_L} {M' : g_M} {r : Option g_v} {nc' ns' : Nat} (h : decode Me.2.1 pc = .ok (.invokevirtual idx, 3)) (hq : pc + 3 = q) (hC : g_CV Me.1 idx y ws As.length maxL ci) (hM : Con y ws rm L M (g_r k :: As) L' M' r)
    (hR : rm.frames + 1 ≤ R.frames ∧ 8 + (maxL + 11) + rm.locals ≤ R.locals) (hcs : nc + rm.cells ≤ R.cells ∧ ns + rm.slots ≤ R.slots) (hk : L[k]? = some (.inr (ci, fsr))) (hnj : As.all g_nj = true) (hs : st0 = (g_r k :: As).reverse ++ st) (hst : (st.map g_cw).sum ≤ 8) (hnc : nc + rm.cells = nc') (hns : ns + rm.slots = ns')
    (kk : Ev Me R Fi q ls (r.toList ++ st) L' M' nc' ns') : Ev Me R Fi pc ls st0 L M nc ns := by
  subst hq
  subst hnc
  subst hns
  intro p l e s m args below meth c Q D cs A C0 ad H locs lsA hH hV hF
  obtain ⟨⟨bytes, ret, ws', hw⟩, hG, hd, T, N, hc⟩ := hC
  have hav : ∀ v ∈ g_r k :: As, g_okl L.length v := by
    intro v hv
    refine g_nj_okl ?_ (hV.2.2 v (by rw [hs]; exact List.mem_append_left _ (List.mem_reverse.mpr hv)))
    rcases List.mem_cons.mp hv with rfl | hv
    · rfl
    · exact List.all_eq_true.mp hnj v hv
  have hrun := va_runV (b := ad k) (As := As.map (g_val ad)) (rest := st.map (g_val ad)) (g := F0 m pc lsA (st0.map (g_val ad))) (H := H) (e := e) (below := below) (meth := meth) (locs := locs) (cells := nc) (slots := ns) C0.1 (hM hH.2.2.2.1 hH.2.2.2.2 hav l D cs ad H.size)
    (cwV As.length C0.1.2.2.2.2 hG hw rfl rfl ⟨rfl, hd⟩ hR) ⟨g_blind, va_recv C0.2.2.2.1.1 hH.1 hc (g_W_at hk), fun U hU hW => g_preC (av := g_r k :: As) C0.2.2.2.1 C0.2.2.2.2.2.1.1 C0.2.2.2.2.1 hH U hU hW⟩ rfl (by simp) hV.1.1 (by rw [hs]; simp [g_val]) (lv_room (by rw [g_cw_sum]; exact hst)) h hcs
  exact g_callE C0 hH hV hs hF kk hrun
theorem ev_callS {idx maxL : Nat} {y : MethodName} {ws : List Cond} {rm : Room} {As st0 : List g_v} {L' : g_L} {M' : g_M} {r : Option g_v} {nc' ns' : Nat} (h : decode Me.2.1 pc = .ok (.invokestatic idx, 3)) (hq : pc + 3 = q) (hC : g_CS Me.1 idx y ws As.length maxL) (hM : Con y ws rm L M As L' M' r)
    (hR : rm.frames + 1 ≤ R.frames ∧ 8 + (maxL + 11) + rm.locals ≤ R.locals) (hcs : nc + rm.cells ≤ R.cells ∧ ns + rm.slots ≤ R.slots) (hnj : As.all g_nj = true) (hs : st0 = As.reverse ++ st) (hst : (st.map g_cw).sum ≤ 8) (hnc : nc + rm.cells = nc') (hns : ns + rm.slots = ns')
    (kk : Ev Me R Fi q ls (r.toList ++ st) L' M' nc' ns') : Ev Me R Fi pc ls st0 L M nc ns := by
  subst hq
  subst hnc
  subst hns
  intro p l e s m args below meth c Q D cs A C0 ad H locs lsA hH hV hF
  obtain ⟨⟨bytes, ret, ws', hw⟩, hG, hd, h1, h2, h3⟩ := hC
  have hts := C0.1.2.2.2.2
  have hav : ∀ v ∈ As, g_okl L.length v := by
    intro v hv
    exact g_nj_okl (List.all_eq_true.mp hnj v hv) (hV.2.2 v (by rw [hs]; exact List.mem_append_left _ (List.mem_reverse.mpr hv)))
  have hrun := va_runS (As := As.map (g_val ad)) (rest := st.map (g_val ad)) (g := F0 m pc lsA (st0.map (g_val ad))) (H := H) (e := e) (below := below) (meth := meth) (locs := locs) (cells := nc) (slots := ns) C0.1 (hM hH.2.2.2.1 hH.2.2.2.2 hav l D cs ad H.size)
    ⟨callB_of As.length hts hG hw rfl rfl (hts _ h2) (hts _ h3) hd hR, hts _ h1⟩ ⟨g_blind, fun U hU hW => g_preC C0.2.2.2.1 C0.2.2.2.2.2.1.1 C0.2.2.2.2.1 hH U hU hW⟩ rfl (by simp) hV.1.1 (by rw [hs]; simp) (lv_room (by rw [g_cw_sum]; exact hst)) h hcs
  exact g_callE C0 hH hV hs hF kk hrun
/-- a static method of the nest -/
def g_CN (own : String) (idx : Nat) (y : MethodName) (ws : List Cond) (n maxL : Nat) : Prop :=
  (∃ (bytes : ByteArray) (ret : Option FieldType) (ws' : List Cond), ws = Cond.code y bytes maxL ret :: ws') ∧ GoodIn gw ws ∧ (y.cls ≠ "java/lang/invoke/MethodHandle" ∧ y.cls ≠ "java/lang/invoke/VarHandle" ∧ (parseMethodDescriptor y.desc).map (fun d => d.parameters.length) = some n) ∧ Cond.static y ∈ gw ∧ Cond.initialized y.cls ∈ gw ∧ ∃ host : String, (own, idx, y, host) ∈ g_nest
theorem ev_callN {idx maxL : Nat} {y : MethodName} {ws : List Cond} {rm : Room} {As st0 : List g_v} {L' : g_L} {M' : g_M} {r : Option g_v} {nc' ns' : Nat} (h : decode Me.2.1 pc = .ok (.invokestatic idx, 3)) (hq : pc + 3 = q) (hC : g_CN Me.1 idx y ws As.length maxL) (hM : Con y ws rm L M As L' M' r)
    (hR : rm.frames + 1 ≤ R.frames ∧ 8 + (maxL + 11) + rm.locals ≤ R.locals) (hcs : nc + rm.cells ≤ R.cells ∧ ns + rm.slots ≤ R.slots) (hnj : As.all g_nj = true) (hs : st0 = As.reverse ++ st) (hst : (st.map g_cw).sum ≤ 8) (hnc : nc + rm.cells = nc') (hns : ns + rm.slots = ns')
    (kk : Ev Me R Fi q ls (r.toList ++ st) L' M' nc' ns') : Ev Me R Fi pc ls st0 L M nc ns := by
  subst hq
  subst hnc
  subst hns
  intro p l e s m args below meth c Q D cs A C0 ad H locs lsA hH hV hF
  obtain ⟨⟨bytes, ret, ws', hw⟩, hG, hd, h1, h2, host, h3⟩ := hC
  have hts := C0.1.2.2.2.2
  have hav : ∀ v ∈ As, g_okl L.length v := by
    intro v hv
    exact g_nj_okl (List.all_eq_true.mp hnj v hv) (hV.2.2 v (by rw [hs]; exact List.mem_append_left _ (List.mem_reverse.mpr hv)))
  have hrun := va_runSN (As := As.map (g_val ad)) (rest := st.map (g_val ad)) (g := F0 m pc lsA (st0.map (g_val ad))) (H := H) (e := e) (below := below) (meth := meth) (locs := locs) (cells := nc) (slots := ns) C0.1 (hM hH.2.2.2.1 hH.2.2.2.2 hav l D cs ad H.size)
    ⟨va_cnB As.length hts hG hw rfl rfl (C0.2.2.2.1.2.1 _ h3) (hts _ h2) hd hR, hts _ h1, trivial⟩ ⟨g_blind, fun U hU hW => g_preC C0.2.2.2.1 C0.2.2.2.2.2.1.1 C0.2.2.2.2.1 hH U hU hW⟩ rfl (by simp) hV.1.1 (by rw [hs]; simp) (lv_room (by rw [g_cw_sum]; exact hst)) h hcs
  exact g_callE C0 hH hV hs hF kk hrun
theorem g_args {ad : Nat → Nat} {n : Nat} : ∀ (av : List g_v) (i0 i : Nat) (v : g_v), (∀ w ∈ av, g_okl n w) → av[i]? = some v → (i0 + i, g_val ad v) ∈ lv_args i0 (av.map (g_val ad))
  | [], _, _, _, _, h => by simp at h
  | a :: av, i0, i, v, ha, h => by
    simp only [List.map_cons, lv_args]
    cases i with
    | zero =>
      simp at h
      subst h
      exact List.mem_cons_self
    | succ i =>
      have hc : ¬ (g_val ad a).category = 2 := by rw [g_cat (ha a List.mem_cons_self)]; decide
      rw [if_neg hc]
      refine List.mem_cons_of_mem _ ?_
      have h1 := g_args (ad := ad) av (i0 + 1) i v (fun w hw => ha w (List.mem_cons_of_mem _ hw)) (by simpa using h)
      rwa [Nat.add_assoc, Nat.add_comm 1 i] at h1
theorem g_sl {ad : Nat → Nat} {n : Nat} : ∀ (av : List g_v), (∀ w ∈ av, g_okl n w) → (lg_sl (av.map (g_val ad))).length = av.length
  | [], _ => rfl
  | a :: av, h => by
    have hc : ¬ (g_val ad a).category = 2 := by rw [g_cat (h a List.mem_cons_self)]; decide
    have ih := g_sl (ad := ad) av (fun w hw => h w (List.mem_cons_of_mem _ hw))
    simp only [lg_sl, List.map_cons, List.flatMap_cons, List.length_append, List.length_cons] at ih ⊢
    rw [ih]
    simp [hc]
    omega
def g_fin (cc : ByteArray) (ret : Option FieldType) (mc ms : Nat) (L' : g_L) (M' : g_M) (r : Option g_v) : g_Fin := fun pc _ st L2 M2 nc ns => L2 = L' ∧ M2 = M' ∧ nc ≤ mc ∧ ns ≤ ms ∧ st = r.toList ∧ match r with
  | none => decode cc pc = .ok (.return_, 1) ∧ ret = none
  | some (.inl z) => decode cc pc = .ok (.ireturn, 1) ∧ (ret = some .int ∨ (ret = some .boolean ∧ (z = 0 ∨ z = 1)))
  | _ => False
theorem con_of {y : MethodName} {ws ws' : List Cond} {rm : Room} {bytes : ByteArray} {maxL : Nat} {ret : Option FieldType} {av : List g_v} {ls0 : g_Ls} {L' : g_L} {M' : g_M} {r : Option g_v} (hy : plainName y.cls = true) (hw : ws = Cond.code y bytes maxL ret :: ws') (hlen : av.length ≤ maxL) (hls : ∀ (i : Nat) (v : g_v), ls0[i]? = some (some v) → av[i]? = some v)
    (hgw : ∀ w ∈ gw, w ∈ ws) (hE : Ev (y.cls, bytes, maxL, ret, (fun _ _ _ _ => True), y.name) rm (g_fin bytes ret rm.cells rm.slots L' M' r) 0 ls0 [] L M 0 0) : Con y ws rm L M av L' M' r := by
  intro hRg hwf hav l D cs ad sz
  refine Met.ofW (cc := bytes) (maxL := maxL) (ret := ret) hy hw ?_
  intro p e s m args below meth c s₁ B hml hv
  obtain ⟨rfl, hsz, hP, hK, hD0, hZ0⟩ := hv
  subst hsz
  have hts := atoms_spec (ws := ws) B.pre
  have hown : s.vm.findClass y.cls = some m.cls := findClass_of_methodNamed B.named
  have hnm : meth.name = y.name := (name_of_methodNamed B.named B.method).1
  have hl := lv_entry (av.map (g_val ad)) (n := maxL) (by rw [g_sl av hav]; exact hlen)
  rw [lg_entry_eq]
  refine hE p l e s m _ below meth c _ D cs (va_A (g_W cs ad L M) s.heap.size) ⟨⟨B.exec, B.bytes, hml, hown, fun w hw => hts w (hgw w hw)⟩, B.returns, B.notSynchronized, hK, fun x h => Or.inr h, ⟨hZ0, x_no_of hP, trivial⟩, hnm⟩ ad s.heap [] _ ⟨hP, hD0.self, va_S.rf, hRg, hwf⟩ ⟨⟨hl.1, hl.2.1, fun i v hi => ?_⟩, fun i v hi => ?_, fun v hv => absurd hv List.not_mem_nil⟩ ?_
  · have h1 := g_args (ad := ad) av 0 i v hav (hls i v hi)
    rw [Nat.zero_add] at h1
    exact hl.2.2 _ h1
  · exact hav v (List.mem_of_getElem? (hls i v hi))
  · intro pc' ls' st' L2 M2 nc' ns' ad' H' locs' lsA' hf f2 f3 hH' hV'
    obtain ⟨rfl, rfl, n1, n2, rfl, hr⟩ := hf
    refine W.widen n1 n2 ?_
    have hpost : ∀ t : State, t.heap = H' → s.WarmedH t.vm → g_Post D cs (va_A (g_W cs ad L M) s.heap.size) ad L.length L2 M2 r (av.map (g_val ad)).toArray s (.returned (r.map (g_val ad'))) t :=
      fun t ht hW => ⟨⟨ad', f2, f3, rfl, by rw [ht]; exact hH'.1, hH'.2.1, hH'.2.2.2.1, hH'.2.2.2.2, fun v hv => hV'.2.2 v (by rw [hv]; exact List.mem_cons_self)⟩, hH'.2.2.1.F ht⟩
    rcases r with _ | z | k | z | a
    · exact W.vret B.exec B.bytes (B.returns.trans hr.2) hpost hH'.2.2.1.2.2 hr.1
    · obtain ⟨hr1, hr2 | ⟨hr2, hz⟩⟩ := hr
      · exact W.iret B.exec B.bytes (B.returns.trans hr2) hpost hH'.2.2.1.2.2 hr1
      · refine W.zret B.exec B.bytes (B.returns.trans hr2) ?_ hpost hH'.2.2.1.2.2 hr1
        rcases hz with rfl | rfl
        · decide +kernel
        · decide +kernel
    · exact absurd hr id
    · exact absurd hr id
    · exact absurd hr id
end GEN4
