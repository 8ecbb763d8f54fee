/-! THE CLAIM OUT OF ONE WALK OF THE LAW'S BODY. Your part is whole_start (and what it stands on); all else here is the same for every law, but numbers. -/
def R_law : String := "SureFunctionsLaw"
def lw_P (b : Addr) (xs : List Int32) (args : Array Value) (s : State) : Prop := args = #[.ref b] ∧ s.IntsAt b xs ∧ xs.length ≤ 6 ∧ (Jvm.Cond.and given_1 narrow_1).before args s = true
def lw_Q (_ : Array Value) (s : State) (o : Outcome) (t : State) : Prop := o = .returned (some (.int 1)) ∧ Framed s o t [] 600002 7302232
def lw_Z (below : List Frame) (a : Array Value) (s : State) : State → Prop := fun t => ∃ o, t.status = .running ∧ Ended t below o ∧ lw_Q a s o t
/-- the law's own end, with 1 on the stack, nothing written that was there before, its room as the claim has it -/
theorem lw_ret {p : Program} {l : Launch} {e : Env} {s : State} {m : MethodId} {below : List Frame} {meth : Method} {c : Code} {b : Nat} (hx : p.tables.exec = Jvm.exec) (hb : c.code = code) (hr : meth.sig.returnType = ret) (hlocks : meth.locks = false) {pc : Nat} {H : Heap} {ls : Array Slot} (hdg : decode code pc = .ok (.ireturn, 1)) : W p l e room_1 s m #[Value.ref b] below meth c H [] 600002 7302232 (lw_Z below #[Value.ref b] s) (F0 m pc ls [.int 1]) := by
  intro T hT X
  obtain ⟨fs, hret, hrun, hended, hW, hframe⟩ := X.leave (v := some (.int 1)) (hlocks := hlocks) (fun h => by rw [hr] at h; cases h)
  have hmeth' : T.vm.method? m = some meth := X.method'
  refine ⟨T.setFrames fs, ?_, .returned (some (.int 1)), hrun, hended, rfl, ⟨_, rfl⟩, hW, hframe⟩
  jvm_step X.here [X.here.top, hx, hb, hdg, hmeth', hr, ret, narrow_b1]
  (try refine ⟨rfl, ?_⟩); (try refine ⟨rfl, ?_⟩)
  first | (intro acts; rw [hret _ acts rfl rfl rfl]) | rw [hret _ _ rfl rfl rfl]
  exact Steps.refl _
/-- what holds at the law's entry: the machine, the code, the tables' words (any of lw_tbl by 'hts w (by decide +kernel)'), the script of L ints xs at the cell b, what the Statement gives of the start (any of its parts by flat_of_before) -/
def lw_At (p : Program) (s : State) (m : MethodId) (meth : Method) (c : Code) (b L : Nat) (xs : Nat → Int32) : Prop :=
  p.tables.exec = Jvm.exec ∧ c.code = code ∧ meth.sig.returnType = ret ∧ c.maxLocals = 7 ∧ s.vm.findClass R_law = some m.cls ∧ (∀ w ∈ lw_tbl, w.before #[Value.ref b] s = true) ∧ va_X b L xs s s.heap ∧ b < s.heap.size ∧ meth.locks = false ∧ (Jvm.Cond.and given_1 narrow_1).before #[Value.ref b] s = true
/-- what the law's walk may take: no stack traces, and its script -/
def x_law (b N : Nat) (xs : Nat → Int32) : Launch → State → Code → (Nat → Prop) → Prop := fun l s _ A => l.stackTraces = false ∧ va_X b N xs s s.heap ∧ b < s.heap.size ∧ ¬ A b
def x_finL : g_Fin := fun pc _ st _ _ nc ns => decode code pc = .ok (.ireturn, 1) ∧ st = [g_i 1] ∧ nc ≤ 600002 ∧ ns ≤ 7302232
theorem x_kn {args : Array Value} {s : State} (hts : ∀ w ∈ gw, w.before args s = true) : ∃ D : va_G, ∀ (c : Nat) (q : vw_C), vwCl[c]? = some q → u_Kn s q.1 q.2.1 q.2.2 (D.1 c) (D.2 c) := by
  have h : ∀ c : Nat, ∃ x : ClassId × (Nat → Nat), ∀ q : vw_C, vwCl[c]? = some q → u_Kn s q.1 q.2.1 q.2.2 x.1 x.2 := by
    intro c
    match c with
    | 0 =>
      obtain ⟨cC, iS, hk⟩ := u_known (s := s) (T := T_Fu) (N := 10) hts uw_Fu (hts _ gm_13)
      exact ⟨(cC, iS), fun q hq => by cases hq; exact hk⟩
    | 1 =>
      obtain ⟨cC, iS, hk⟩ := u_known (s := s) (T := T_Sg) (N := 5) hts uw_Sg (hts _ gm_21)
      exact ⟨(cC, iS), fun q hq => by cases hq; exact hk⟩
    | 2 =>
      obtain ⟨cC, iS, hk⟩ := u_known (s := s) (T := T_Te) (N := 10) hts uw_Te (hts _ gm_38)
      exact ⟨(cC, iS), fun q hq => by cases hq; exact hk⟩
    | 3 =>
      obtain ⟨cC, iS, hk⟩ := u_known (s := s) (T := T_Cl) (N := 8) hts uw_Cl (hts _ gm_65)
      exact ⟨(cC, iS), fun q hq => by cases hq; exact hk⟩
    | 4 =>
      obtain ⟨cC, iS, hk⟩ := u_known (s := s) (T := T_Ty) (N := 5) hts uw_Ty (hts _ gm_87)
      exact ⟨(cC, iS), fun q hq => by cases hq; exact hk⟩
    | 5 =>
      obtain ⟨cC, iS, hk⟩ := u_known (s := s) (T := T_Co) (N := 6) hts uw_Co (hts _ gm_103)
      exact ⟨(cC, iS), fun q hq => by cases hq; exact hk⟩
    | 6 =>
      obtain ⟨cC, iS, hk⟩ := u_known (s := s) (T := T_En) (N := 9) hts uw_En (hts _ gm_121)
      exact ⟨(cC, iS), fun q hq => by cases hq; exact hk⟩
    | 7 =>
      obtain ⟨cC, iS, hk⟩ := u_known (s := s) (T := T_Va) (N := 6) hts uw_Va (hts _ gm_151)
      exact ⟨(cC, iS), fun q hq => by cases hq; exact hk⟩
    | 8 =>
      obtain ⟨cC, iS, hk⟩ := u_known (s := s) (T := T_Ma) (N := 15) hts uw_Ma (hts _ gm_145)
      exact ⟨(cC, iS), fun q hq => by cases hq; exact hk⟩
    | 9 =>
      obtain ⟨cC, iS, hk⟩ := u_known (s := s) (T := T_Mo) (N := 45) hts uw_Mo (hts _ gm_690)
      exact ⟨(cC, iS), fun q hq => by cases hq; exact hk⟩
    | c + 10 => exact ⟨(0, fun _ => 0), fun q hq => by simp [vwCl] at hq⟩
  exact ⟨(fun c => (Classical.choose (h c)).1, fun c => (Classical.choose (h c)).2), fun c q hq => Classical.choose_spec (h c) q hq⟩
theorem x_ar {args : Array Value} {s : State} {ty : FieldType} (h : (Cond.arrayClass ty).before args s = true) (hty : ∀ C, ty ≠ .object C) : ∃ cA : ClassId, ArrOfT s cA ty ∧ va_RA s cA ty := by
  obtain ⟨cA, k, comp, h1, h2, h3⟩ := Cond.arrayClass_spec h
  refine ⟨cA, fun n z => ⟨fun k h => (by cases h), k, h2, comp, h3⟩, ?_⟩
  cases ty with
  | object C => exact absurd rfl (hty C)
  | _ => exact h1
theorem x_st {args : Array Value} {s : State} {n d : String} {A : Nat → Prop} (hl : (Cond.laysStatic Bundle.tN n d).before args s = true) (hr : (Cond.isRef (.static Bundle.tN n d)).before args s = true) (hA : ∀ q, A q → s.heap.size ≤ q) : x_S n d A s s.heap := by
  obtain ⟨c, k, i, f, a, cell, h1, h2, h3, h4, h5, h6, h7, h8, h9⟩ := Cond.laysStatic_spec hl
  cases hv : (Term.static Bundle.tN n d).eval args s none [] s with
  | none => simp [Cond.before, Cond.holds, Cond.value, hv] at hr
  | some w =>
    obtain ⟨-, a', cell', e1, e2, -, e3⟩ := Term.static_spec h2 hv
    cases h4.symm.trans e1
    cases h5.symm.trans e2
    refine ⟨c, k, i, f, a, cell, w, h1, h2, h3, h4, h5, h6, h7, h8, h9, e3, ?_, fun z => ?_⟩
    · simp only [Cond.before, Cond.holds, Cond.value, hv] at hr
      cases w <;> first | rfl | (simp at hr)
    · have := hA a z
      have := (Array.getElem?_eq_some_iff.mp h5).1
      omega
theorem law_start {p : Program} {e : Env} {s : State} {m : MethodId} {below : List Frame} {meth : Method} {c : Code} (l : Launch) (hltr : l.stackTraces = false) {b N : Nat} {xs : Nat → Int32} (C0 : lw_At p s m meth c b N xs) (hnm : meth.name = "law")
    (hE : Ev (R_La, code, 7, ret, x_law b N xs, "law") room_1 x_finL 0 [some (g_o b), none, none, none, none, none, none] [] [] (fun _ _ => 0) 0 0) : W p l e room_1 s m #[Value.ref b] below meth c s.heap [] 0 0 (lw_Z below #[Value.ref b] s) (entryFrame m ([Value.ref b] : List Value).toArray 7) := by
  obtain ⟨hx, hb, hr, hml, hown, hts, hX, hbl, hlocks, hgv⟩ := C0
  have hs := flat_of_before _ hgv
  have hgts : ∀ w ∈ gw, w.before #[Value.ref b] s = true := fun w hw => hts w (List.mem_filter.mp hw).1
  obtain ⟨D, hD⟩ := x_kn hgts
  obtain ⟨c1, a1, r1⟩ := x_ar (hgts _ gm_36) (fun _ h => by cases h)
  obtain ⟨c2, a2, r2⟩ := x_ar (hgts _ gm_63) (fun _ h => by cases h)
  obtain ⟨c3, a3, r3⟩ := x_ar (hgts _ gm_953) (fun _ h => by cases h)
  have hK : va_K D vwCl (g_tys (c1, c2, c3)) s := by
    refine ⟨hD, fun k q hq => ?_⟩
    match k with
    | 0 => cases hq; exact ⟨a1, r1⟩
    | 1 => cases hq; exact ⟨a2, r2⟩
    | 2 => cases hq; exact ⟨a3, r3⟩
    | k + 3 => simp [g_tys] at hq
  have hFu : ∃ d, s.vm.findClass R_Fu = some d := ⟨_, (hD 0 _ rfl).2.1⟩
  obtain ⟨dF, hFu⟩ := hFu
  have hN : x_N s := by
    refine ⟨fun c0 hc0 => va_Nw.of rfl (hts _ ?_), fun y hy => va_Nw.of rfl (hts _ ?_), fun q hq => va_Nc.of (args := #[Value.ref b]) (hs _ ?_), fun q hq => ?_⟩
    · revert hc0
      revert c0
      decide +kernel
    · revert hy
      revert y
      decide +kernel
    · revert hq
      revert q
      decide +kernel
    · have hmem : Cond.stringRef R_Fu q.1 q.2 ∈ lw_tbl := by
        revert hq
        revert q
        decide +kernel
      obtain ⟨k, cf, i, a', hk, hcf, hcp, -, hr9, hev⟩ := Cond.stringRef_spec hFu (hts _ hmem)
      exact ⟨a', vk_R.of (hts _ hmem) hev⟩
  have hnest : ∀ q ∈ g_nest, va_Nw (.methodLinkNest q.1 q.2.1 q.2.2.1 q.2.2.2) s := by
    intro q hq
    refine va_Nw.of rfl (hts _ ?_)
    revert hq
    revert q
    decide +kernel
  have hZ : x_Z (fun q => s.heap.size ≤ q) s s.heap := ⟨x_st (hts _ (by decide +kernel)) (hs _ (by decide +kernel)) (fun _ h => h), x_st (hts _ (by decide +kernel)) (hs _ (by decide +kernel)) (fun _ h => h)⟩
  have hl := lv_entry ([.ref b]) (n := 7) (Nat.le_of_ble_eq_true rfl)
  rw [lg_entry_eq]
  refine hE p l e s m _ below meth c _ D (c1, c2, c3) (fun q => s.heap.size ≤ q) ⟨⟨hx, hb, hml, hown, hgts⟩, hr, hlocks, ⟨hK, hnest, hN⟩, fun _ h => h, ⟨hZ, fun q h cell hc => ?_, hltr, hX, hbl, fun h => ?_⟩, hnm⟩ (fun _ => 0) s.heap [] _ ⟨fun k q hq => ?_, ⟨fun i j p q hi => ?_, fun k q hq => ?_⟩, va_S.rf, fun _ _ => g_rg0, fun k ci fs i j hk => ?_⟩ ⟨⟨hl.1, hl.2.1, fun i v hi => ?_⟩, fun i v hi => ?_, fun v hv => absurd hv List.not_mem_nil⟩ ?_
  · have := (Array.getElem?_eq_some_iff.mp hc).1
    omega
  · exact Nat.not_le.mpr hbl h
  · simp [g_W] at hq
  · simp [g_W] at hi
  · simp [g_W] at hq
  · simp at hk
  · match i with
    | 0 => cases hi; exact hl.2.2 (0, .ref b) List.mem_cons_self
    | i + 1 =>
      have : (([none, none, none, none, none, none] : g_Ls)[i]?) = some (some v) := hi
      have h9 : ∀ x ∈ ([none, none, none, none, none, none] : g_Ls), x = none := by decide
      have := h9 _ (List.mem_of_getElem? this)
      cases this
  · match i with
    | 0 => cases hi; exact trivial
    | i + 1 =>
      have : (([none, none, none, none, none, none] : g_Ls)[i]?) = some (some v) := hi
      have h9 : ∀ x ∈ ([none, none, none, none, none, none] : g_Ls), x = none := by decide
      have := h9 _ (List.mem_of_getElem? this)
      cases this
  · intro pc' ls' st' L2 M2 nc' ns' ad' H' locs' lsA' hf f2 f3 hH' hV'
    obtain ⟨hd, rfl, n1, n2⟩ := hf
    refine va_forget (fun q hq => hH'.2.2.1.2.2 q hq) (W.widen n1 n2 ?_)
    exact lw_ret hx hb hr hlocks hd
