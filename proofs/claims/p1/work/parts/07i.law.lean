section LW2
variable {Me : g_Me} {R : Room} {Fi : g_Fin} {pc q : Nat} {ls : g_Ls} {st : List g_v} {L : g_L} {M : g_M} {nc ns : Nat}
/-- a static method with a table of handlers -/
def g_CW (own : String) (idx : Nat) (y : MethodName) (ws : List Cond) (n maxL : Nat) : Prop :=
  (∃ (bytes : ByteArray) (ret : Option FieldType) (hh : List (Nat × Nat × Nat × Nat)) (ws' : List Cond), ws = Cond.codeWith y bytes maxL ret hh :: ws') ∧ GoodIn gw ws ∧ (y.cls ≠ "java/lang/invoke/MethodHandle" ∧ y.cls ≠ "java/lang/invoke/VarHandle" ∧ (parseMethodDescriptor y.desc).map (fun d => d.parameters.length) = some n) ∧ Cond.static y ∈ gw ∧ Cond.initialized y.cls ∈ gw ∧ Cond.methodLink own idx y ∈ gw
theorem ev_callW {idx maxL : Nat} {y : MethodName} {ws : List Cond} {rm : Room} {As st0 : List g_v} {L' : g_L} {M' : g_M} {r : Option g_v} {nc' ns' : Nat} (hl0 : ∀ l s c A, Me.2.2.2.2.1 l s c A → l.stackTraces = false) (h : decode Me.2.1 pc = .ok (.invokestatic idx, 3)) (hq : pc + 3 = q) (hC : g_CW Me.1 idx y ws As.length maxL) (hM : ConL y ws rm L M As L' M' r)
    (hR : rm.frames + 1 ≤ R.frames ∧ 8 + (maxL + 11) + rm.locals ≤ R.locals) (hcs : nc + rm.cells ≤ R.cells ∧ ns + rm.slots ≤ R.slots) (hnj : As.all g_nj = true) (hs : st0 = As.reverse ++ st) (hst : (st.map g_cw).sum ≤ 8) (hnc : nc + rm.cells = nc') (hns : ns + rm.slots = ns')
    (kk : Ev Me R Fi q ls (r.toList ++ st) L' M' nc' ns') : Ev Me R Fi pc ls st0 L M nc ns := by
  subst hq
  subst hnc
  subst hns
  intro p l e s m args below meth c Q D cs A C0 ad H locs lsA hH hV hF
  obtain ⟨⟨bytes, ret, hh, ws', hw⟩, hG, hd, h1, h2, h3⟩ := hC
  have hts := C0.1.2.2.2.2
  have hltr := hl0 _ _ _ _ C0.2.2.2.2.2.1.2.2
  have hav : ∀ v ∈ As, g_okl L.length v := by
    intro v hv
    exact g_nj_okl (List.all_eq_true.mp hnj v hv) (hV.2.2 v (by rw [hs]; exact List.mem_append_left _ (List.mem_reverse.mpr hv)))
  have hcw : Cond.codeWith y bytes maxL ret hh ∈ ws := by rw [hw]; exact List.mem_cons_self
  have hwsU : ∀ w ∈ ws, ∀ (a' : Array Value) (U : State), s.WarmedH U.vm → w.before a' U = true := pay_in hts hG
  have hK : Back l R p e below s args y 3 8 (PreOf R rm.cells rm.slots (g_Pre D cs ad L M As H.size)) (PostOf (g_Post D cs (va_A (g_W cs ad L M) H.size) ad L.length L' M' r) rm.cells rm.slots (va_A (g_W cs ad L M) H.size)) :=
    va_backW (hh := hh) (bytes := bytes) (maxL := maxL) (ret := ret) (hM hH.2.2.2.1 hH.2.2.2.2 hav l hltr D cs ad H.size) g_blind rfl rfl hR.1 hR.2 hwsU hcw (fun a' U hW => word_at hW (Or.inl (by first | rfl | simp [Cond.onTables, Cond.keeps, Cond.steady])) (hts _ h2))
  have hrun : va_Run p l e R s m args below meth c H locs nc ns rm.cells rm.slots (F0 m pc lsA (st0.map (g_val ad))) (st.map (g_val ad)) (g_Post D cs (va_A (g_W cs ad L M) H.size) ad L.length L' M' r (As.map (g_val ad)).toArray) (va_A (g_W cs ad L M) H.size) := by
    intro T hT X
    obtain ⟨mk, methM, cM, hnamed, hmethM, -, -, -, -, -, -, hsigM⟩ := Cond.codeWith_spec (hts _ (hG _ hcw).1)
    have hstatic : methM.isStatic = true := Cond.static_spec hnamed hmethM (hts _ h1)
    obtain ⟨kP, hkP, -⟩ := className_of_methodNamed hnamed
    have hinitP : kP.init = .initialized := Cond.initialized_spec (findClass_of_methodNamed hnamed) hkP (hts _ h2)
    obtain ⟨vm₁, X₁, hstep₁⟩ := X.invokestatic C0.1.1 C0.1.2.2.2.1 (hts _ h3) hnamed hmethM hstatic hkP hinitP ⟨hd.1, hd.2.1⟩ (g := F0 m pc lsA (st0.map (g_val ad))) rfl (argsL := As.map (g_val ad)) (rest := st.map (g_val ad)) (by
      have h9 := hd.2.2
      rw [hsigM] at h9
      rw [List.length_map]
      exact (Option.some.inj h9).symm) (by rw [hs]; simp) (by rw [C0.1.2.1]; exact h)
    obtain ⟨v, ⟨U', l2, c2, s2⟩, X', ⟨g', mk', t, Lo, e1, e2, hq9, g1, hLo, g2, g3⟩, hsteps⟩ := hK m meth c ⟨T.setVm vm₁, locs, nc, ns⟩ (F0 m pc lsA (st.map (g_val ad))) (.invokestatic idx) mk (As.map (g_val ad)).toArray X₁ rfl (by rw [C0.1.2.2.1]; exact hV.1.1) (by rw [C0.1.2.1]; exact h) (lv_room (by rw [g_cw_sum]; exact hst)) (X₁.named hnamed) ⟨hcs.1, hcs.2, g_preC C0.2.2.2.1 C0.2.2.2.2.2.1.1 C0.2.2.2.2.1 hH (T.setVm vm₁) hT X₁.warmed⟩
    dsimp only [Pt.U, Pt.locs, Pt.cells, Pt.slots] at X' e1 e2 g1 g2 g3 hsteps
    subst g1; subst g2; subst g3
    exact ⟨v, (T.setVm vm₁).calling g' mk' (As.map (g_val ad)).toArray, t, U', Lo, hT, X', hLo, e1, e2, hq9, fun target h9 => hstep₁ _ fun acts => by rw [doInvoke_state]; exact hsteps.trans h9⟩
  exact g_callE C0 hH hV hs hF kk hrun
end LW2
