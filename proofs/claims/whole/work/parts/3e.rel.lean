/-! contracts that tell a relation, not one memory -/
section REL
variable {Me : g_Me} {R : Room} {Fi : g_Fin} {pc q : Nat} {ls : g_Ls} {st : List g_v} {L : g_L} {M : g_M} {nc ns : Nat}
def g_PostR (D : va_G) (cs : g_cs) (A : Nat → Prop) (ad : Nat → Nat) (n0 : Nat) (L' : g_L) (G : g_M → Option g_v → Prop) : Array Value → State → Outcome → State → Prop := fun a st oc t => ∃ (M' : g_M) (r : Option g_v), G M' r ∧ g_Post D cs A ad n0 L' M' r a st oc t
def ConR (y : MethodName) (ws : List Cond) (rm : Room) (L : g_L) (M : g_M) (av : List g_v) (L' : g_L) (G : g_M → Option g_v → Prop) : Prop :=
  (∀ k j, g_rg (M k j)) → g_wf L → (∀ v ∈ av, g_okl L.length v) → ∀ (l : Launch) (D : va_G) (cs : g_cs) (ad : Nat → Nat) (sz : Nat),
    Met l y ws rm (g_Pre D cs ad L M av sz) (g_PostR D cs (va_A (g_W cs ad L M) sz) ad L.length L' G) rm.cells rm.slots (va_A (g_W cs ad L M) sz)
theorem g_callR {p : Program} {l : Launch} {e : Env} {s : State} {m : MethodId} {args : Array Value} {below : List Frame} {meth : Method} {c : Code} {H : Heap} {locs : List Loc} {cells slots : Nat} {Q : State → Prop}
    {lsA : Array Slot} {rest st0 : List Value} {a : Array Value} {A0 A1 : Nat → Prop} {H0 : Heap} {mc ms : Nat} {free : Addr → Prop} {D : va_G} {cs : g_cs} {ad : Nat → Nat} {n0 : Nat} {L' : g_L} {G : g_M → Option g_v → Prop}
    (hr : va_Run p l e R s m args below meth c H locs cells slots mc ms (F0 m pc lsA st0) rest (g_PostR D cs A1 ad n0 L' G a) free) (hS : va_S A0 H0 H locs) (hA : ∀ q, q < H.size → A1 q → A0 q) (hf : ∀ q, free q → A0 q)
    (kk : ∀ (M' : g_M) (r : Option g_v), G M' r → ∀ (ad' : Nat → Nat) (H1 : Heap) (locs1 : List Loc), (∀ k, k < n0 → ad' k = ad k) → n0 ≤ L'.length → va_P D vwCl (g_W cs ad' L' M') H1 → va_D A1 (g_W cs ad' L' M') → (∀ k j, g_rg (M' k j)) → g_wf L' → (∀ v, r = some v → g_ok L'.length v) → va_S A0 H0 H1 locs1 →
      W p l e R s m args below meth c H1 locs1 (cells + mc) (slots + ms) Q (F0 m (pc + 3) lsA ((r.map (g_val ad')).toList ++ rest))) : W p l e R s m args below meth c H locs cells slots Q (F0 m pc lsA st0) := by
  intro T hT X
  obtain ⟨v, st₀, t, T', Lo, h0, X', hL, e1, e2, ⟨M', r, hG, ⟨ad', a1, a2, a3, a4, a6, a7, a8, a9⟩, hz, hk⟩, st9⟩ := hr T hT X
  have a3 := Outcome.returned.inj a3
  subst a3
  rw [h0] at hz hk
  obtain ⟨t2, b1, b2⟩ := kk M' r hG ad' T'.heap (locs ++ Lo) a1 a2 (by rw [e1]; exact a4) a6 a7 a8 a9
    ⟨Nat.le_trans hS.1 (by rw [e1]; exact hz), fun q h1 h2 => by rw [e1, hk q (Nat.lt_of_lt_of_le h1 hS.1) (fun z => h2 (hA q (Nat.lt_of_lt_of_le h1 hS.1) z))]; exact hS.2.1 q h1 h2, fun q hq => by
      rcases List.mem_append.mp hq with h | h
      · exact hS.2.2 q h
      · exact hf _ (hL q h)⟩ T' rfl X'
  exact ⟨t2, st9 t2 b1, b2⟩
theorem g_callER {p : Program} {l : Launch} {e : Env} {s : State} {m : MethodId} {args : Array Value} {below : List Frame} {meth : Method} {c : Code} {H : Heap} {locs : List Loc} {Q : State → Prop}
    {lsA : Array Slot} {st0 : List g_v} {a : Array Value} {A : Nat → Prop} {mc ms : Nat} {D : va_G} {cs : g_cs} {ad : Nat → Nat} {L' : g_L} {G : g_M → Option g_v → Prop} {av : List g_v}
    (C0 : g_Cx Me p l s m args meth c D cs A) (hH : g_H D cs A s.heap ad L M H locs) (hV : g_V ad L.length Me.2.2.1 lsA ls st0) (hs : st0 = av.reverse ++ st)
    (hF : ∀ (pc' : Nat) (ls' : g_Ls) (st' : List g_v) (L' : g_L) (M' : g_M) (nc' ns' : Nat) (ad' : Nat → Nat) (H' : Heap) (locs' : List Loc) (lsA' : Array Slot), Fi pc' ls' st' L' M' nc' ns' → (∀ k, k < L.length → ad' k = ad k) → L.length ≤ L'.length → g_H D cs A s.heap ad' L' M' H' locs' → g_V ad' L'.length Me.2.2.1 lsA' ls' st' → W p l e R s m args below meth c H' locs' nc' ns' Q (F0 m pc' lsA' (st'.map (g_val ad'))))
    (kk : ∀ (M' : g_M) (r : Option g_v), G M' r → Ev Me R Fi (pc + 3) ls (r.toList ++ st) L' M' (nc + mc) (ns + ms))
    (hr : va_Run p l e R s m args below meth c H locs nc ns mc ms (F0 m pc lsA (st0.map (g_val ad))) (st.map (g_val ad)) (g_PostR D cs (va_A (g_W cs ad L M) H.size) ad L.length L' G a) (va_A (g_W cs ad L M) H.size)) :
    W p l e R s m args below meth c H locs nc ns Q (F0 m pc lsA (st0.map (g_val ad))) := by
  have hA1 := g_A1 hH C0.2.2.2.2.1
  refine g_callR hr hH.2.2.1 (fun x _ h => hA1 x h) hA1 ?_
  intro M' r hG ad' H1 locs1 b1 b2 b3 b4 b5 b6 b7 b8
  have hst : ∀ v ∈ st, g_ok L.length v := fun v hv => hV.2.2 v (by rw [hs]; exact List.mem_append_right _ hv)
  have h9 := kk M' r hG p l e s m args below meth c Q D cs A C0 ad' H1 locs1 lsA ⟨b3, b4.weaken (fun _ x _ h => hA1 x.1 h), b8, b5, b6⟩
    ⟨⟨hV.1.1, hV.1.2.1, fun i v hi => by rw [g_val_ad (g_okl_ok (hV.2.1 i v hi)) b1]; exact hV.1.2.2 i v hi⟩, fun i v hi => g_okl_le (hV.2.1 i v hi) b2, fun v hv => by
      rcases List.mem_append.mp hv with h | h
      · exact b7 v (by simpa using h)
      · exact g_ok_le (hst v h) b2⟩
    (fun pc' ls' st' L2 M2 nc' ns' ad2 H' locs' lsA' f1 f2 f3 f4 f5 => hF pc' ls' st' L2 M2 nc' ns' ad2 H' locs' lsA' f1 (fun k hk => (f2 k (Nat.lt_of_lt_of_le hk b2)).trans (b1 k hk)) (Nat.le_trans b2 f3) f4 f5)
  rw [List.map_append, g_map_ad hst b1] at h9
  have e9 : (r.map (g_val ad')).toList = r.toList.map (g_val ad') := by cases r <;> rfl
  rw [e9]
  exact h9
theorem ev_callVR {idx maxL ci k : Nat} {y : MethodName} {ws : List Cond} {rm : Room} {fsr : List g_F} {As st0 : List g_v} {L' : g_L} {G : g_M → Option g_v → Prop} {nc' ns' : Nat} (h : decode Me.2.1 pc = .ok (.invokevirtual idx, 3)) (hq : pc + 3 = q) (hC : g_CV Me.1 idx y ws As.length maxL ci) (hM : ConR y ws rm L M (g_r k :: As) L' G)
    (hR : rm.frames + 1 ≤ R.frames ∧ 8 + (maxL + 11) + rm.locals ≤ R.locals) (hcs : nc + rm.cells ≤ R.cells ∧ ns + rm.slots ≤ R.slots) (hk : L[k]? = some (.inr (ci, fsr))) (hnj : As.all g_nj = true) (hs : st0 = (g_r k :: As).reverse ++ st) (hst : (st.map g_cw).sum ≤ 8) (hnc : nc + rm.cells = nc') (hns : ns + rm.slots = ns')
    (kk : ∀ (M' : g_M) (r : Option g_v), G M' r → Ev Me R Fi q ls (r.toList ++ st) L' M' nc' ns') : Ev Me R Fi pc ls st0 L M nc ns := by
  subst hq
  subst hnc
  subst hns
  intro p l e s m args below meth c Q D cs A C0 ad H locs lsA hH hV hF
  obtain ⟨⟨bytes, ret, ws', hw⟩, hG, hd, T, N, hc⟩ := hC
  have hav : ∀ v ∈ g_r k :: As, g_okl L.length v := by
    intro v hv
    refine g_nj_okl ?_ (hV.2.2 v (by rw [hs]; exact List.mem_append_left _ (List.mem_reverse.mpr hv)))
    rcases List.mem_cons.mp hv with rfl | hv
    · rfl
    · exact List.all_eq_true.mp hnj v hv
  have hrun := va_runV (b := ad k) (As := As.map (g_val ad)) (rest := st.map (g_val ad)) (g := F0 m pc lsA (st0.map (g_val ad))) (H := H) (e := e) (below := below) (meth := meth) (locs := locs) (cells := nc) (slots := ns) C0.1 (hM hH.2.2.2.1 hH.2.2.2.2 hav l D cs ad H.size)
    (cwV As.length C0.1.2.2.2.2 hG hw rfl rfl ⟨rfl, hd⟩ hR) ⟨g_blind, va_recv C0.2.2.2.1.1 hH.1 hc (g_W_at hk), fun U hU hW => g_preC (av := g_r k :: As) C0.2.2.2.1 C0.2.2.2.2.2.1.1 C0.2.2.2.2.1 hH U hU hW⟩ rfl (by simp) hV.1.1 (by rw [hs]; simp [g_val]) (lv_room (by rw [g_cw_sum]; exact hst)) h hcs
  exact g_callER C0 hH hV hs hF kk hrun
theorem ev_callSR {idx maxL : Nat} {y : MethodName} {ws : List Cond} {rm : Room} {As st0 : List g_v} {L' : g_L} {G : g_M → Option g_v → Prop} {nc' ns' : Nat} (h : decode Me.2.1 pc = .ok (.invokestatic idx, 3)) (hq : pc + 3 = q) (hC : g_CS Me.1 idx y ws As.length maxL) (hM : ConR y ws rm L M As L' G)
    (hR : rm.frames + 1 ≤ R.frames ∧ 8 + (maxL + 11) + rm.locals ≤ R.locals) (hcs : nc + rm.cells ≤ R.cells ∧ ns + rm.slots ≤ R.slots) (hnj : As.all g_nj = true) (hs : st0 = As.reverse ++ st) (hst : (st.map g_cw).sum ≤ 8) (hnc : nc + rm.cells = nc') (hns : ns + rm.slots = ns')
    (kk : ∀ (M' : g_M) (r : Option g_v), G M' r → Ev Me R Fi q ls (r.toList ++ st) L' M' nc' ns') : Ev Me R Fi pc ls st0 L M nc ns := by
  subst hq
  subst hnc
  subst hns
  intro p l e s m args below meth c Q D cs A C0 ad H locs lsA hH hV hF
  obtain ⟨⟨bytes, ret, ws', hw⟩, hG, hd, h1, h2, h3⟩ := hC
  have hts := C0.1.2.2.2.2
  have hav : ∀ v ∈ As, g_okl L.length v := by
    intro v hv
    exact g_nj_okl (List.all_eq_true.mp hnj v hv) (hV.2.2 v (by rw [hs]; exact List.mem_append_left _ (List.mem_reverse.mpr hv)))
  have hrun := va_runS (As := As.map (g_val ad)) (rest := st.map (g_val ad)) (g := F0 m pc lsA (st0.map (g_val ad))) (H := H) (e := e) (below := below) (meth := meth) (locs := locs) (cells := nc) (slots := ns) C0.1 (hM hH.2.2.2.1 hH.2.2.2.2 hav l D cs ad H.size)
    ⟨callB_of As.length hts hG hw rfl rfl (hts _ h2) (hts _ h3) hd hR, hts _ h1⟩ ⟨g_blind, fun U hU hW => g_preC C0.2.2.2.1 C0.2.2.2.2.2.1.1 C0.2.2.2.2.1 hH U hU hW⟩ rfl (by simp) hV.1.1 (by rw [hs]; simp) (lv_room (by rw [g_cw_sum]; exact hst)) h hcs
  exact g_callER C0 hH hV hs hF kk hrun
theorem ev_callNR {idx maxL : Nat} {y : MethodName} {ws : List Cond} {rm : Room} {As st0 : List g_v} {L' : g_L} {G : g_M → Option g_v → Prop} {nc' ns' : Nat} (h : decode Me.2.1 pc = .ok (.invokestatic idx, 3)) (hq : pc + 3 = q) (hC : g_CN Me.1 idx y ws As.length maxL) (hM : ConR y ws rm L M As L' G)
    (hR : rm.frames + 1 ≤ R.frames ∧ 8 + (maxL + 11) + rm.locals ≤ R.locals) (hcs : nc + rm.cells ≤ R.cells ∧ ns + rm.slots ≤ R.slots) (hnj : As.all g_nj = true) (hs : st0 = As.reverse ++ st) (hst : (st.map g_cw).sum ≤ 8) (hnc : nc + rm.cells = nc') (hns : ns + rm.slots = ns')
    (kk : ∀ (M' : g_M) (r : Option g_v), G M' r → Ev Me R Fi q ls (r.toList ++ st) L' M' nc' ns') : Ev Me R Fi pc ls st0 L M nc ns := by
  subst hq
  subst hnc
  subst hns
  intro p l e s m args below meth c Q D cs A C0 ad H locs lsA hH hV hF
  obtain ⟨⟨bytes, ret, ws', hw⟩, hG, hd, h1, h2, host, h3⟩ := hC
  have hts := C0.1.2.2.2.2
  have hav : ∀ v ∈ As, g_okl L.length v := by
    intro v hv
    exact g_nj_okl (List.all_eq_true.mp hnj v hv) (hV.2.2 v (by rw [hs]; exact List.mem_append_left _ (List.mem_reverse.mpr hv)))
  have hrun := va_runSN (As := As.map (g_val ad)) (rest := st.map (g_val ad)) (g := F0 m pc lsA (st0.map (g_val ad))) (H := H) (e := e) (below := below) (meth := meth) (locs := locs) (cells := nc) (slots := ns) C0.1 (hM hH.2.2.2.1 hH.2.2.2.2 hav l D cs ad H.size)
    ⟨va_cnB As.length hts hG hw rfl rfl (C0.2.2.2.1.2.1 _ h3) (hts _ h2) hd hR, hts _ h1, trivial⟩ ⟨g_blind, fun U hU hW => g_preC C0.2.2.2.1 C0.2.2.2.2.2.1.1 C0.2.2.2.2.1 hH U hU hW⟩ rfl (by simp) hV.1.1 (by rw [hs]; simp) (lv_room (by rw [g_cw_sum]; exact hst)) h hcs
  exact g_callER C0 hH hV hs hF kk hrun
def g_finR (cc : ByteArray) (ret : Option FieldType) (mc ms : Nat) (L' : g_L) (G : g_M → Option g_v → Prop) : g_Fin := fun pc _ st L2 M2 nc ns => L2 = L' ∧ nc ≤ mc ∧ ns ≤ ms ∧ ∃ r : Option g_v, G M2 r ∧ st = r.toList ∧ match r with
  | none => decode cc pc = .ok (.return_, 1) ∧ ret = none
  | some (.inl z) => decode cc pc = .ok (.ireturn, 1) ∧ (ret = some .int ∨ (ret = some .boolean ∧ (z = 0 ∨ z = 1)))
  | _ => False
theorem con_ofR {y : MethodName} {ws ws' : List Cond} {rm : Room} {bytes : ByteArray} {maxL : Nat} {ret : Option FieldType} {av : List g_v} {ls0 : g_Ls} {L' : g_L} {G : g_M → Option g_v → Prop} (hy : plainName y.cls = true) (hw : ws = Cond.code y bytes maxL ret :: ws') (hlen : av.length ≤ maxL) (hls : ∀ (i : Nat) (v : g_v), ls0[i]? = some (some v) → av[i]? = some v)
    (hgw : ∀ w ∈ gw, w ∈ ws) (hE : Ev (y.cls, bytes, maxL, ret, (fun _ _ _ _ => True), y.name) rm (g_finR bytes ret rm.cells rm.slots L' G) 0 ls0 [] L M 0 0) : ConR y ws rm L M av L' G := by
  intro hRg hwf hav l D cs ad sz
  refine Met.ofW (cc := bytes) (maxL := maxL) (ret := ret) hy hw ?_
  intro p e s m args below meth c s₁ B hml hv
  obtain ⟨rfl, hsz, hP, hK, hD0, hZ0⟩ := hv
  subst hsz
  have hts := atoms_spec (ws := ws) B.pre
  have hown : s.vm.findClass y.cls = some m.cls := findClass_of_methodNamed B.named
  have hnm : meth.name = y.name := (name_of_methodNamed B.named B.method).1
  have hl := lv_entry (av.map (g_val ad)) (n := maxL) (by rw [g_sl av hav]; exact hlen)
  rw [lg_entry_eq]
  refine hE p l e s m _ below meth c _ D cs (va_A (g_W cs ad L M) s.heap.size) ⟨⟨B.exec, B.bytes, hml, hown, fun w hw => hts w (hgw w hw)⟩, B.returns, B.notSynchronized, hK, fun x h => Or.inr h, ⟨hZ0, x_no_of hP, trivial⟩, hnm⟩ ad s.heap [] _ ⟨hP, hD0.self, va_S.rf, hRg, hwf⟩ ⟨⟨hl.1, hl.2.1, fun i v hi => ?_⟩, fun i v hi => ?_, fun v hv => absurd hv List.not_mem_nil⟩ ?_
  · have h1 := g_args (ad := ad) av 0 i v hav (hls i v hi)
    rw [Nat.zero_add] at h1
    exact hl.2.2 _ h1
  · exact hav v (List.mem_of_getElem? (hls i v hi))
  · intro pc' ls' st' L2 M2 nc' ns' ad' H' locs' lsA' hf f2 f3 hH' hV'
    obtain ⟨rfl, n1, n2, r, hG, rfl, hr⟩ := hf
    refine W.widen n1 n2 ?_
    have hpost : ∀ t : State, t.heap = H' → s.WarmedH t.vm → g_PostR D cs (va_A (g_W cs ad L M) s.heap.size) ad L.length L2 G (av.map (g_val ad)).toArray s (.returned (r.map (g_val ad'))) t :=
      fun t ht hW => ⟨M2, r, hG, ⟨ad', f2, f3, rfl, by rw [ht]; exact hH'.1, hH'.2.1, hH'.2.2.2.1, hH'.2.2.2.2, fun v hv => hV'.2.2 v (by rw [hv]; exact List.mem_cons_self)⟩, hH'.2.2.1.F ht⟩
    rcases r with _ | z | k | z | a
    · exact W.vret B.exec B.bytes (B.returns.trans hr.2) hpost hH'.2.2.1.2.2 hr.1
    · obtain ⟨hr1, hr2 | ⟨hr2, hz⟩⟩ := hr
      · exact W.iret B.exec B.bytes (B.returns.trans hr2) hpost hH'.2.2.1.2.2 hr1
      · refine W.zret B.exec B.bytes (B.returns.trans hr2) ?_ hpost hH'.2.2.1.2.2 hr1
        rcases hz with rfl | rfl
        · decide +kernel
        · decide +kernel
    · exact absurd hr id
    · exact absurd hr id
    · exact absurd hr id
theorem ev_retIR {mc ms : Nat} {z : Int} {cc : ByteArray} {ret : Option FieldType} {G : g_M → Option g_v → Prop} (h : decode cc pc = .ok (.ireturn, 1)) (hG : G M (some (g_i z))) (hr : ret = some .int ∨ (ret = some .boolean ∧ (z = 0 ∨ z = 1))) (hc : nc ≤ mc := by first | exact Nat.le_refl _ | decide) (hs : ns ≤ ms := by first | exact Nat.le_refl _ | decide) : Ev Me R (g_finR cc ret mc ms L G) pc ls [g_i z] L M nc ns :=
  ev_done ⟨rfl, hc, hs, some (g_i z), hG, rfl, h, hr⟩
theorem ev_retVR {mc ms : Nat} {cc : ByteArray} {ret : Option FieldType} {G : g_M → Option g_v → Prop} (h : decode cc pc = .ok (.return_, 1)) (hG : G M none) (hr : ret = none := by rfl) (hc : nc ≤ mc := by first | exact Nat.le_refl _ | decide) (hs : ns ≤ ms := by first | exact Nat.le_refl _ | decide) : Ev Me R (g_finR cc ret mc ms L G) pc ls [] L M nc ns :=
  ev_done ⟨rfl, hc, hs, none, hG, rfl, h, hr⟩
/-- a loop with an invariant: P n holds at its head, n falls -/
theorem ev_wh (P : Nat → g_Ls → g_M → Prop) (stp : ∀ n ls M, P n ls M → (∀ n' ls' M', n' < n → P n' ls' M' → Ev Me R Fi pc ls' st L M' nc ns) → Ev Me R Fi pc ls st L M nc ns) {n : Nat} (h : P n ls M) : Ev Me R Fi pc ls st L M nc ns := by
  have key : ∀ k n ls M, n < k → P n ls M → Ev Me R Fi pc ls st L M nc ns := by
    intro k
    induction k with
    | zero => intro n _ _ hn; omega
    | succ k ih =>
      intro n ls M hn hP
      exact stp n ls M hP (fun n' ls' M' h1 h2 => ih n' ls' M' (by omega) h2)
  exact key (n + 1) n ls M (by omega) h
end REL
