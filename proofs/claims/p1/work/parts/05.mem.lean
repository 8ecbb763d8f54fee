section GEN3
variable {Me : g_Me} {R : Room} {Fi : g_Fin} {pc q : Nat} {ls : g_Ls} {st : List g_v} {L : g_L} {M : g_M} {nc ns : Nat}
/-- a field of a method's pool: class number, place, and the words -/
def g_Fl (own : String) (idx ci i : Nat) (C : String) (T : u_T) (N : Nat) : Prop := vwCl[ci]? = some (C, T, N) ∧ i < N ∧ (∀ w ∈ u_ws C T N, w ∈ gw) ∧ Cond.fieldLink own idx (T i).1 (T i).2.1 (T i).2.2.1 ∈ gw
def g_Fp (T : u_T) (N i : Nat) (ty : FieldType) (fin : Bool) : Prop := (∃ ty0 : Nat → FieldType, ∀ k, k < N → parseFieldDescriptor (T k).2.2.1 = some (ty0 k)) ∧ (∀ a, a < N → ∀ b, b < N → a ≠ b → (T a).2.1 ≠ (T b).2.1) ∧ (T i).2.2.2 = fin ∧ parseFieldDescriptor (T i).2.2.1 = some ty
theorem ev_getI {k i ci idx N : Nat} {C : String} {T : u_T} {fs : List g_F} {z : Int} (h : decode Me.2.1 pc = .ok (.getfield idx, 3)) (hq : pc + 3 = q) (lk : g_Fl Me.1 idx ci i C T N) (hL : L[k]? = some (.inr (ci, fs))) (hf : fs[i]? = some none) (hz : M k i = z) (kk : Ev Me R Fi q ls (g_i z :: st) L M nc ns) : Ev Me R Fi pc ls (g_r k :: st) L M nc ns := by
  subst hq
  subst hz
  intro p l e s m args below meth c Q D cs A C0 ad H locs lsA hH hV hF
  refine va_get (D := D) (v := .int (Int32.ofInt (M k i))) C0.1.1 C0.1.2.1 C0.1.2.2.2.2 lk.2.2.1 C0.1.2.2.2.1 C0.2.2.2.1.1 hH.1 k (g_W_at hL) lk.1 i lk.2.1 (C0.1.2.2.2.2 _ lk.2.2.2) (fun _ h9 => h9) (by simp [List.getElem?_mapIdx, hf, g_fld]) h ?_
  exact kk p l e s m args below meth c Q D cs A C0 ad H locs lsA hH (g_V_st hV (g_st1 (hH.2.2.2.1 k i) (g_tl hV.2.2))) hF
theorem ev_getR {k i j ci idx N : Nat} {C : String} {T : u_T} {fs : List g_F} (h : decode Me.2.1 pc = .ok (.getfield idx, 3)) (hq : pc + 3 = q) (lk : g_Fl Me.1 idx ci i C T N) (hL : L[k]? = some (.inr (ci, fs))) (hf : fs[i]? = some (some (some j))) (kk : Ev Me R Fi q ls (g_r j :: st) L M nc ns) : Ev Me R Fi pc ls (g_r k :: st) L M nc ns := by
  subst hq
  intro p l e s m args below meth c Q D cs A C0 ad H locs lsA hH hV hF
  refine va_get (D := D) (v := .ref (ad j)) C0.1.1 C0.1.2.1 C0.1.2.2.2.2 lk.2.2.1 C0.1.2.2.2.1 C0.2.2.2.1.1 hH.1 k (g_W_at hL) lk.1 i lk.2.1 (C0.1.2.2.2.2 _ lk.2.2.2) (fun _ h9 => h9) (by simp [List.getElem?_mapIdx, hf, g_fld]) h ?_
  exact kk p l e s m args below meth c Q D cs A C0 ad H locs lsA hH (g_V_st hV (g_st1 (v := g_r j) (hH.2.2.2.2 k ci fs i j hL hf) (g_tl hV.2.2))) hF
theorem g_fs_set {ad : Nat → Nat} {f : Nat → Int} {fs : List g_F} {i : Nat} {z : Int} (hf : fs[i]? = some none) : (fs.mapIdx (g_fld ad f)).set i (.int (Int32.ofInt z)) = fs.mapIdx (g_fld ad (fun b => if b = i then z else f b)) := by
  apply List.ext_getElem?
  intro j
  have hi : i < fs.length := (List.getElem?_eq_some_iff.mp hf).1
  by_cases hj : j = i
  · subst hj
    rw [List.getElem?_set_self (by simpa using hi)]
    simp [List.getElem?_mapIdx, hf, g_fld]
  · rw [List.getElem?_set_ne (Ne.symm hj)]
    simp only [List.getElem?_mapIdx]
    cases fs[j]? with
    | none => rfl
    | some x =>
      rcases x with _ | _ | x
      · simp [g_fld, hj]
      · rfl
      · rfl
theorem g_up_k (M : g_M) (k i : Nat) (z : Int) : g_up M k i z k = fun b => if b = i then z else M k b := by
  funext b
  simp [g_up]
theorem g_W_put {cs : g_cs} {ad : Nat → Nat} {k i ci : Nat} {fs : List g_F} {z : Int} (hL : L[k]? = some (.inr (ci, fs))) (hf : fs[i]? = some none) :
    (g_W cs ad L M).set k (ad k, .inr (ci, (fs.mapIdx (g_fld ad (M k))).set i (.int (Int32.ofInt z)))) = g_W cs ad L (g_up M k i z) := by
  rw [← g_W_set hL (fun a ha => g_upN (i := i) (z := z) ha), g_fs_set hf, ← g_up_k]
  rfl
theorem ev_putI {k i ci idx N : Nat} {C : String} {T : u_T} {fs : List g_F} {z : Int} {ty : FieldType} (h : decode Me.2.1 pc = .ok (.putfield idx, 3)) (hq : pc + 3 = q) (lk : g_Fl Me.1 idx ci i C T N) (pf : g_Fp T N i ty false) (hz : ty = .int ∨ (ty = .boolean ∧ (z = 0 ∨ z = 1))) (hL : L[k]? = some (.inr (ci, fs))) (hf : fs[i]? = some none) (kk : Ev Me R Fi q ls st L (g_up M k i z) nc ns) : Ev Me R Fi pc ls (g_i z :: g_r k :: st) L M nc ns := by
  subst hq
  intro p l e s m args below meth c Q D cs A C0 ad H locs lsA hH hV hF
  obtain ⟨⟨ty0, h0⟩, hnm, hfin, hd⟩ := pf
  have hi : i < fs.length := (List.getElem?_eq_some_iff.mp hf).1
  have hnf : narrow ty (.int (Int32.ofInt z)) = .int (Int32.ofInt z) ∧ fits ty (.int (Int32.ofInt z)) = true := by
    rcases hz with rfl | ⟨rfl, rfl | rfl⟩
    · exact ⟨rfl, rfl⟩
    · exact ⟨by decide +kernel, by decide +kernel⟩
    · exact ⟨by decide +kernel, by decide +kernel⟩
  refine va_put (D := D) (v := .int (Int32.ofInt z)) (ty := ty) C0.1.1 C0.1.2.1 C0.1.2.2.2.2 lk.2.2.1 ty0 h0 hnm C0.1.2.2.2.1 C0.2.2.2.1.1 hH.1 hH.2.1 hH.2.2.1 k (g_W_at hL) lk.1 i lk.2.1 (C0.1.2.2.2.2 _ lk.2.2.2) (fun _ h9 => h9) hfin hd hnf.1 hnf.2 (by simpa using hi) h ?_
  intro H1 locs1 a1 a2 a3
  rw [g_W_put hL hf] at a1 a2
  exact kk p l e s m args below meth c Q D cs A C0 ad H1 locs1 lsA ⟨a1, a2, a3, g_up_rg hH.2.2.2.1 (g_hd hV.2.2), hH.2.2.2.2⟩ (g_V_st hV (g_tl (g_tl hV.2.2))) hF
theorem ev_iaload {k n : Nat} {x z : Int} (h : decode Me.2.1 pc = .ok (.iaload, 1)) (hq : pc + 1 = q) (hL : L[k]? = some (.inl (0, n))) (h0 : 0 ≤ x) (hn : x < n) (hz : M k x.toNat = z) (kk : Ev Me R Fi q ls (g_i z :: st) L M nc ns) : Ev Me R Fi pc ls (g_i x :: g_r k :: st) L M nc ns := by
  subst hq
  subst hz
  intro p l e s m args below meth c Q D cs A C0 ad H locs lsA hH hV hF
  have hx : g_rg x := g_hd hV.2.2
  refine va_iald (D := D) C0.1.1 C0.1.2.1 C0.2.2.2.1.1 hH.1 k 0 (g_W_at hL) rfl (g_in hx h0 hn) h ?_
  rw [g_cl hx h0]
  exact kk p l e s m args below meth c Q D cs A C0 ad H locs lsA hH (g_V_st hV (g_st1 (hH.2.2.2.1 k x.toNat) (g_tl (g_tl hV.2.2)))) hF
theorem ev_baload {k n : Nat} {x z : Int} (h : decode Me.2.1 pc = .ok (.baload, 1)) (hq : pc + 1 = q) (hL : L[k]? = some (.inl (1, n))) (h0 : 0 ≤ x) (hn : x < n) (hz : M k x.toNat = z) (kk : Ev Me R Fi q ls (g_i z :: st) L M nc ns) : Ev Me R Fi pc ls (g_i x :: g_r k :: st) L M nc ns := by
  subst hq
  subst hz
  intro p l e s m args below meth c Q D cs A C0 ad H locs lsA hH hV hF
  have hx : g_rg x := g_hd hV.2.2
  refine va_zald (D := D) C0.1.1 C0.1.2.1 C0.2.2.2.1.1 hH.1 k 1 (g_W_at hL) rfl (g_in hx h0 hn) h ?_
  rw [g_cl hx h0]
  exact kk p l e s m args below meth c Q D cs A C0 ad H locs lsA hH (g_V_st hV (g_st1 (hH.2.2.2.1 k x.toNat) (g_tl (g_tl hV.2.2)))) hF
theorem g_updI (f : Nat → Int) (i : Nat) (z : Int) : upd (fun j => Int32.ofInt (f j)) i (Int32.ofInt z) = fun j => Int32.ofInt (if j = i then z else f j) := by
  funext j
  unfold upd
  split <;> rfl
theorem ev_iastore {k n : Nat} {x z : Int} (h : decode Me.2.1 pc = .ok (.iastore, 1)) (hq : pc + 1 = q) (hL : L[k]? = some (.inl (0, n))) (h0 : 0 ≤ x) (hn : x < n) (kk : Ev Me R Fi q ls st L (g_up M k x.toNat z) nc ns) : Ev Me R Fi pc ls (g_i z :: g_i x :: g_r k :: st) L M nc ns := by
  subst hq
  intro p l e s m args below meth c Q D cs A C0 ad H locs lsA hH hV hF
  have hx : g_rg x := g_hd (g_tl hV.2.2)
  refine va_iast (D := D) C0.1.1 C0.1.2.1 C0.2.2.2.1.1 hH.1 hH.2.1 hH.2.2.1 k 0 (g_W_at hL) rfl (g_in hx h0 hn) h ?_
  intro H1 locs1 a1 a2 a3
  rw [g_cl hx h0, g_updI] at a1 a2
  have e9 : (g_W cs ad L M).set k (ad k, .inl (cs.1, n, .inl (fun j => Int32.ofInt (if j = x.toNat then z else M k j)))) = g_W cs ad L (g_up M k x.toNat z) := by
    rw [← g_W_set hL (fun a ha => g_upN (i := x.toNat) (z := z) ha)]
    simp only [g_ent, g_arr, g_up_k]
  rw [e9] at a1 a2
  exact kk p l e s m args below meth c Q D cs A C0 ad H1 locs1 lsA ⟨a1, a2, a3, g_up_rg hH.2.2.2.1 (g_hd hV.2.2), hH.2.2.2.2⟩ (g_V_st hV (g_tl (g_tl (g_tl hV.2.2)))) hF
theorem ev_bastore {k n : Nat} {x z : Int} (h : decode Me.2.1 pc = .ok (.bastore, 1)) (hq : pc + 1 = q) (hL : L[k]? = some (.inl (1, n))) (h0 : 0 ≤ x) (hn : x < n) (hz : z = 0 ∨ z = 1) (kk : Ev Me R Fi q ls st L (g_up M k x.toNat z) nc ns) : Ev Me R Fi pc ls (g_i z :: g_i x :: g_r k :: st) L M nc ns := by
  subst hq
  intro p l e s m args below meth c Q D cs A C0 ad H locs lsA hH hV hF
  have hx : g_rg x := g_hd (g_tl hV.2.2)
  have hzz : vp_nar .boolean (Int32.ofInt z) = Int32.ofInt z := by
    rcases hz with rfl | rfl
    · decide +kernel
    · decide +kernel
  refine va_zast (D := D) C0.1.1 C0.1.2.1 C0.2.2.2.1.1 hH.1 hH.2.1 hH.2.2.1 k 1 (g_W_at hL) rfl (g_in hx h0 hn) h ?_
  intro H1 locs1 a1 a2 a3
  rw [hzz, g_cl hx h0, g_updI] at a1 a2
  have e9 : (g_W cs ad L M).set k (ad k, .inl (cs.2.1, n, .inl (fun j => Int32.ofInt (if j = x.toNat then z else M k j)))) = g_W cs ad L (g_up M k x.toNat z) := by
    rw [← g_W_set hL (fun a ha => g_upN (i := x.toNat) (z := z) ha)]
    simp only [g_ent, g_arr, g_up_k]
  rw [e9] at a1 a2
  exact kk p l e s m args below meth c Q D cs A C0 ad H1 locs1 lsA ⟨a1, a2, a3, g_up_rg hH.2.2.2.1 (g_hd hV.2.2), hH.2.2.2.2⟩ (g_V_st hV (g_tl (g_tl (g_tl hV.2.2)))) hF
/-! contracts -/
def g_Pre (D : va_G) (cs : g_cs) (ad : Nat → Nat) (L : g_L) (M : g_M) (av : List g_v) (sz : Nat) : Array Value → State → Prop :=
  va_Pc (av.map (g_val ad)) (fun U => U.heap.size = sz ∧ va_P D vwCl (g_W cs ad L M) U.heap ∧ g_K D cs U ∧ va_D (fun _ => True) (g_W cs ad L M) ∧ x_Z (va_A (g_W cs ad L M) sz) U U.heap)
def g_Post (D : va_G) (cs : g_cs) (A : Nat → Prop) (ad : Nat → Nat) (n0 : Nat) (L' : g_L) (M' : g_M) (r : Option g_v) : Array Value → State → Outcome → State → Prop := fun _ st oc t =>
  (∃ ad' : Nat → Nat, (∀ k, k < n0 → ad' k = ad k) ∧ n0 ≤ L'.length ∧ oc = .returned (r.map (g_val ad')) ∧ va_P D vwCl (g_W cs ad' L' M') t.heap ∧ va_D A (g_W cs ad' L' M') ∧ (∀ k j, g_rg (M' k j)) ∧ g_wf L' ∧ ∀ v, r = some v → g_ok L'.length v) ∧ va_F A st t
/-- y, called with the values av in the memory M, comes back with r and the memory M' -/
def Con (y : MethodName) (ws : List Cond) (rm : Room) (L : g_L) (M : g_M) (av : List g_v) (L' : g_L) (M' : g_M) (r : Option g_v) : Prop :=
  (∀ k j, g_rg (M k j)) → g_wf L → (∀ v ∈ av, g_okl L.length v) → ∀ (l : Launch) (D : va_G) (cs : g_cs) (ad : Nat → Nat) (sz : Nat),
    Met l y ws rm (g_Pre D cs ad L M av sz) (g_Post D cs (va_A (g_W cs ad L M) sz) ad L.length L' M' r) rm.cells rm.slots (va_A (g_W cs ad L M) sz)
theorem g_blind {D : va_G} {cs : g_cs} {ad : Nat → Nat} {av : List g_v} {sz : Nat} : FrameBlind (g_Pre D cs ad L M av sz) := by
  intro a U g mk h
  obtain ⟨q0, q1, qP, qK, qD, qZ⟩ := h
  exact ⟨q0, q1, qP, ⟨va_K.moved (u := U) (U := U.calling g mk a) (Vm.Alike.refl U.vm) qK.1, fun w hw => va_Nw.same (u := U) (U := U.calling g mk a) rfl rfl (qK.2.1 w hw), x_N.same (u := U) (U := U.calling g mk a) rfl qK.2.2⟩, qD, x_Z.moved (u := U) (U := U.calling g mk a) (Vm.Alike.refl U.vm) qZ⟩
def g_cw (v : g_v) : Nat := if g_nj v = true then 1 else 2
theorem g_cw_sum (ad : Nat → Nat) (st : List g_v) : ((st.map (g_val ad)).map fun v => v.category).sum = (st.map g_cw).sum := by
  congr 1
  rw [List.map_map]
  refine List.map_congr_left fun v _ => ?_
  rcases v with z | k | z | a <;> rfl
/-- behind a call -/
theorem g_call {p : Program} {l : Launch} {e : Env} {s : State} {m : MethodId} {args : Array Value} {below : List Frame} {meth : Method} {c : Code} {H : Heap} {locs : List Loc} {cells slots : Nat} {Q : State → Prop}
    {lsA : Array Slot} {rest st0 : List Value} {a : Array Value} {A0 A1 : Nat → Prop} {H0 : Heap} {mc ms : Nat} {free : Addr → Prop} {D : va_G} {cs : g_cs} {ad : Nat → Nat} {n0 : Nat} {L' : g_L} {M' : g_M} {r : Option g_v}
    (hr : va_Run p l e R s m args below meth c H locs cells slots mc ms (F0 m pc lsA st0) rest (g_Post D cs A1 ad n0 L' M' r a) free) (hS : va_S A0 H0 H locs) (hA : ∀ q, q < H.size → A1 q → A0 q) (hf : ∀ q, free q → A0 q)
    (kk : ∀ (ad' : Nat → Nat) (H1 : Heap) (locs1 : List Loc), (∀ k, k < n0 → ad' k = ad k) → n0 ≤ L'.length → va_P D vwCl (g_W cs ad' L' M') H1 → va_D A1 (g_W cs ad' L' M') → (∀ k j, g_rg (M' k j)) → g_wf L' → (∀ v, r = some v → g_ok L'.length v) → va_S A0 H0 H1 locs1 →
      W p l e R s m args below meth c H1 locs1 (cells + mc) (slots + ms) Q (F0 m (pc + 3) lsA ((r.map (g_val ad')).toList ++ rest))) : W p l e R s m args below meth c H locs cells slots Q (F0 m pc lsA st0) := by
  intro T hT X
  obtain ⟨v, st₀, t, T', Lo, h0, X', hL, e1, e2, ⟨⟨ad', a1, a2, a3, a4, a6, a7, a8, a9⟩, hz, hk⟩, st9⟩ := hr T hT X
  have a3 := Outcome.returned.inj a3
  subst a3
  rw [h0] at hz hk
  obtain ⟨t2, b1, b2⟩ := kk ad' T'.heap (locs ++ Lo) a1 a2 (by rw [e1]; exact a4) a6 a7 a8 a9
    ⟨Nat.le_trans hS.1 (by rw [e1]; exact hz), fun q h1 h2 => by rw [e1, hk q (Nat.lt_of_lt_of_le h1 hS.1) (fun z => h2 (hA q (Nat.lt_of_lt_of_le h1 hS.1) z))]; exact hS.2.1 q h1 h2, fun q hq => by
      rcases List.mem_append.mp hq with h | h
      · exact hS.2.2 q h
      · exact hf _ (hL q h)⟩ T' rfl X'
  exact ⟨t2, st9 t2 b1, b2⟩
theorem g_A1 {D : va_G} {cs : g_cs} {ad : Nat → Nat} {A : Nat → Prop} {H0 H : Heap} {locs : List Loc} (hH : g_H D cs A H0 ad L M H locs) (hA : ∀ q, H0.size ≤ q → A q) : ∀ x, va_A (g_W cs ad L M) H.size x → A x := by
  intro x h
  rcases h with ⟨k, e, h⟩ | h
  · exact hH.2.1.2 k (x, e) h
  · exact hA x (Nat.le_trans hH.2.2.1.1 h)
/-- the end of every call's row -/
theorem g_callE {p : Program} {l : Launch} {e : Env} {s : State} {m : MethodId} {args : Array Value} {below : List Frame} {meth : Method} {c : Code} {H : Heap} {locs : List Loc} {Q : State → Prop}
    {lsA : Array Slot} {st0 : List g_v} {a : Array Value} {A : Nat → Prop} {mc ms : Nat} {D : va_G} {cs : g_cs} {ad : Nat → Nat} {L' : g_L} {M' : g_M} {r : Option g_v} {av : List g_v}
    (C0 : g_Cx Me p l s m args meth c D cs A) (hH : g_H D cs A s.heap ad L M H locs) (hV : g_V ad L.length Me.2.2.1 lsA ls st0) (hs : st0 = av.reverse ++ st)
    (hF : ∀ (pc' : Nat) (ls' : g_Ls) (st' : List g_v) (L' : g_L) (M' : g_M) (nc' ns' : Nat) (ad' : Nat → Nat) (H' : Heap) (locs' : List Loc) (lsA' : Array Slot), Fi pc' ls' st' L' M' nc' ns' → (∀ k, k < L.length → ad' k = ad k) → L.length ≤ L'.length → g_H D cs A s.heap ad' L' M' H' locs' → g_V ad' L'.length Me.2.2.1 lsA' ls' st' → W p l e R s m args below meth c H' locs' nc' ns' Q (F0 m pc' lsA' (st'.map (g_val ad'))))
    (kk : Ev Me R Fi (pc + 3) ls (r.toList ++ st) L' M' (nc + mc) (ns + ms))
    (hr : va_Run p l e R s m args below meth c H locs nc ns mc ms (F0 m pc lsA (st0.map (g_val ad))) (st.map (g_val ad)) (g_Post D cs (va_A (g_W cs ad L M) H.size) ad L.length L' M' r a) (va_A (g_W cs ad L M) H.size)) :
    W p l e R s m args below meth c H locs nc ns Q (F0 m pc lsA (st0.map (g_val ad))) := by
  have hA1 := g_A1 hH C0.2.2.2.2.1
  refine g_call hr hH.2.2.1 (fun x _ h => hA1 x h) hA1 ?_
  intro ad' H1 locs1 b1 b2 b3 b4 b5 b6 b7 b8
  have hst : ∀ v ∈ st, g_ok L.length v := fun v hv => hV.2.2 v (by rw [hs]; exact List.mem_append_right _ hv)
  have h9 := kk p l e s m args below meth c Q D cs A C0 ad' H1 locs1 lsA ⟨b3, b4.weaken (fun _ x _ h => hA1 x.1 h), b8, b5, b6⟩
    ⟨⟨hV.1.1, hV.1.2.1, fun i v hi => by rw [g_val_ad (g_okl_ok (hV.2.1 i v hi)) b1]; exact hV.1.2.2 i v hi⟩, fun i v hi => g_okl_le (hV.2.1 i v hi) b2, fun v hv => by
      rcases List.mem_append.mp hv with h | h
      · exact b7 v (by simpa using h)
      · exact g_ok_le (hst v h) b2⟩
    (fun pc' ls' st' L2 M2 nc' ns' ad2 H' locs' lsA' f1 f2 f3 f4 f5 => hF pc' ls' st' L2 M2 nc' ns' ad2 H' locs' lsA' f1 (fun k hk => (f2 k (Nat.lt_of_lt_of_le hk b2)).trans (b1 k hk)) (Nat.le_trans b2 f3) f4 f5)
  rw [List.map_append, g_map_ad hst b1] at h9
  have e9 : (r.map (g_val ad')).toList = r.toList.map (g_val ad') := by cases r <;> rfl
  rw [e9]
  exact h9
end GEN3
