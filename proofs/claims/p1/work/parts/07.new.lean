section GEN5
variable {Me : g_Me} {R : Room} {Fi : g_Fin} {pc q : Nat} {ls : g_Ls} {st : List g_v} {L : g_L} {M : g_M} {nc ns : Nat}
def g_clr (M : g_M) (k : Nat) : g_M := fun a b => if a = k then 0 else M a b
def g_ad (ad : Nat → Nat) (k x : Nat) : Nat → Nat := fun j => if j = k then x else ad j
theorem g_ad_lt {ad : Nat → Nat} {n x : Nat} : ∀ k, k < n → g_ad ad n x k = ad k := by
  intro k hk
  simp [g_ad, Nat.ne_of_lt hk]
theorem g_ad_eq {ad : Nat → Nat} {n x : Nat} : g_ad ad n x n = x := by simp [g_ad]
theorem g_clr_rg {M : g_M} {k : Nat} (h : ∀ k j, g_rg (M k j)) : ∀ a b, g_rg (g_clr M k a b) := by
  intro a b
  unfold g_clr
  split
  · exact g_rg0
  · exact h a b
theorem g_clr_k (M : g_M) (k : Nat) : g_clr M k k = fun _ => 0 := by
  funext b
  simp [g_clr]
theorem g_ent_ad {cs : g_cs} {ad ad' : Nat → Nat} {M' : g_M} {j : Nat} {c : g_C} (hwf : g_wf L) (hj : L[j]? = some c) (ha : ∀ k, k < L.length → ad' k = ad k) (hM : M' j = M j) : g_ent cs ad' M' j c = g_ent cs ad M j c := by
  have hl : j < L.length := (List.getElem?_eq_some_iff.mp hj).1
  rcases c with ⟨t, n⟩ | ⟨ci, fs⟩
  · simp only [g_ent, hM, ha j hl]
  · simp only [g_ent, hM, ha j hl]
    congr 3
    apply List.ext_getElem?
    intro i
    simp only [List.getElem?_mapIdx]
    cases hi : fs[i]? with
    | none => rfl
    | some x =>
      rcases x with _ | _ | x
      · rfl
      · rfl
      · simp only [Option.map_some, g_fld]
        rw [ha x (hwf j ci fs i x hj hi)]
theorem g_W_add {cs : g_cs} {ad : Nat → Nat} {x : Nat} {c : g_C} (hwf : g_wf L) : g_W cs (g_ad ad L.length x) (L ++ [c]) (g_clr M L.length) = g_W cs ad L M ++ [g_ent cs (g_ad ad L.length x) (g_clr M L.length) L.length c] := by
  apply List.ext_getElem?
  intro j
  have hlen : (g_W cs ad L M).length = L.length := by simp [g_W]
  rcases Nat.lt_trichotomy j L.length with hj | hj | hj
  · rw [List.getElem?_append_left (by omega)]
    obtain ⟨c0, hc0⟩ : ∃ c0, L[j]? = some c0 := ⟨L[j], List.getElem?_eq_getElem hj⟩
    rw [g_W_at (L := L ++ [c]) (c := c0) (by rw [List.getElem?_append_left hj]; exact hc0), g_W_at hc0]
    rw [g_ent_ad (M := M) hwf hc0 g_ad_lt (by funext b; simp [g_clr, Nat.ne_of_lt hj])]
  · subst hj
    rw [List.getElem?_append_right (by omega), hlen, Nat.sub_self]
    rw [g_W_at (L := L ++ [c]) (c := c) (by simp)]
    rfl
  · rw [List.getElem?_append_right (by omega)]
    have h1 : (g_W cs (g_ad ad L.length x) (L ++ [c]) (g_clr M L.length))[j]? = none := by
      rw [List.getElem?_eq_none_iff]
      simp [g_W]
      omega
    rw [h1]
    symm
    rw [List.getElem?_eq_none_iff]
    simp
    omega
theorem g_wf_add {c : g_C} (hwf : g_wf L) (hc : ∀ (ci : Nat) (fs : List g_F) (i j : Nat), c = .inr (ci, fs) → fs[i]? ≠ some (some (some j))) : g_wf (L ++ [c]) := by
  intro k ci fs i j hk hi
  by_cases hkl : k < L.length
  · rw [List.getElem?_append_left hkl] at hk
    have := hwf k ci fs i j hk hi
    simp
    omega
  · rw [List.getElem?_append_right (by omega)] at hk
    have hz : k - L.length < 1 := (List.getElem?_eq_some_iff.mp hk).1
    rw [show k - L.length = 0 by omega] at hk
    have e := Option.some.inj hk
    exact absurd hi (hc ci fs i j e)
theorem g_V_ad {ad ad' : Nat → Nat} {n n' nL : Nat} {lsA : Array Slot} (h : g_V ad n nL lsA ls st) (ha : ∀ k, k < n → ad' k = ad k) (hn : n ≤ n') : g_V ad' n' nL lsA ls st :=
  ⟨⟨h.1.1, h.1.2.1, fun i v hi => by rw [g_val_ad (g_okl_ok (h.2.1 i v hi)) ha]; exact h.1.2.2 i v hi⟩, fun i v hi => g_okl_le (h.2.1 i v hi) hn, fun v hv => g_ok_le (h.2.2 v hv) hn⟩
def g_df (x : g_F) : Value := match x with
  | none => .int 0
  | some _ => .null
def g_blank (fs : List g_F) : Bool := fs.all (fun x => match x with
  | some (some _) => false
  | _ => true)
theorem g_blank_at {fs : List g_F} (h : g_blank fs = true) (i j : Nat) : fs[i]? ≠ some (some (some j)) := by
  intro hi
  have := List.all_eq_true.mp h _ (List.mem_of_getElem? hi)
  simp at this
theorem g_blank_map {fs : List g_F} {ad : Nat → Nat} (h : g_blank fs = true) : fs.mapIdx (g_fld ad (fun _ => 0)) = fs.map g_df := by
  apply List.ext_getElem?
  intro i
  simp only [List.getElem?_mapIdx, List.getElem?_map]
  cases hi : fs[i]? with
  | none => rfl
  | some x =>
    rcases x with _ | _ | x
    · rfl
    · rfl
    · exact absurd hi (g_blank_at h i x)
def g_Nl (own : String) (idx ci : Nat) (C : String) (T : u_T) (N : Nat) (fs : List g_F) : Prop :=
  vwCl[ci]? = some (C, T, N) ∧ (∀ w ∈ u_ws C T N, w ∈ gw) ∧ Cond.classLink own idx C ∈ gw ∧ Cond.instantiable C N ∈ gw ∧ Cond.initialized C ∈ gw ∧ g_blank fs = true ∧ ∃ ty : Nat → FieldType, (∀ k, k < N → parseFieldDescriptor (T k).2.2.1 = some (ty k)) ∧ ∀ j, j < N → defaultValue (ty j) = vp_V (fs.map g_df) j
theorem ev_new {idx ci N : Nat} {C : String} {T : u_T} {fs : List g_F} {nc' ns' : Nat} (h : decode Me.2.1 pc = .ok (.new idx, 3)) (hq : pc + 3 = q) (hn : g_Nl Me.1 idx ci C T N fs) (hcs : nc + 1 ≤ R.cells ∧ ns + N ≤ R.slots) (hnc : nc + 1 = nc') (hns : ns + N = ns')
    (kk : Ev Me R Fi q ls (g_r L.length :: st) (L ++ [.inr (ci, fs)]) (g_clr M L.length) nc' ns') : Ev Me R Fi pc ls st L M nc ns := by
  subst hq
  subst hnc
  subst hns
  intro p l e s m args below meth c Q D cs A C0 ad H locs lsA hH hV hF
  obtain ⟨hc, hin, h1, h2, h3, hbl, ty, hty, hfs⟩ := hn
  have hts := C0.1.2.2.2.2
  refine va_new (D := D) (fs := fs.map g_df) C0.1.1 C0.1.2.1 hts hin ty hty C0.1.2.2.2.1 (hts _ h1) (hts _ h2) (hts _ h3) C0.2.2.2.1.1 hH.1 hH.2.1 hH.2.2.1 C0.2.2.2.2.1 hc hfs hcs.1 hcs.2 h ?_
  intro x H1 a1 a2 a3
  have e9 : g_W cs ad L M ++ [(x, .inr (ci, fs.map g_df))] = g_W cs (g_ad ad L.length x) (L ++ [.inr (ci, fs)]) (g_clr M L.length) := by
    rw [g_W_add hH.2.2.2.2]
    simp only [g_ent, g_clr_k, g_ad_eq, g_blank_map hbl]
  rw [e9] at a1 a2
  have hV2 : g_V (g_ad ad L.length x) (L ++ [(.inr (ci, fs) : g_C)]).length Me.2.2.1 lsA ls st := g_V_ad hV g_ad_lt (by simp)
  have hk := kk p l e s m args below meth c Q D cs A C0 (g_ad ad L.length x) H1 locs lsA ⟨a1, a2, a3, g_clr_rg hH.2.2.2.1, g_wf_add hH.2.2.2.2 (fun ci' fs' i j e0 => by
      have e1 := Sum.inr.inj e0
      cases e1
      exact g_blank_at hbl i j)⟩
    (g_V_st hV2 (g_st1 (v := g_r L.length) (by show L.length < _; simp) hV2.2.2))
    (fun pc' ls' st' L2 M2 nc' ns' ad2 H' locs' lsA' f1 f2 f3 f4 f5 => hF pc' ls' st' L2 M2 nc' ns' ad2 H' locs' lsA' f1 (fun k hk => (f2 k (by simp; omega)).trans (g_ad_lt k hk)) (by simp at f3; omega) f4 f5)
  rw [List.map_cons, g_map_ad hV.2.2 g_ad_lt] at hk
  have e8 : g_val (g_ad ad L.length x) (g_r L.length) = .ref x := by
    show Value.ref (g_ad ad L.length x L.length) = _
    rw [g_ad_eq]
  rw [e8] at hk
  exact hk
theorem ev_newarr0 {n : Int} {nc' ns' : Nat} (h : decode Me.2.1 pc = .ok (.newarray .int, 2)) (hq : pc + 2 = q) (hw : Cond.arrayClass .int ∈ gw) (h0 : 0 ≤ n) (hb : n ≤ 100000) (hcs : nc + 1 ≤ R.cells ∧ ns + n.toNat ≤ R.slots) (hnc : nc + 1 = nc') (hns : ns + n.toNat = ns')
    (kk : Ev Me R Fi q ls (g_r L.length :: st) (L ++ [.inl (0, n.toNat)]) (g_clr M L.length) nc' ns') : Ev Me R Fi pc ls (g_i n :: st) L M nc ns := by
  subst hq
  subst hnc
  subst hns
  intro p l e s m args below meth c Q D cs A C0 ad H locs lsA hH hV hF
  have hts := C0.1.2.2.2.2
  have hn : g_rg n := g_hd hV.2.2
  refine va_newa (D := D) (atype := .int) (tys := g_tys cs) (ty := .int) (a0 := (n.toNat, .inl (fun _ => Int32.ofInt 0))) C0.1.1 C0.1.2.1 (hts _ hw) rfl C0.2.2.2.1.1 hH.1 hH.2.1 hH.2.2.1 C0.2.2.2.2.1 (fun cA => by rfl) (fun h9 => by have h8 := (g_ltI (x := n) (y := 0) hn g_rg0).mp h9; omega) (g_cl hn h0) (by show n.toNat * 4 ≤ _; omega) hcs.1 hcs.2 h ?_
  intro x cA H1 hK' a1 a2 a3
  have hcA : cA = cs.1 := by
    have z1 : va_RA s cA .int := (hK'.2 3 (cA, .int) rfl).2
    have z2 : va_RA s cs.1 .int := (C0.2.2.2.1.1.2 0 (cs.1, .int) rfl).2
    exact Option.some.inj ((show s.vm.findClass _ = some cA from z1).symm.trans (show s.vm.findClass _ = some cs.1 from z2))
  subst hcA
  have e9 : g_W cs ad L M ++ [(x, .inl (cs.1, n.toNat, .inl (fun _ => Int32.ofInt 0)))] = g_W cs (g_ad ad L.length x) (L ++ [.inl (0, n.toNat)]) (g_clr M L.length) := by
    rw [g_W_add hH.2.2.2.2]
    simp only [g_ent, g_clr_k, g_ad_eq, g_arr]
  rw [e9] at a1 a2
  have hV1 := g_V_st hV (g_tl hV.2.2)
  have hV2 : g_V (g_ad ad L.length x) (L ++ [(.inl (0, n.toNat) : g_C)]).length Me.2.2.1 lsA ls st := g_V_ad hV1 g_ad_lt (by simp)
  have hk := kk p l e s m args below meth c Q D cs A C0 (g_ad ad L.length x) H1 locs lsA ⟨a1, a2, a3, g_clr_rg hH.2.2.2.1, g_wf_add hH.2.2.2.2 (fun ci' fs' i j e0 => by cases e0)⟩
    (g_V_st hV2 (g_st1 (v := g_r L.length) (by show L.length < _; simp) hV2.2.2))
    (fun pc' ls' st' L2 M2 nc' ns' ad2 H' locs' lsA' f1 f2 f3 f4 f5 => hF pc' ls' st' L2 M2 nc' ns' ad2 H' locs' lsA' f1 (fun k hk => (f2 k (by simp; omega)).trans (g_ad_lt k hk)) (by simp at f3; omega) f4 f5)
  rw [List.map_cons, g_map_ad hV1.2.2 g_ad_lt] at hk
  have e8 : g_val (g_ad ad L.length x) (g_r L.length) = .ref x := by
    show Value.ref (g_ad ad L.length x L.length) = _
    rw [g_ad_eq]
  rw [e8] at hk
  exact hk
theorem ev_newarr1 {n : Int} {nc' ns' : Nat} (h : decode Me.2.1 pc = .ok (.newarray .boolean, 2)) (hq : pc + 2 = q) (hw : Cond.arrayClass .boolean ∈ gw) (h0 : 0 ≤ n) (hb : n ≤ 100000) (hcs : nc + 1 ≤ R.cells ∧ ns + n.toNat ≤ R.slots) (hnc : nc + 1 = nc') (hns : ns + n.toNat = ns')
    (kk : Ev Me R Fi q ls (g_r L.length :: st) (L ++ [.inl (1, n.toNat)]) (g_clr M L.length) nc' ns') : Ev Me R Fi pc ls (g_i n :: st) L M nc ns := by
  subst hq
  subst hnc
  subst hns
  intro p l e s m args below meth c Q D cs A C0 ad H locs lsA hH hV hF
  have hts := C0.1.2.2.2.2
  have hn : g_rg n := g_hd hV.2.2
  refine va_newa (D := D) (atype := .boolean) (tys := g_tys cs) (ty := .boolean) (a0 := (n.toNat, .inl (fun _ => Int32.ofInt 0))) C0.1.1 C0.1.2.1 (hts _ hw) rfl C0.2.2.2.1.1 hH.1 hH.2.1 hH.2.2.1 C0.2.2.2.2.1 (fun cA => by rfl) (fun h9 => by have h8 := (g_ltI (x := n) (y := 0) hn g_rg0).mp h9; omega) (g_cl hn h0) (by show n.toNat * 1 ≤ _; omega) hcs.1 hcs.2 h ?_
  intro x cA H1 hK' a1 a2 a3
  have hcA : cA = cs.2.1 := by
    have z1 : va_RA s cA .boolean := (hK'.2 3 (cA, .boolean) rfl).2
    have z2 : va_RA s cs.2.1 .boolean := (C0.2.2.2.1.1.2 1 (cs.2.1, .boolean) rfl).2
    exact Option.some.inj ((show s.vm.findClass _ = some cA from z1).symm.trans (show s.vm.findClass _ = some cs.2.1 from z2))
  subst hcA
  have e9 : g_W cs ad L M ++ [(x, .inl (cs.2.1, n.toNat, .inl (fun _ => Int32.ofInt 0)))] = g_W cs (g_ad ad L.length x) (L ++ [.inl (1, n.toNat)]) (g_clr M L.length) := by
    rw [g_W_add hH.2.2.2.2]
    simp only [g_ent, g_clr_k, g_ad_eq, g_arr]
  rw [e9] at a1 a2
  have hV1 := g_V_st hV (g_tl hV.2.2)
  have hV2 : g_V (g_ad ad L.length x) (L ++ [(.inl (1, n.toNat) : g_C)]).length Me.2.2.1 lsA ls st := g_V_ad hV1 g_ad_lt (by simp)
  have hk := kk p l e s m args below meth c Q D cs A C0 (g_ad ad L.length x) H1 locs lsA ⟨a1, a2, a3, g_clr_rg hH.2.2.2.1, g_wf_add hH.2.2.2.2 (fun ci' fs' i j e0 => by cases e0)⟩
    (g_V_st hV2 (g_st1 (v := g_r L.length) (by show L.length < _; simp) hV2.2.2))
    (fun pc' ls' st' L2 M2 nc' ns' ad2 H' locs' lsA' f1 f2 f3 f4 f5 => hF pc' ls' st' L2 M2 nc' ns' ad2 H' locs' lsA' f1 (fun k hk => (f2 k (by simp; omega)).trans (g_ad_lt k hk)) (by simp at f3; omega) f4 f5)
  rw [List.map_cons, g_map_ad hV1.2.2 g_ad_lt] at hk
  have e8 : g_val (g_ad ad L.length x) (g_r L.length) = .ref x := by
    show Value.ref (g_ad ad L.length x L.length) = _
    rw [g_ad_eq]
  rw [e8] at hk
  exact hk
theorem ev_newarr2 {n : Int} {nc' ns' : Nat} (h : decode Me.2.1 pc = .ok (.newarray .long, 2)) (hq : pc + 2 = q) (hw : Cond.arrayClass .long ∈ gw) (h0 : 0 ≤ n) (hb : n ≤ 100000) (hcs : nc + 1 ≤ R.cells ∧ ns + n.toNat ≤ R.slots) (hnc : nc + 1 = nc') (hns : ns + n.toNat = ns')
    (kk : Ev Me R Fi q ls (g_r L.length :: st) (L ++ [.inl (2, n.toNat)]) (g_clr M L.length) nc' ns') : Ev Me R Fi pc ls (g_i n :: st) L M nc ns := by
  subst hq
  subst hnc
  subst hns
  intro p l e s m args below meth c Q D cs A C0 ad H locs lsA hH hV hF
  have hts := C0.1.2.2.2.2
  have hn : g_rg n := g_hd hV.2.2
  refine va_newa (D := D) (atype := .long) (tys := g_tys cs) (ty := .long) (a0 := (n.toNat, .inr (.inl (fun _ => Int64.ofInt 0)))) C0.1.1 C0.1.2.1 (hts _ hw) rfl C0.2.2.2.1.1 hH.1 hH.2.1 hH.2.2.1 C0.2.2.2.2.1 (fun cA => by rfl) (fun h9 => by have h8 := (g_ltI (x := n) (y := 0) hn g_rg0).mp h9; omega) (g_cl hn h0) (by show n.toNat * 8 ≤ _; omega) hcs.1 hcs.2 h ?_
  intro x cA H1 hK' a1 a2 a3
  have hcA : cA = cs.2.2 := by
    have z1 : va_RA s cA .long := (hK'.2 3 (cA, .long) rfl).2
    have z2 : va_RA s cs.2.2 .long := (C0.2.2.2.1.1.2 2 (cs.2.2, .long) rfl).2
    exact Option.some.inj ((show s.vm.findClass _ = some cA from z1).symm.trans (show s.vm.findClass _ = some cs.2.2 from z2))
  subst hcA
  have e9 : g_W cs ad L M ++ [(x, .inl (cs.2.2, n.toNat, .inr (.inl (fun _ => Int64.ofInt 0))))] = g_W cs (g_ad ad L.length x) (L ++ [.inl (2, n.toNat)]) (g_clr M L.length) := by
    rw [g_W_add hH.2.2.2.2]
    simp only [g_ent, g_clr_k, g_ad_eq, g_arr]
  rw [e9] at a1 a2
  have hV1 := g_V_st hV (g_tl hV.2.2)
  have hV2 : g_V (g_ad ad L.length x) (L ++ [(.inl (2, n.toNat) : g_C)]).length Me.2.2.1 lsA ls st := g_V_ad hV1 g_ad_lt (by simp)
  have hk := kk p l e s m args below meth c Q D cs A C0 (g_ad ad L.length x) H1 locs lsA ⟨a1, a2, a3, g_clr_rg hH.2.2.2.1, g_wf_add hH.2.2.2.2 (fun ci' fs' i j e0 => by cases e0)⟩
    (g_V_st hV2 (g_st1 (v := g_r L.length) (by show L.length < _; simp) hV2.2.2))
    (fun pc' ls' st' L2 M2 nc' ns' ad2 H' locs' lsA' f1 f2 f3 f4 f5 => hF pc' ls' st' L2 M2 nc' ns' ad2 H' locs' lsA' f1 (fun k hk => (f2 k (by simp; omega)).trans (g_ad_lt k hk)) (by simp at f3; omega) f4 f5)
  rw [List.map_cons, g_map_ad hV1.2.2 g_ad_lt] at hk
  have e8 : g_val (g_ad ad L.length x) (g_r L.length) = .ref x := by
    show Value.ref (g_ad ad L.length x L.length) = _
    rw [g_ad_eq]
  rw [e8] at hk
  exact hk
theorem g_W_putR {cs : g_cs} {ad : Nat → Nat} {k i ci j : Nat} {fs : List g_F} (hL : L[k]? = some (.inr (ci, fs))) :
    (g_W cs ad L M).set k (ad k, .inr (ci, (fs.mapIdx (g_fld ad (M k))).set i (.ref (ad j)))) = g_W cs ad (L.set k (.inr (ci, fs.set i (some (some j))))) M := by
  have hk : k < L.length := (List.getElem?_eq_some_iff.mp hL).1
  apply List.ext_getElem?
  intro a
  by_cases ha : a = k
  · subst ha
    rw [List.getElem?_set_self (by simpa [g_W] using hk), g_W_at (c := .inr (ci, fs.set i (some (some j)))) (by rw [List.getElem?_set_self hk])]
    simp only [g_ent]
    congr 4
    apply List.ext_getElem?
    intro b
    by_cases hb : b = i
    · subst hb
      by_cases hl : b < fs.length
      · rw [List.getElem?_set_self (by simpa using hl)]
        simp [List.getElem?_mapIdx, hl, g_fld]
      · rw [List.getElem?_eq_none (by simp; omega), List.getElem?_eq_none (by simp; omega)]
    · rw [List.getElem?_set_ne (Ne.symm hb)]
      simp only [List.getElem?_mapIdx]
      rw [List.getElem?_set_ne (Ne.symm hb)]
  · rw [List.getElem?_set_ne (Ne.symm ha)]
    simp only [g_W, List.getElem?_mapIdx]
    rw [List.getElem?_set_ne (Ne.symm ha)]
theorem g_wf_set {k i ci j : Nat} {fs : List g_F} (hwf : g_wf L) (hL : L[k]? = some (.inr (ci, fs))) (hj : j < L.length) : g_wf (L.set k (.inr (ci, fs.set i (some (some j))))) := by
  have hk : k < L.length := (List.getElem?_eq_some_iff.mp hL).1
  intro a ci' fs' b x ha hb
  rw [List.length_set]
  by_cases hak : a = k
  · subst hak
    rw [List.getElem?_set_self hk] at ha
    have e := Sum.inr.inj (Option.some.inj ha)
    cases e
    by_cases hbi : b = i
    · subst hbi
      have hl : b < fs.length := by
        have := (List.getElem?_eq_some_iff.mp hb).1
        simpa using this
      rw [List.getElem?_set_self hl] at hb
      cases hb
      exact hj
    · rw [List.getElem?_set_ne (Ne.symm hbi)] at hb
      exact hwf a ci fs b x hL hb
  · rw [List.getElem?_set_ne (Ne.symm hak)] at ha
    exact hwf a ci' fs' b x ha hb
theorem ev_putFR {k i j ci idx N : Nat} {C : String} {T : u_T} {fs : List g_F} {ty : FieldType} {L' : g_L} (h : decode Me.2.1 pc = .ok (.putfield idx, 3)) (hq : pc + 3 = q) (lk : g_Fl Me.1 idx ci i C T N) (pf : g_Fp T N i ty true) (hin : Me.2.2.2.2.2 = "<init>") (hdc : (T i).1 = Me.1) (hty : (∃ n, ty = .object n) ∨ ∃ t, ty = .array t) (hL : L[k]? = some (.inr (ci, fs))) (hi : i < fs.length) (hs : L.set k (.inr (ci, fs.set i (some (some j)))) = L') (kk : Ev Me R Fi q ls st L' M nc ns) : Ev Me R Fi pc ls (g_r j :: g_r k :: st) L M nc ns := by
  subst hq
  subst hs
  intro p l e s m args below meth c Q D cs A C0 ad H locs lsA hH hV hF
  obtain ⟨⟨ty0, h0⟩, hnm, hfin, hd⟩ := pf
  have hnf : narrow ty (.ref (ad j)) = .ref (ad j) ∧ fits ty (.ref (ad j)) = true := by
    rcases hty with ⟨n, rfl⟩ | ⟨t, rfl⟩
    · exact ⟨rfl, rfl⟩
    · exact ⟨rfl, rfl⟩
  refine va_putF (D := D) (v := .ref (ad j)) (ty := ty) C0.1.1 C0.1.2.1 C0.1.2.2.2.2 lk.2.2.1 ty0 h0 hnm C0.1.2.2.2.1 C0.2.2.2.1.1 hH.1 hH.2.1 hH.2.2.1 k (g_W_at hL) lk.1 i lk.2.1 (C0.1.2.2.2.2 _ lk.2.2.2) (fun _ h9 => h9) hfin (C0.2.2.2.2.2.2.trans hin) hdc hd hnf.1 hnf.2 (by simpa using hi) h ?_
  intro H1 locs1 a1 a2 a3
  rw [g_W_putR hL] at a1 a2
  have hV2 : g_V ad (L.set k (.inr (ci, fs.set i (some (some j))))).length Me.2.2.1 lsA ls st := by
    rw [List.length_set]
    exact g_V_st hV (g_tl (g_tl hV.2.2))
  exact kk p l e s m args below meth c Q D cs A C0 ad H1 locs1 lsA ⟨a1, a2, a3, hH.2.2.2.1, g_wf_set hH.2.2.2.2 hL (g_hd hV.2.2)⟩ hV2 (fun pc' ls' st' L2 M2 nc' ns' ad2 H' locs' lsA' f1 f2 f3 f4 f5 => hF pc' ls' st' L2 M2 nc' ns' ad2 H' locs' lsA' f1 (fun k hk => f2 k (by rw [List.length_set]; exact hk)) (by rw [List.length_set] at f3; exact f3) f4 f5)
theorem ev_putFI {k i ci idx N : Nat} {C : String} {T : u_T} {fs : List g_F} {z : Int} (h : decode Me.2.1 pc = .ok (.putfield idx, 3)) (hq : pc + 3 = q) (lk : g_Fl Me.1 idx ci i C T N) (pf : g_Fp T N i .int true) (hin : Me.2.2.2.2.2 = "<init>") (hdc : (T i).1 = Me.1) (hL : L[k]? = some (.inr (ci, fs))) (hf : fs[i]? = some none) (kk : Ev Me R Fi q ls st L (g_up M k i z) nc ns) : Ev Me R Fi pc ls (g_i z :: g_r k :: st) L M nc ns := by
  subst hq
  intro p l e s m args below meth c Q D cs A C0 ad H locs lsA hH hV hF
  obtain ⟨⟨ty0, h0⟩, hnm, hfin, hd⟩ := pf
  have hi : i < fs.length := (List.getElem?_eq_some_iff.mp hf).1
  refine va_putF (D := D) (v := .int (Int32.ofInt z)) (ty := .int) C0.1.1 C0.1.2.1 C0.1.2.2.2.2 lk.2.2.1 ty0 h0 hnm C0.1.2.2.2.1 C0.2.2.2.1.1 hH.1 hH.2.1 hH.2.2.1 k (g_W_at hL) lk.1 i lk.2.1 (C0.1.2.2.2.2 _ lk.2.2.2) (fun _ h9 => h9) hfin (C0.2.2.2.2.2.2.trans hin) hdc hd rfl rfl (by simpa using hi) h ?_
  intro H1 locs1 a1 a2 a3
  rw [g_W_put hL hf] at a1 a2
  exact kk p l e s m args below meth c Q D cs A C0 ad H1 locs1 lsA ⟨a1, a2, a3, g_up_rg hH.2.2.2.1 (g_hd hV.2.2), hH.2.2.2.2⟩ (g_V_st hV (g_tl (g_tl hV.2.2))) hF
theorem ev_objInit {k idx : Nat} (h : decode Me.2.1 pc = .ok (.invokespecial idx, 3)) (hq : pc + 3 = q) (h1 : Cond.methodLink Me.1 idx objectInit ∈ gw) (h2 : Cond.instanceMethod objectInit ∈ gw) (h3 : Cond.code objectInit ⟨#[0xb1]⟩ 1 none ∈ gw) (hR : 1 ≤ R.frames ∧ (st.map g_cw).sum + 12 ≤ R.locals) (kk : Ev Me R Fi q ls st L M nc ns) : Ev Me R Fi pc ls (g_r k :: st) L M nc ns := by
  subst hq
  intro p l e s m args below meth c Q D cs A C0 ad H locs lsA hH hV hF
  have hts := C0.1.2.2.2.2
  refine W.objInit (a := ad k) (rest := st.map (g_val ad)) C0.1.1 C0.1.2.1 C0.1.2.2.2.1 (hts _ h1) (hts _ h2) (hts _ h3) rfl (by rw [C0.1.2.2.1]; exact hV.1.1) rfl h hR.1 (by rw [g_cw_sum]; have := hR.2; simpa [JFrame.monitorRoom] using this) ?_
  exact kk p l e s m args below meth c Q D cs A C0 ad H locs lsA hH (g_V_st hV (g_tl hV.2.2)) hF
def g_CI (own : String) (idx : Nat) (y : MethodName) (ws : List Cond) (n maxL : Nat) : Prop :=
  (∃ (bytes : ByteArray) (ws' : List Cond), ws = Cond.code y bytes maxL none :: ws') ∧ GoodIn gw ws ∧ (y.cls ≠ "java/lang/invoke/MethodHandle" ∧ y.cls ≠ "java/lang/invoke/VarHandle" ∧ (parseMethodDescriptor y.desc).map (fun d => d.parameters.length) = some n) ∧ Cond.initialized y.cls ∈ gw ∧ Cond.methodLink own idx y ∈ gw ∧ Cond.instanceMethod y ∈ gw ∧ y.name = "<init>"
theorem ev_callI {idx maxL k : Nat} {y : MethodName} {ws : List Cond} {rm : Room} {As st0 : List g_v} {L' : g_L} {M' : g_M} {nc' ns' : Nat} (h : decode Me.2.1 pc = .ok (.invokespecial idx, 3)) (hq : pc + 3 = q) (hC : g_CI Me.1 idx y ws As.length maxL) (hM : Con y ws rm L M (g_r k :: As) L' M' none)
    (hR : rm.frames + 1 ≤ R.frames ∧ 8 + (maxL + 11) + rm.locals ≤ R.locals) (hcs : nc + rm.cells ≤ R.cells ∧ ns + rm.slots ≤ R.slots) (hnj : As.all g_nj = true) (hs : st0 = (g_r k :: As).reverse ++ st) (hst : (st.map g_cw).sum ≤ 8) (hnc : nc + rm.cells = nc') (hns : ns + rm.slots = ns')
    (kk : Ev Me R Fi q ls st L' M' nc' ns') : Ev Me R Fi pc ls st0 L M nc ns := by
  subst hq
  subst hnc
  subst hns
  intro p l e s m args below meth c Q D cs A C0 ad H locs lsA hH hV hF
  obtain ⟨⟨bytes, ws', hw⟩, hG, hd, h1, h2, h3, h4⟩ := hC
  have hts := C0.1.2.2.2.2
  have hav : ∀ v ∈ g_r k :: As, g_okl L.length v := by
    intro v hv
    refine g_nj_okl ?_ (hV.2.2 v (by rw [hs]; exact List.mem_append_left _ (List.mem_reverse.mpr hv)))
    rcases List.mem_cons.mp hv with rfl | hv
    · rfl
    · exact List.all_eq_true.mp hnj v hv
  have hrun := va_runI (b := ad k) (As := As.map (g_val ad)) (rest := st.map (g_val ad)) (g := F0 m pc lsA (st0.map (g_val ad))) (H := H) (e := e) (below := below) (meth := meth) (locs := locs) (cells := nc) (slots := ns) C0.1 (hM hH.2.2.2.1 hH.2.2.2.2 hav l D cs ad H.size)
    (cwI As.length hts hG hw rfl rfl (hts _ h1) (hts _ h2) (hts _ h3) h4 hd hR) ⟨g_blind, fun U hU hW => g_preC (av := g_r k :: As) C0.2.2.2.1 C0.2.2.2.2.2.1.1 C0.2.2.2.2.1 hH U hU hW⟩ rfl (by simp) hV.1.1 (by rw [hs]; simp [g_val]) (lv_room (by rw [g_cw_sum]; exact hst)) h hcs
  exact g_callE (r := none) C0 hH hV hs hF kk hrun
end GEN5
