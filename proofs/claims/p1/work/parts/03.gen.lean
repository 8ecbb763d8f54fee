/-! The judgement Ev: a method's walk over abstract cells. A cell has a number; memory is a function of cell and place; numbers are Ints. -/
section GEN
abbrev g_v : Type := Int ⊕ (Nat ⊕ (Int ⊕ Nat))
abbrev g_i (z : Int) : g_v := .inl z
abbrev g_r (k : Nat) : g_v := .inr (.inl k)
abbrev g_j (z : Int) : g_v := .inr (.inr (.inl z))
abbrev g_o (a : Nat) : g_v := .inr (.inr (.inr a))
abbrev g_M : Type := Nat → Nat → Int
abbrev g_F : Type := Option (Option Nat)
abbrev g_C : Type := (Nat × Nat) ⊕ (Nat × List g_F)
abbrev g_L : Type := List g_C
abbrev g_cs : Type := ClassId × ClassId × ClassId
abbrev g_Ls : Type := List (Option g_v)
def g_rg (z : Int) : Prop := -2147483648 ≤ z ∧ z ≤ 2147483647
/-- what 32 bits keep of a number -/
def g_w (z : Int) : Int := (Int32.ofInt z).toInt
def g_b (f : Int32 → Int32 → Int32) (x y : Int) : Int := (f (Int32.ofInt x) (Int32.ofInt y)).toInt
def g_up (M : g_M) (k i : Nat) (z : Int) : g_M := fun a b => if a = k ∧ b = i then z else M a b
def g_val (ad : Nat → Nat) (v : g_v) : Value := match v with
  | .inl z => .int (Int32.ofInt z)
  | .inr (.inl k) => .ref (ad k)
  | .inr (.inr (.inl z)) => .long (Int64.ofInt z)
  | .inr (.inr (.inr a)) => .ref a
def g_fld (ad : Nat → Nat) (f : Nat → Int) (i : Nat) (x : g_F) : Value := match x with
  | none => .int (Int32.ofInt (f i))
  | some none => .null
  | some (some k) => .ref (ad k)
def g_arr (cs : g_cs) (t n : Nat) (f : Nat → Int) : va_E := match t with
  | 0 => .inl (cs.1, n, .inl (fun j => Int32.ofInt (f j)))
  | 1 => .inl (cs.2.1, n, .inl (fun j => Int32.ofInt (f j)))
  | _ => .inl (cs.2.2, n, .inr (.inl (fun j => Int64.ofInt (f j))))
def g_ent (cs : g_cs) (ad : Nat → Nat) (M : g_M) (k : Nat) (c : g_C) : Nat × va_E := match c with
  | .inl (t, n) => (ad k, g_arr cs t n (M k))
  | .inr (ci, fs) => (ad k, .inr (ci, fs.mapIdx (g_fld ad (M k))))
def g_W (cs : g_cs) (ad : Nat → Nat) (L : g_L) (M : g_M) : va_W := L.mapIdx (g_ent cs ad M)
def g_tys (cs : g_cs) : List (ClassId × FieldType) := [(cs.1, .int), (cs.2.1, .boolean), (cs.2.2, .long)]
def g_ok (n : Nat) (v : g_v) : Prop := match v with
  | .inl z => g_rg z
  | .inr (.inl k) => k < n
  | .inr (.inr (.inl z)) => g_rg z
  | .inr (.inr (.inr _)) => True
def g_okl (n : Nat) (v : g_v) : Prop := match v with
  | .inl z => g_rg z
  | .inr (.inl k) => k < n
  | .inr (.inr (.inl _)) => False
  | .inr (.inr (.inr _)) => True
def g_wf (L : g_L) : Prop := ∀ (k ci : Nat) (fs : List g_F) (i j : Nat), L[k]? = some (.inr (ci, fs)) → fs[i]? = some (some (some j)) → j < L.length
def g_H (D : va_G) (cs : g_cs) (A : Nat → Prop) (H0 : Heap) (ad : Nat → Nat) (L : g_L) (M : g_M) (H : Heap) (locs : List Loc) : Prop :=
  va_P D vwCl (g_W cs ad L M) H ∧ va_D A (g_W cs ad L M) ∧ va_S A H0 H locs ∧ (∀ k j, g_rg (M k j)) ∧ g_wf L
def g_V (ad : Nat → Nat) (n nL : Nat) (lsA : Array Slot) (ls : g_Ls) (st : List g_v) : Prop :=
  (lsA.size = nL ∧ lv_wf lsA ∧ ∀ (i : Nat) (v : g_v), ls[i]? = some (some v) → lsA[i]? = some (.val (g_val ad v))) ∧ (∀ (i : Nat) (v : g_v), ls[i]? = some (some v) → g_okl n v) ∧ ∀ v ∈ st, g_ok n v
/-- the tables, as a state has them: classes, arrays, and the links between nest mates -/
def g_K (D : va_G) (cs : g_cs) (U : State) : Prop := va_K D vwCl (g_tys cs) U ∧ (∀ q ∈ g_nest, va_Nw (.methodLinkNest q.1 q.2.1 q.2.2.1 q.2.2.2) U) ∧ x_N U
theorem g_K.moved {D : va_G} {cs : g_cs} {s U : State} (hW : s.WarmedH U.vm) (h : g_K D cs s) : g_K D cs U := ⟨va_K.moved hW.alike h.1, fun q hq => va_Nw.warmM hW (h.2.1 q hq), x_N.moved hW h.2.2⟩
abbrev g_Me : Type := String × ByteArray × Nat × Option FieldType × (Launch → State → Code → (Nat → Prop) → Prop) × String
def g_Cx (Me : g_Me) (p : Program) (l : Launch) (s : State) (m : MethodId) (args : Array Value) (meth : Method) (c : Code) (D : va_G) (cs : g_cs) (A : Nat → Prop) : Prop :=
  CallFix p m c Me.2.1 Me.2.2.1 s args gw Me.1 ∧ meth.sig.returnType = Me.2.2.2.1 ∧ meth.locks = false ∧ g_K D cs s ∧ (∀ q, s.heap.size ≤ q → A q) ∧ (x_Z A s s.heap ∧ x_no A s ∧ Me.2.2.2.2.1 l s c A) ∧ meth.name = Me.2.2.2.2.2
abbrev g_Fin : Type := Nat → g_Ls → List g_v → g_L → g_M → Nat → Nat → Prop
/-- from here the method comes to a place of Fi -/
def Ev (Me : g_Me) (R : Room) (Fi : g_Fin) (pc : Nat) (ls : g_Ls) (st : List g_v) (L : g_L) (M : g_M) (nc ns : Nat) : Prop :=
  ∀ (p : Program) (l : Launch) (e : Env) (s : State) (m : MethodId) (args : Array Value) (below : List Frame) (meth : Method) (c : Code) (Q : State → Prop) (D : va_G) (cs : g_cs) (A : Nat → Prop), g_Cx Me p l s m args meth c D cs A →
  ∀ (ad : Nat → Nat) (H : Heap) (locs : List Loc) (lsA : Array Slot), g_H D cs A s.heap ad L M H locs → g_V ad L.length Me.2.2.1 lsA ls st →
  (∀ (pc' : Nat) (ls' : g_Ls) (st' : List g_v) (L' : g_L) (M' : g_M) (nc' ns' : Nat) (ad' : Nat → Nat) (H' : Heap) (locs' : List Loc) (lsA' : Array Slot), Fi pc' ls' st' L' M' nc' ns' → (∀ k, k < L.length → ad' k = ad k) → L.length ≤ L'.length → g_H D cs A s.heap ad' L' M' H' locs' → g_V ad' L'.length Me.2.2.1 lsA' ls' st' → W p l e R s m args below meth c H' locs' nc' ns' Q (F0 m pc' lsA' (st'.map (g_val ad')))) →
  W p l e R s m args below meth c H locs nc ns Q (F0 m pc lsA (st.map (g_val ad)))
/-! numbers -/
theorem g_rg_toInt (x : Int32) : g_rg x.toInt := ⟨x.le_toInt, by have := x.toInt_lt; omega⟩
theorem g_w_rg (z : Int) : g_rg (g_w z) := g_rg_toInt _
theorem g_b_rg (f : Int32 → Int32 → Int32) (x y : Int) : g_rg (g_b f x y) := g_rg_toInt _
theorem g_t {z : Int} (h : g_rg z) : (Int32.ofInt z).toInt = z := Int32.toInt_ofInt_of_le h.1 (by have := h.2; omega)
theorem g_w_id {z : Int} (h : g_rg z) : g_w z = z := g_t h
theorem g_ofw (z : Int) : Int32.ofInt (g_w z) = Int32.ofInt z := Int32.ofInt_toInt _
theorem g_ofb (f : Int32 → Int32 → Int32) (x y : Int) : Int32.ofInt (g_b f x y) = f (Int32.ofInt x) (Int32.ofInt y) := Int32.ofInt_toInt _
theorem g_eqI {x y : Int} (hx : g_rg x) (hy : g_rg y) : Int32.ofInt x = Int32.ofInt y ↔ x = y := by
  rw [← Int32.toInt_inj, g_t hx, g_t hy]
theorem g_ltI {x y : Int} (hx : g_rg x) (hy : g_rg y) : Int32.ofInt x < Int32.ofInt y ↔ x < y := by
  rw [Int32.lt_iff_toInt_lt, g_t hx, g_t hy]
theorem g_leI {x y : Int} (hx : g_rg x) (hy : g_rg y) : Int32.ofInt x ≤ Int32.ofInt y ↔ x ≤ y := by
  rw [Int32.le_iff_toInt_le, g_t hx, g_t hy]
theorem g_rg0 : g_rg 0 := by unfold g_rg; omega
theorem g_cl {z : Int} (h : g_rg z) (h0 : 0 ≤ z) : (Int32.ofInt z).toNatClampNeg = z.toNat := Int32.toNatClampNeg_ofInt_of_le h.1 (by have := h.2; omega)
theorem g_in {z : Int} {n : Nat} (h : g_rg z) (h0 : 0 ≤ z) (hn : z < n) : vp_in (Int32.ofInt z) n := by
  unfold vp_in
  rw [g_cl h h0]
  have e : Int32.ofInt z < 0 ↔ z < 0 := by
    have := g_ltI h g_rg0
    simpa using this
  rw [e]
  omega
theorem g_up_rg {M : g_M} {k i : Nat} {z : Int} (h : ∀ k j, g_rg (M k j)) (hz : g_rg z) : ∀ a b, g_rg (g_up M k i z a b) := by
  intro a b
  unfold g_up
  split
  · exact hz
  · exact h a b
theorem g_upN {M : g_M} {k i : Nat} {z : Int} {a : Nat} (h : a ≠ k) : g_up M k i z a = M a := by
  funext b
  simp [g_up, h]
theorem g_W_at {cs : g_cs} {ad : Nat → Nat} {L : g_L} {M : g_M} {k : Nat} {c : g_C} (h : L[k]? = some c) : (g_W cs ad L M)[k]? = some (g_ent cs ad M k c) := by
  simp [g_W, List.getElem?_mapIdx, h]
theorem g_ent_1 (cs : g_cs) (ad : Nat → Nat) (M : g_M) (k : Nat) (c : g_C) : (g_ent cs ad M k c).1 = ad k := by
  unfold g_ent
  split <;> rfl
theorem g_ent_N {cs : g_cs} {ad : Nat → Nat} {M N : g_M} {k : Nat} {c : g_C} (h : N k = M k) : g_ent cs ad N k c = g_ent cs ad M k c := by
  unfold g_ent
  rw [h]
theorem g_W_set {cs : g_cs} {ad : Nat → Nat} {L : g_L} {M N : g_M} {k : Nat} {c : g_C} (h : L[k]? = some c) (hN : ∀ a, a ≠ k → N a = M a) : (g_W cs ad L M).set k (g_ent cs ad N k c) = g_W cs ad L N := by
  apply List.ext_getElem?
  intro j
  by_cases hj : j = k
  · subst hj
    have hl : j < (g_W cs ad L M).length := by
      have := (List.getElem?_eq_some_iff.mp h).1
      simpa [g_W] using this
    rw [List.getElem?_set_self hl, g_W_at h]
  · rw [List.getElem?_set_ne (Ne.symm hj)]
    simp only [g_W, List.getElem?_mapIdx]
    cases hL : L[j]? with
    | none => rfl
    | some x => simp only [Option.map_some]; rw [g_ent_N (hN j hj)]
theorem g_okl_ok {n : Nat} {v : g_v} (h : g_okl n v) : g_ok n v := by
  rcases v with z | k | z | a
  · exact h
  · exact h
  · exact absurd h id
  · exact trivial
theorem g_ok_le {n n' : Nat} {v : g_v} (h : g_ok n v) (hn : n ≤ n') : g_ok n' v := by
  rcases v with z | k | z | a
  · exact h
  · exact Nat.lt_of_lt_of_le h hn
  · exact h
  · exact trivial
theorem g_okl_le {n n' : Nat} {v : g_v} (h : g_okl n v) (hn : n ≤ n') : g_okl n' v := by
  rcases v with z | k | z | a
  · exact h
  · exact Nat.lt_of_lt_of_le h hn
  · exact absurd h id
  · exact trivial
theorem g_val_ad {ad ad' : Nat → Nat} {n : Nat} {v : g_v} (h : g_ok n v) (ha : ∀ k, k < n → ad' k = ad k) : g_val ad' v = g_val ad v := by
  rcases v with z | k | z | a
  · rfl
  · show Value.ref (ad' k) = Value.ref (ad k)
    rw [ha k h]
  · rfl
  · rfl
theorem g_map_ad {ad ad' : Nat → Nat} {n : Nat} {st : List g_v} (h : ∀ v ∈ st, g_ok n v) (ha : ∀ k, k < n → ad' k = ad k) : st.map (g_val ad') = st.map (g_val ad) :=
  List.map_congr_left fun v hv => g_val_ad (h v hv) ha
theorem g_cat {ad : Nat → Nat} {n : Nat} {v : g_v} (h : g_okl n v) : (g_val ad v).category = 1 := by
  rcases v with z | k | z | a
  · rfl
  · rfl
  · exact absurd h id
  · rfl
/-- the known places as the kit lists them -/
def g_lst (ad : Nat → Nat) (ls : g_Ls) : List (Nat × Value) := (List.range ls.length).filterMap (fun j => match ls[j]? with
  | some (some w) => some (j, g_val ad w)
  | _ => none)
theorem g_lst_mem {ad : Nat → Nat} {ls : g_Ls} {i : Nat} {v : g_v} (h : ls[i]? = some (some v)) : (i, g_val ad v) ∈ g_lst ad ls :=
  List.mem_filterMap.mpr ⟨i, List.mem_range.mpr (List.getElem?_eq_some_iff.mp h).1, by simp [h]⟩
theorem g_has {ad : Nat → Nat} {n nL : Nat} {lsA : Array Slot} {ls : g_Ls} {st : List g_v} (h : g_V ad n nL lsA ls st) : lv_has lsA nL (g_lst ad ls) := by
  refine ⟨h.1.1, h.1.2.1, fun q hq => ?_⟩
  obtain ⟨j, -, hj⟩ := List.mem_filterMap.mp hq
  split at hj
  next w hw => cases hj; exact h.1.2.2 j w hw
  next => cases hj
theorem g_back {ad : Nat → Nat} {n nL : Nat} {lsA lsA' : Array Slot} {ls : g_Ls} {v : g_v} {st : List g_v} {i : Nat} (h : g_V ad n nL lsA ls (v :: st)) (hv : g_okl n v)
    (h' : lv_has lsA' nL ((i, g_val ad v) :: (g_lst ad ls).filter (fun q => !(q.1 == i) && !(q.1 + 1 == i && q.2.category == 2)))) : g_V ad n nL lsA' (ls.set i (some v)) st := by
  obtain ⟨e2, e3, e4⟩ := h'
  refine ⟨⟨e2, e3, fun j w hj => ?_⟩, fun j w hj => ?_, fun w hw => h.2.2 w (List.mem_cons_of_mem _ hw)⟩
  · by_cases hji : j = i
    · subst hji
      have hl : j < ls.length := by
        have := (List.getElem?_eq_some_iff.mp hj).1
        simpa using this
      rw [List.getElem?_set_self hl] at hj
      cases hj
      exact e4 _ List.mem_cons_self
    · rw [List.getElem?_set_ne (Ne.symm hji)] at hj
      refine e4 (j, g_val ad w) (List.mem_cons_of_mem _ (List.mem_filter.mpr ⟨g_lst_mem hj, ?_⟩))
      have := g_cat (ad := ad) (h.2.1 j w hj)
      simp [hji, this]
  · by_cases hji : j = i
    · subst hji
      have hl : j < ls.length := by
        have := (List.getElem?_eq_some_iff.mp hj).1
        simpa using this
      rw [List.getElem?_set_self hl] at hj
      cases hj
      exact hv
    · rw [List.getElem?_set_ne (Ne.symm hji)] at hj
      exact h.2.1 j w hj
/-- no long -/
def g_nj (v : g_v) : Bool := match v with
  | .inr (.inr (.inl _)) => false
  | _ => true
theorem g_nj_cat {ad : Nat → Nat} {v : g_v} (h : g_nj v = true) : (g_val ad v).category = 1 := by
  rcases v with z | k | z | a
  · rfl
  · rfl
  · cases h
  · rfl
theorem g_nj_okl {n : Nat} {v : g_v} (h : g_nj v = true) (hv : g_ok n v) : g_okl n v := by
  rcases v with z | k | z | a
  · exact hv
  · exact hv
  · cases h
  · exact trivial
theorem g_V_st {ad : Nat → Nat} {n nL : Nat} {lsA : Array Slot} {ls : g_Ls} {st st' : List g_v} (h : g_V ad n nL lsA ls st) (hs : ∀ v ∈ st', g_ok n v) : g_V ad n nL lsA ls st' := ⟨h.1, h.2.1, hs⟩
end GEN
