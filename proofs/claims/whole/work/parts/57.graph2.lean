/-- the graph of a call -/
def o_p (M : g_M) (c u i j : Nat) : Int := if (i : Int) < M 50 (M 56 c).toNat ∧ (j : Int) < M 50 (M 52 u - 16).toNat then z_arc M (M 57 (3 * c + i)).toNat (M 53 (3 * u + j)).toNat else 0
def o_g (M : g_M) (c u : Nat) : Nat := o_k (M 56 c).toNat (M 52 u - 16).toNat (fun p => decide (o_p M c u (p / 3) (p % 3) ≠ 0)) (fun p => decide (o_p M c u (p / 3) (p % 3) = 2))
def o_G (M : g_M) (x : Nat) : Prop := ∃ c u : Nat, (c : Int) < M 45 13 ∧ u ∈ k_c M (M 58 c).toNat ∧ x = o_g M c u
def o_P (M : g_M) : Nat → Nat → Prop
  | 0, x => o_G M x
  | n + 1, x => ∃ y z, o_P M n y ∧ o_G M z ∧ o_t y = o_f z ∧ x = o_c y z
/-- the graphs that come of calls -/
def o_R (M : g_M) (x : Nat) : Prop := ∃ n, o_P M n x
theorem z_arc_in (M : g_M) (p x : Nat) : z_arc M p x = 0 ∨ z_arc M p x = 1 ∨ z_arc M p x = 2 := by
  unfold z_arc
  split
  · exact Or.inr (Or.inl rfl)
  · split
    · exact Or.inr (Or.inr rfl)
    · exact Or.inl rfl
theorem o_p_in (M : g_M) (c u i j : Nat) : o_p M c u i j = 0 ∨ o_p M c u i j = 1 ∨ o_p M c u i j = 2 := by
  unfold o_p
  split
  · exact z_arc_in _ _ _
  · exact Or.inl rfl
theorem o_g_ok {M : g_M} (hP : r_P M) {c u : Nat} (hc : (c : Int) < M 45 13) (hu : u ∈ k_c M (M 58 c).toNat) : o_ok (o_g M c u) := by
  obtain ⟨f, w, b, c24, hf56, hf6, hfn, -, hw50, -, hw3, hbb, -, hbt, -, -⟩ := r_cn hP hc
  rw [hbb, Int.toNat_natCast] at hu
  obtain ⟨i, hi⟩ := List.getElem?_of_mem hu
  obtain ⟨x1, x2, g, wg, x3, x4, -⟩ := k_c_in hP hbt hi
  unfold o_g
  refine ⟨o_k_lt _ _ (by rw [hf56]; omega) (by rw [x4]; omega), fun p hp => ?_⟩
  rw [o_k_S _ _ _ _ hp, o_k_A _ _ _ _ hp, decide_eq_true_iff, decide_eq_true_iff]
  intro h
  rw [h]
  decide
theorem o_R_ok {M : g_M} (hP : r_P M) {x : Nat} (h : o_R M x) : o_ok x := by
  obtain ⟨n, h⟩ := h
  induction n generalizing x with
  | zero =>
    obtain ⟨c, u, hc, hu, rfl⟩ := h
    exact o_g_ok hP hc hu
  | succ n ih =>
    obtain ⟨y, z, h1, ⟨c, u, hc, hu, rfl⟩, h3, rfl⟩ := h
    exact o_c_ok (ih h1) (o_g_ok hP hc hu)
theorem o_R_c {M : g_M} {x y : Nat} (hx : o_R M x) (hy : o_R M y) (h : o_t x = o_f y) : o_R M (o_c x y) := by
  obtain ⟨n, hy⟩ := hy
  induction n generalizing y with
  | zero =>
    obtain ⟨m, hx⟩ := hx
    exact ⟨m + 1, x, y, hx, hy, h, rfl⟩
  | succ n ih =>
    obtain ⟨y', z, h1, h2, h3, rfl⟩ := hy
    rw [o_c_f] at h
    rw [← o_assoc]
    obtain ⟨m, hm⟩ := ih h h1
    exact ⟨m + 1, _, z, hm, h2, by rw [o_c_t]; exact h3, rfl⟩
theorem o_R_0 {M : g_M} {x : Nat} (h : o_G M x) : o_R M x := ⟨0, h⟩
/-- a set that holds the graphs of calls and one more call behind each holds all -/
theorem o_R_min {M : g_M} {l : List Nat} (h0 : ∀ x, o_G M x → x ∈ l) (h1 : ∀ x z, x ∈ l → o_G M z → o_t x = o_f z → o_c x z ∈ l) : ∀ x, o_R M x → x ∈ l := by
  rintro x ⟨n, h⟩
  induction n generalizing x with
  | zero => exact h0 x h
  | succ n ih =>
    obtain ⟨y, z, h2, h3, h4, rfl⟩ := h
    exact h1 y z (ih y h2) h3 h4
/-- how many graphs -/
def o_Q (M : g_M) (n : Int) : Prop := ∃ l : List Nat, l.Nodup ∧ (∀ x ∈ l, o_R M x) ∧ (l.length : Int) = n ∧ l.length ≤ 201 ∧ (l.length ≤ 200 → ∀ x, o_R M x → x ∈ l)
theorem z_nodup_le : ∀ (l l' : List Nat), l.Nodup → (∀ x ∈ l, x ∈ l') → l.length ≤ l'.length
  | [], l', _, _ => Nat.zero_le _
  | a :: l, l', h, hs => by
    have hn := List.nodup_cons.mp h
    have ha := hs a List.mem_cons_self
    have h1 := z_nodup_le l (l'.erase a) hn.2 (fun x hx => (List.mem_erase_of_ne (fun h9 : x = a => hn.1 (h9 ▸ hx))).mpr (hs x (List.mem_cons_of_mem _ hx)))
    rw [List.length_erase_of_mem ha] at h1
    have := List.length_pos_of_mem ha
    rw [List.length_cons]
    omega
theorem o_Q_un {M : g_M} {n n' : Int} (h : o_Q M n) (h' : o_Q M n') : n = n' := by
  obtain ⟨l, a1, a2, a3, a4, a5⟩ := h
  obtain ⟨l', b1, b2, b3, b4, b5⟩ := h'
  by_cases h1 : l.length ≤ 200
  · have h2 := z_nodup_le l' l b1 (fun x hx => a5 h1 x (b2 x hx))
    have h3 := z_nodup_le l l' a1 (fun x hx => b5 (by omega) x (a2 x hx))
    omega
  · by_cases h2 : l'.length ≤ 200
    · have h3 := z_nodup_le l l' a1 (fun x hx => b5 h2 x (a2 x hx))
      omega
    · omega
/-- no graph that repeats is without a strict arc to itself -/
def o_E (M : g_M) : Prop := ∀ x, o_R M x → o_f x = o_t x → o_c x x = x → ∃ i, i < 3 ∧ o_S x (4 * i) = true
