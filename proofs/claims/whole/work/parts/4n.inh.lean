/-! which types have values -/
def h_k (wd pl : Nat → Int) (c : Nat) : List Nat := (List.range (wd c).toNat).map (fun i => (pl (3 * c + i)).toNat)
def h_c (ty wd pl : Nat → Int) (s : Nat → Bool) : Nat → Nat → Bool
  | 0 => s
  | c + 1 => fun t => h_c ty wd pl s c t || (decide ((ty c).toNat = t) && (h_k wd pl c).all (h_c ty wd pl s c))
def h_r (ty wd pl : Nat → Int) (n : Nat) : Nat → Nat → Bool
  | 0 => fun _ => false
  | r + 1 => h_c ty wd pl (h_r ty wd pl n r) n
/-- the types that are named -/
def h_u (ty wd pl : Nat → Int) : Nat → List Nat
  | 0 => []
  | c + 1 => h_u ty wd pl c ++ (ty c).toNat :: h_k wd pl c
def h_m (s : Nat → Bool) : Nat := v_m ((List.range 3).filter s)
theorem h_m_bit (s : Nat → Bool) (i : Nat) : (h_m s).testBit i = true ↔ i < 3 ∧ s i = true := by
  unfold h_m
  rw [v_m_bit, List.mem_filter, List.mem_range]
theorem h_m_lt (s : Nat → Bool) : h_m s < 256 := v_m_lt (fun v hv => by
  have := List.mem_range.mp (List.mem_filter.mp hv).1
  omega)
theorem v_m_2 (x : Nat) : v_m [x] = 2 ^ x := by
  show 2 ^ x ||| 0 = _
  rw [Nat.or_zero]
theorem h_c_s (ty wd pl : Nat → Int) (s : Nat → Bool) (c t : Nat) : h_c ty wd pl s (c + 1) t = (h_c ty wd pl s c t || (decide ((ty c).toNat = t) && (h_k wd pl c).all (h_c ty wd pl s c))) := rfl
theorem h_m_up {ty wd pl : Nat → Int} {s : Nat → Bool} {c : Nat} (h3 : (ty c).toNat < 3) (ha : (h_k wd pl c).all (h_c ty wd pl s c) = true) : h_m (h_c ty wd pl s c) ||| 2 ^ (ty c).toNat = h_m (h_c ty wd pl s (c + 1)) := by
  refine Nat.eq_of_testBit_eq fun i => ?_
  rw [Bool.eq_iff_iff, Nat.testBit_or, Bool.or_eq_true, h_m_bit, h_m_bit, Nat.testBit_two_pow, decide_eq_true_iff, h_c_s, ha, Bool.and_true, Bool.or_eq_true, decide_eq_true_iff]
  constructor
  · rintro (h | h)
    · exact ⟨h.1, Or.inl h.2⟩
    · exact ⟨by omega, Or.inr h⟩
  · rintro ⟨h1, h2 | h2⟩
    · exact Or.inl ⟨h1, h2⟩
    · exact Or.inr h2
theorem h_c_no {ty wd pl : Nat → Int} {s : Nat → Bool} {c : Nat} (ha : ¬ (h_k wd pl c).all (h_c ty wd pl s c) = true) : h_c ty wd pl s (c + 1) = h_c ty wd pl s c := by
  funext t
  rw [h_c_s, Bool.eq_false_iff.mpr ha, Bool.and_false, Bool.or_false]
/-- what is taken is there -/
theorem h_sub {l : List Nat} {s : Nat → Bool} (h : ∀ x ∈ l, x < 3) : g_b (fun a b => a &&& b) ((v_m l : Nat) : Int) (g_b (fun a b => a ^^^ b) ((h_m s : Nat) : Int) (-1)) = 0 ↔ l.all s = true := by
  have h8 : v_m l < 256 := v_m_lt (fun v hv => by have := h v hv; omega)
  rw [g_b_andn (by omega), List.all_eq_true]
  constructor
  · intro h1 x hx
    exact ((h_m_bit s x).mp (h1 x ((v_m_bit l x).mpr hx))).2
  · intro h1 i hi
    have hx := (v_m_bit l i).mp hi
    exact (h_m_bit s i).mpr ⟨h i hx, h1 i hx⟩
theorem h_k_s (pl : Nat → Int) (c k : Nat) : v_m ((List.range (k + 1)).map (fun i => (pl (3 * c + i)).toNat)) = v_m ((List.range k).map (fun i => (pl (3 * c + i)).toNat)) ||| 2 ^ (pl (3 * c + k)).toNat := by
  rw [List.range_succ, List.map_append, v_m_app, List.map_cons, List.map_nil, v_m_2]
theorem h_u_s (ty wd pl : Nat → Int) (c : Nat) : v_m (h_u ty wd pl (c + 1)) = v_m (h_u ty wd pl c) ||| (2 ^ (ty c).toNat ||| v_m (h_k wd pl c)) := by
  rw [h_u, v_m_app]
  rfl
theorem h_k_cg {wd pl wd' pl' : Nat → Int} {c : Nat} (h1 : wd c = wd' c) (h2 : ∀ i : Nat, (i : Int) < wd' c → pl (3 * c + i) = pl' (3 * c + i)) : h_k wd pl c = h_k wd' pl' c := by
  unfold h_k
  rw [h1]
  refine List.map_congr_left fun i hi => ?_
  have := List.mem_range.mp hi
  rw [h2 i (by omega)]
theorem h_c_cg {ty wd pl ty' wd' pl' : Nat → Int} {s : Nat → Bool} : ∀ n : Nat, (∀ c : Nat, c < n → ty c = ty' c ∧ h_k wd pl c = h_k wd' pl' c) → h_c ty wd pl s n = h_c ty' wd' pl' s n
  | 0, _ => rfl
  | n + 1, h => by
    funext t
    obtain ⟨h1, h2⟩ := h n (by omega)
    rw [h_c_s, h_c_s, h_c_cg n (fun c hc => h c (by omega)), h1, h2]
theorem h_r_cg {ty wd pl ty' wd' pl' : Nat → Int} {n : Nat} (h : ∀ c : Nat, c < n → ty c = ty' c ∧ h_k wd pl c = h_k wd' pl' c) : ∀ r : Nat, h_r ty wd pl n r = h_r ty' wd' pl' n r
  | 0 => rfl
  | r + 1 => by rw [h_r, h_r, h_r_cg h r, h_c_cg n h]
theorem h_u_cg {ty wd pl ty' wd' pl' : Nat → Int} : ∀ n : Nat, (∀ c : Nat, c < n → ty c = ty' c ∧ h_k wd pl c = h_k wd' pl' c) → h_u ty wd pl n = h_u ty' wd' pl' n
  | 0, _ => rfl
  | n + 1, h => by
    obtain ⟨h1, h2⟩ := h n (by omega)
    rw [h_u, h_u, h_u_cg n (fun c hc => h c (by omega)), h1, h2]
/-- all types that are named have values -/
def h_inh (M : g_M) : Bool := (h_u (M 46) (M 47) (M 48) (M 45 0).toNat ++ h_u (M 49) (M 50) (M 51) (M 45 4).toNat).all (h_r (M 46) (M 47) (M 48) (M 45 0).toNat 3)
theorem r_S_k {n mo : Int} {ty wd pl ty' wd' pl' : Nat → Int} (h : r_S n mo ty wd pl ty' wd' pl') : ∀ c : Nat, c < n.toNat → ty c = ty' c ∧ h_k wd pl c = h_k wd' pl' c := by
  intro c hc
  obtain ⟨a1, -, a3, -, a5⟩ := h.2.2 c (by omega)
  exact ⟨a1, h_k_cg a3 (fun i hi => (a5 i hi).1)⟩
theorem r_S_3 {n mo : Int} {ty wd pl ty' wd' pl' : Nat → Int} (h : r_S n mo ty wd pl ty' wd' pl') : ∀ c : Nat, (c : Int) < n → (0 ≤ ty c ∧ ty c < 3) ∧ (0 ≤ wd c ∧ wd c ≤ 3) ∧ (∀ i : Nat, (i : Int) < wd c → 0 ≤ pl (3 * c + i) ∧ pl (3 * c + i) < 3) ∧ ∀ x ∈ h_k wd pl c, x < 3 := by
  intro c hc
  obtain ⟨a1, a2, a3, a4, a5⟩ := h.2.2 c hc
  have h5 : ∀ i : Nat, (i : Int) < wd c → 0 ≤ pl (3 * c + i) ∧ pl (3 * c + i) < 3 := fun i hi => by
    rw [a3] at hi
    rw [(a5 i hi).1]
    exact (a5 i hi).2
  refine ⟨by rw [a1]; exact a2, by rw [a3]; exact a4, h5, fun x hx => ?_⟩
  obtain ⟨i, hi, rfl⟩ := List.mem_map.mp hx
  have := h5 i (by have := List.mem_range.mp hi; omega)
  omega
theorem r_S_u {n mo : Int} {ty wd pl ty' wd' pl' : Nat → Int} (h : r_S n mo ty wd pl ty' wd' pl') : ∀ k : Nat, (k : Int) ≤ n → ∀ x ∈ h_u ty wd pl k, x < 3 := by
  intro k
  induction k with
  | zero => intro _ x hx; simp [h_u] at hx
  | succ k ih =>
    intro hk x hx
    rw [h_u] at hx
    obtain ⟨b1, -, -, b4⟩ := r_S_3 h k (by omega)
    rcases List.mem_append.mp hx with h1 | h1
    · exact ih (by omega) x h1
    · rcases List.mem_cons.mp h1 with rfl | h1
      · omega
      · exact b4 x h1
