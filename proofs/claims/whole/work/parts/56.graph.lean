/-! graphs as numbers -/
def o_e (b : Nat → Bool) : Nat → Nat
  | 0 => 0
  | n + 1 => 2 ^ n * (if b n = true then 1 else 0) + o_e b n
theorem o_e_lt (b : Nat → Bool) : ∀ n, o_e b n < 2 ^ n
  | 0 => by simp [o_e]
  | n + 1 => by
    have := o_e_lt b n
    rw [o_e, Nat.pow_succ]
    split <;> omega
theorem o_e_bit (b : Nat → Bool) : ∀ n p, (o_e b n).testBit p = (decide (p < n) && b p)
  | 0, p => by simp [o_e]
  | n + 1, p => by
    rw [o_e, Nat.testBit_two_pow_mul_add _ (o_e_lt b n)]
    by_cases h : p < n
    · rw [if_pos h, o_e_bit b n p, decide_eq_true h, decide_eq_true (by omega : p < n + 1)]
    · rw [if_neg h]
      by_cases hp : p = n
      · subst hp
        rw [Nat.sub_self, decide_eq_true (by omega : p < p + 1)]
        cases b p <;> simp
      · rw [decide_eq_false (by omega : ¬ p < n + 1), Bool.false_and]
        have : ∀ q, 0 < q → (if b n = true then 1 else 0 : Nat).testBit q = false := by
          intro q hq
          split
          · exact Nat.testBit_lt_two_pow (Nat.one_lt_two_pow (by omega))
          · exact Nat.zero_testBit q
        exact this _ (by omega)
theorem o_e_cg {a b : Nat → Bool} : ∀ n, (∀ p, p < n → a p = b p) → o_e a n = o_e b n
  | 0, _ => rfl
  | n + 1, h => by rw [o_e, o_e, o_e_cg n (fun p hp => h p (by omega)), h n (by omega)]
/-- a graph: from, to, its arcs, its strict arcs -/
def o_k (f g : Nat) (A S : Nat → Bool) : Nat := 2 ^ 9 * (2 ^ 9 * (8 * f + g) + o_e S 9) + o_e A 9
def o_f (x : Nat) : Nat := x / 2097152
def o_t (x : Nat) : Nat := x / 262144 % 8
def o_A (x p : Nat) : Bool := x.testBit p
def o_S (x p : Nat) : Bool := x.testBit (9 + p)
theorem o_k_f (f g : Nat) (A S : Nat → Bool) (hg : g < 8) : o_f (o_k f g A S) = f := by
  have h1 := o_e_lt A 9
  have h2 := o_e_lt S 9
  unfold o_f o_k
  omega
theorem o_k_t (f g : Nat) (A S : Nat → Bool) (hg : g < 8) : o_t (o_k f g A S) = g := by
  have h1 := o_e_lt A 9
  have h2 := o_e_lt S 9
  unfold o_t o_k
  omega
theorem o_k_A (f g : Nat) (A S : Nat → Bool) {p : Nat} (hp : p < 9) : o_A (o_k f g A S) p = A p := by
  unfold o_A o_k
  rw [Nat.testBit_two_pow_mul_add _ (o_e_lt A 9), if_pos hp, o_e_bit, decide_eq_true hp, Bool.true_and]
theorem o_k_S (f g : Nat) (A S : Nat → Bool) {p : Nat} (hp : p < 9) : o_S (o_k f g A S) p = S p := by
  unfold o_S o_k
  rw [Nat.testBit_two_pow_mul_add _ (o_e_lt A 9), if_neg (by omega), show 9 + p - 9 = p by omega, Nat.testBit_two_pow_mul_add _ (o_e_lt S 9), if_pos hp, o_e_bit, decide_eq_true hp, Bool.true_and]
theorem o_k_cg {f g : Nat} {A S A' S' : Nat → Bool} (h1 : ∀ p, p < 9 → A p = A' p) (h2 : ∀ p, p < 9 → S p = S' p) : o_k f g A S = o_k f g A' S' := by
  unfold o_k
  rw [o_e_cg 9 h1, o_e_cg 9 h2]
theorem o_k_lt {f g : Nat} (A S : Nat → Bool) (hf : f < 8) (hg : g < 8) : o_k f g A S < 16777216 := by
  have h1 := o_e_lt A 9
  have h2 := o_e_lt S 9
  unfold o_k
  omega
/-- every number is such -/
theorem o_eta (x : Nat) : x = o_k (o_f x) (o_t x) (o_A x) (o_S x) := by
  have e1 : o_e (o_A x) 9 = x % 2 ^ 9 := by
    refine Nat.eq_of_testBit_eq fun p => ?_
    rw [o_e_bit, Nat.testBit_mod_two_pow]
    rfl
  have e2 : o_e (o_S x) 9 = x / 2 ^ 9 % 2 ^ 9 := by
    refine Nat.eq_of_testBit_eq fun p => ?_
    rw [o_e_bit, Nat.testBit_mod_two_pow, Nat.testBit_div_two_pow]
    unfold o_S
    rw [Nat.add_comm]
  unfold o_k
  rw [e1, e2]
  unfold o_f o_t
  omega
theorem o_ext {x y : Nat} (h1 : o_f x = o_f y) (h2 : o_t x = o_t y) (h3 : ∀ p, p < 9 → o_A x p = o_A y p) (h4 : ∀ p, p < 9 → o_S x p = o_S y p) : x = y := by
  rw [o_eta x, o_eta y, h1, h2]
  exact o_k_cg h3 h4
/-- composition -/
def o_cA (x y p : Nat) : Bool := (List.range 3).any (fun j => o_A x (3 * (p / 3) + j) && o_A y (3 * j + p % 3))
def o_cS (x y p : Nat) : Bool := (List.range 3).any (fun j => (o_S x (3 * (p / 3) + j) && o_A y (3 * j + p % 3)) || (o_A x (3 * (p / 3) + j) && o_S y (3 * j + p % 3)))
def o_c (x y : Nat) : Nat := o_k (o_f x) (o_t y) (o_cA x y) (o_cS x y)
theorem o_t_lt (x : Nat) : o_t x < 8 := Nat.mod_lt _ (by decide)
theorem o_c_f (x y : Nat) : o_f (o_c x y) = o_f x := o_k_f _ _ _ _ (o_t_lt y)
theorem o_c_t (x y : Nat) : o_t (o_c x y) = o_t y := o_k_t _ _ _ _ (o_t_lt y)
theorem o_cA_iff (x y p : Nat) : o_cA x y p = true ↔ ∃ j, j < 3 ∧ o_A x (3 * (p / 3) + j) = true ∧ o_A y (3 * j + p % 3) = true := by
  unfold o_cA
  rw [List.any_eq_true]
  constructor
  · rintro ⟨j, hj, h⟩
    rw [Bool.and_eq_true] at h
    exact ⟨j, List.mem_range.mp hj, h⟩
  · rintro ⟨j, hj, h⟩
    exact ⟨j, List.mem_range.mpr hj, by rw [Bool.and_eq_true]; exact h⟩
theorem o_cS_iff (x y p : Nat) : o_cS x y p = true ↔ ∃ j, j < 3 ∧ ((o_S x (3 * (p / 3) + j) = true ∧ o_A y (3 * j + p % 3) = true) ∨ (o_A x (3 * (p / 3) + j) = true ∧ o_S y (3 * j + p % 3) = true)) := by
  unfold o_cS
  rw [List.any_eq_true]
  constructor
  · rintro ⟨j, hj, h⟩
    rw [Bool.or_eq_true, Bool.and_eq_true, Bool.and_eq_true] at h
    exact ⟨j, List.mem_range.mp hj, h⟩
  · rintro ⟨j, hj, h⟩
    exact ⟨j, List.mem_range.mpr hj, by rw [Bool.or_eq_true, Bool.and_eq_true, Bool.and_eq_true]; exact h⟩
theorem o_cc_A {x y p : Nat} (hp : p < 9) : o_A (o_c x y) p = true ↔ ∃ j, j < 3 ∧ o_A x (3 * (p / 3) + j) = true ∧ o_A y (3 * j + p % 3) = true := by
  unfold o_c
  rw [o_k_A _ _ _ _ hp, o_cA_iff]
theorem o_cc_S {x y p : Nat} (hp : p < 9) : o_S (o_c x y) p = true ↔ ∃ j, j < 3 ∧ ((o_S x (3 * (p / 3) + j) = true ∧ o_A y (3 * j + p % 3) = true) ∨ (o_A x (3 * (p / 3) + j) = true ∧ o_S y (3 * j + p % 3) = true)) := by
  unfold o_c
  rw [o_k_S _ _ _ _ hp, o_cS_iff]
theorem o_assoc (x y z : Nat) : o_c (o_c x y) z = o_c x (o_c y z) := by
  refine o_ext (by rw [o_c_f, o_c_f, o_c_f]) (by rw [o_c_t, o_c_t, o_c_t]) (fun p hp => ?_) (fun p hp => ?_)
  · rw [Bool.eq_iff_iff, o_cc_A hp, o_cc_A hp]
    constructor
    · rintro ⟨j, hj, h1, h2⟩
      rw [o_cc_A (by omega), show (3 * (p / 3) + j) / 3 = p / 3 by omega, show (3 * (p / 3) + j) % 3 = j by omega] at h1
      obtain ⟨i, hi, h3, h4⟩ := h1
      refine ⟨i, hi, h3, ?_⟩
      rw [o_cc_A (by omega), show (3 * i + p % 3) / 3 = i by omega, show (3 * i + p % 3) % 3 = p % 3 by omega]
      exact ⟨j, hj, h4, h2⟩
    · rintro ⟨i, hi, h3, h1⟩
      rw [o_cc_A (by omega), show (3 * i + p % 3) / 3 = i by omega, show (3 * i + p % 3) % 3 = p % 3 by omega] at h1
      obtain ⟨j, hj, h4, h2⟩ := h1
      refine ⟨j, hj, ?_, h2⟩
      rw [o_cc_A (by omega), show (3 * (p / 3) + j) / 3 = p / 3 by omega, show (3 * (p / 3) + j) % 3 = j by omega]
      exact ⟨i, hi, h3, h4⟩
  · rw [Bool.eq_iff_iff, o_cc_S hp, o_cc_S hp]
    constructor
    · rintro ⟨j, hj, ⟨h1, h2⟩ | ⟨h1, h2⟩⟩
      · rw [o_cc_S (by omega), show (3 * (p / 3) + j) / 3 = p / 3 by omega, show (3 * (p / 3) + j) % 3 = j by omega] at h1
        obtain ⟨i, hi, ⟨h3, h4⟩ | ⟨h3, h4⟩⟩ := h1
        · refine ⟨i, hi, Or.inl ⟨h3, ?_⟩⟩
          rw [o_cc_A (by omega), show (3 * i + p % 3) / 3 = i by omega, show (3 * i + p % 3) % 3 = p % 3 by omega]
          exact ⟨j, hj, h4, h2⟩
        · refine ⟨i, hi, Or.inr ⟨h3, ?_⟩⟩
          rw [o_cc_S (by omega), show (3 * i + p % 3) / 3 = i by omega, show (3 * i + p % 3) % 3 = p % 3 by omega]
          exact ⟨j, hj, Or.inl ⟨h4, h2⟩⟩
      · rw [o_cc_A (by omega), show (3 * (p / 3) + j) / 3 = p / 3 by omega, show (3 * (p / 3) + j) % 3 = j by omega] at h1
        obtain ⟨i, hi, h3, h4⟩ := h1
        refine ⟨i, hi, Or.inr ⟨h3, ?_⟩⟩
        rw [o_cc_S (by omega), show (3 * i + p % 3) / 3 = i by omega, show (3 * i + p % 3) % 3 = p % 3 by omega]
        exact ⟨j, hj, Or.inr ⟨h4, h2⟩⟩
    · rintro ⟨i, hi, ⟨h3, h1⟩ | ⟨h3, h1⟩⟩
      · rw [o_cc_A (by omega), show (3 * i + p % 3) / 3 = i by omega, show (3 * i + p % 3) % 3 = p % 3 by omega] at h1
        obtain ⟨j, hj, h4, h2⟩ := h1
        refine ⟨j, hj, Or.inl ⟨?_, h2⟩⟩
        rw [o_cc_S (by omega), show (3 * (p / 3) + j) / 3 = p / 3 by omega, show (3 * (p / 3) + j) % 3 = j by omega]
        exact ⟨i, hi, Or.inl ⟨h3, h4⟩⟩
      · rw [o_cc_S (by omega), show (3 * i + p % 3) / 3 = i by omega, show (3 * i + p % 3) % 3 = p % 3 by omega] at h1
        obtain ⟨j, hj, ⟨h4, h2⟩ | ⟨h4, h2⟩⟩ := h1
        · refine ⟨j, hj, Or.inl ⟨?_, h2⟩⟩
          rw [o_cc_S (by omega), show (3 * (p / 3) + j) / 3 = p / 3 by omega, show (3 * (p / 3) + j) % 3 = j by omega]
          exact ⟨i, hi, Or.inr ⟨h3, h4⟩⟩
        · refine ⟨j, hj, Or.inr ⟨?_, h2⟩⟩
          rw [o_cc_A (by omega), show (3 * (p / 3) + j) / 3 = p / 3 by omega, show (3 * (p / 3) + j) % 3 = j by omega]
          exact ⟨i, hi, h3, h4⟩
/-- strict arcs are arcs -/
def o_ok (x : Nat) : Prop := x < 16777216 ∧ ∀ p, p < 9 → o_S x p = true → o_A x p = true
theorem o_c_ok {x y : Nat} (hx : o_ok x) (hy : o_ok y) : o_ok (o_c x y) := by
  refine ⟨o_k_lt _ _ (by unfold o_f; have := hx.1; omega) (o_t_lt y), fun p hp h => ?_⟩
  rw [o_cc_S hp] at h
  rw [o_cc_A hp]
  obtain ⟨j, hj, ⟨h1, h2⟩ | ⟨h1, h2⟩⟩ := h
  · exact ⟨j, hj, hx.2 _ (by omega) h1, h2⟩
  · exact ⟨j, hj, h1, hy.2 _ (by omega) h2⟩
/-! the reference's numbers of them -/
def o_d (x p : Nat) : Nat := if o_S x p = true then 2 else if o_A x p = true then 1 else 0
def o_4 (d : Nat → Nat) : Nat → Nat
  | 0 => 0
  | n + 1 => 4 ^ n * d n + o_4 d n
def o_v (x : Nat) : Nat := o_4 (o_d x) 9
theorem o_d_le (x p : Nat) : o_d x p ≤ 2 := by
  unfold o_d
  split
  · omega
  · split <;> omega
theorem o_4_lt {d : Nat → Nat} (h : ∀ p, d p ≤ 3) : ∀ n, o_4 d n < 4 ^ n
  | 0 => by simp [o_4]
  | n + 1 => by
    have h1 := o_4_lt h n
    have h2 := Nat.mul_le_mul_left (4 ^ n) (h n)
    rw [o_4, Nat.pow_succ]
    omega
theorem o_4_at {d : Nat → Nat} (h : ∀ p, d p ≤ 3) : ∀ n p, p < n → o_4 d n / 4 ^ p % 4 = d p
  | 0, p, hp => by omega
  | n + 1, p, hp => by
    rw [o_4]
    have hl := o_4_lt h n
    by_cases hpn : p = n
    · subst hpn
      rw [Nat.mul_add_div (Nat.pow_pos (by decide)), Nat.div_eq_of_lt hl, Nat.add_zero]
      have := h p
      omega
    · have e : 4 ^ n = 4 ^ p * (4 * 4 ^ (n - p - 1)) := by
        rw [← Nat.pow_succ', ← Nat.pow_add]
        congr 1
        omega
      rw [e, Nat.mul_assoc, Nat.mul_add_div (Nat.pow_pos (by decide)), Nat.mul_assoc, Nat.mul_add_mod]
      exact o_4_at h n p (by omega)
theorem o_v_at (x : Nat) {p : Nat} (hp : p < 9) : o_v x / 4 ^ p % 4 = o_d x p := o_4_at (fun p => by have := o_d_le x p; omega) 9 p hp
theorem o_d_A {x p : Nat} (hx : o_ok x) (hp : p < 9) : o_A x p = true ↔ o_d x p ≠ 0 := by
  have := hx.2 p hp
  unfold o_d
  cases hS : o_S x p <;> cases hA : o_A x p <;> simp_all
theorem o_d_S {x p : Nat} : o_S x p = true ↔ o_d x p = 2 := by
  unfold o_d
  cases hS : o_S x p <;> cases hA : o_A x p <;> simp_all
theorem o_v_inj {x y : Nat} (hx : o_ok x) (hy : o_ok y) (h1 : o_f x = o_f y) (h2 : o_t x = o_t y) (h3 : o_v x = o_v y) : x = y := by
  have hd : ∀ p, p < 9 → o_d x p = o_d y p := fun p hp => by rw [← o_v_at x hp, ← o_v_at y hp, h3]
  refine o_ext h1 h2 (fun p hp => ?_) (fun p hp => ?_)
  · rw [Bool.eq_iff_iff, o_d_A hx hp, o_d_A hy hp, hd p hp]
  · rw [Bool.eq_iff_iff, o_d_S, o_d_S, hd p hp]
/-- the best way over a middle -/
def o_bo (a b : Nat) : Nat := if a = 0 ∨ b = 0 then 0 else if b < a then a else b
def o_be (x y i k : Nat) : Nat → Nat
  | 0 => 0
  | j + 1 => if o_be x y i k j < o_bo (o_d x (3 * i + j)) (o_d y (3 * j + k)) then o_bo (o_d x (3 * i + j)) (o_d y (3 * j + k)) else o_be x y i k j
theorem o_be_iff (x y i k v : Nat) (hv : 0 < v) : ∀ n, v ≤ o_be x y i k n ↔ ∃ j, j < n ∧ v ≤ o_bo (o_d x (3 * i + j)) (o_d y (3 * j + k))
  | 0 => by
    constructor
    · intro h; simp [o_be] at h; omega
    · rintro ⟨j, hj, -⟩; omega
  | n + 1 => by
    have ih := o_be_iff x y i k v hv n
    rw [o_be]
    constructor
    · intro h
      split at h
      · exact ⟨n, by omega, h⟩
      · obtain ⟨j, hj, h⟩ := ih.mp h
        exact ⟨j, by omega, h⟩
    · rintro ⟨j, hj, h⟩
      by_cases hjn : j = n
      · subst hjn
        split <;> omega
      · have := ih.mpr ⟨j, by omega, h⟩
        split <;> omega
theorem o_be_d {x y : Nat} (hx : o_ok x) (hy : o_ok y) {i k : Nat} (hi : i < 3) (hk : k < 3) : o_be x y i k 3 = o_d (o_c x y) (3 * i + k) := by
  have hxy := o_c_ok hx hy
  have hA := o_d_A hxy (p := 3 * i + k) (by omega)
  have hS := o_d_S (x := o_c x y) (p := 3 * i + k)
  rw [o_cc_A (by omega), show (3 * i + k) / 3 = i by omega, show (3 * i + k) % 3 = k by omega] at hA
  rw [o_cc_S (by omega), show (3 * i + k) / 3 = i by omega, show (3 * i + k) % 3 = k by omega] at hS
  have h1 := o_be_iff x y i k 1 (by decide) 3
  have h2 := o_be_iff x y i k 2 (by decide) 3
  have h3 := o_be_iff x y i k 3 (by decide) 3
  have hle := o_d_le (o_c x y) (3 * i + k)
  have hb : ∀ j, o_bo (o_d x (3 * i + j)) (o_d y (3 * j + k)) ≤ 2 := by
    intro j
    have a := o_d_le x (3 * i + j)
    have b := o_d_le y (3 * j + k)
    unfold o_bo
    split
    · omega
    · split <;> omega
  have e1 : 1 ≤ o_be x y i k 3 ↔ o_d (o_c x y) (3 * i + k) ≠ 0 := by
    rw [h1, ← hA]
    refine exists_congr fun j => ?_
    constructor
    · rintro ⟨hj, h⟩
      refine ⟨hj, ?_⟩
      rw [o_d_A hx (by omega), o_d_A hy (by omega)]
      unfold o_bo at h
      split at h <;> omega
    · rintro ⟨hj, h⟩
      refine ⟨hj, ?_⟩
      rw [o_d_A hx (by omega), o_d_A hy (by omega)] at h
      unfold o_bo
      rw [if_neg (by omega)]
      split <;> omega
  have e2 : 2 ≤ o_be x y i k 3 ↔ o_d (o_c x y) (3 * i + k) = 2 := by
    rw [h2, ← hS]
    refine exists_congr fun j => ?_
    have a := o_d_le x (3 * i + j)
    have b := o_d_le y (3 * j + k)
    constructor
    · rintro ⟨hj, h⟩
      refine ⟨hj, ?_⟩
      rw [o_d_A hx (by omega), o_d_A hy (by omega), o_d_S, o_d_S]
      unfold o_bo at h
      split at h
      · omega
      · split at h <;> omega
    · rintro ⟨hj, h⟩
      refine ⟨hj, ?_⟩
      rw [o_d_A hx (by omega), o_d_A hy (by omega), o_d_S, o_d_S] at h
      unfold o_bo
      rw [if_neg (by omega)]
      split <;> omega
  have e3 : ¬ 3 ≤ o_be x y i k 3 := by
    rw [h3]
    rintro ⟨j, hj, h⟩
    have := hb j
    omega
  omega
