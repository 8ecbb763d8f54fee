theorem o_and_511 (x : Nat) : x &&& 511 = x % 512 := Nat.and_two_pow_sub_one_eq_mod x 9
theorem o_and_7 (x : Nat) : x &&& 7 = x % 8 := Nat.and_two_pow_sub_one_eq_mod x 3
theorem o_and_3 (x : Nat) : x &&& 3 = x % 4 := Nat.and_two_pow_sub_one_eq_mod x 2
theorem o_code {f g a s : Nat} (hg : g < 8) (ha : a < 512) (hs : s < 512) : ((f * 8 ||| g) * 512 ||| s) * 512 ||| a = 2 ^ 9 * (2 ^ 9 * (8 * f + g) + s) + a := by
  have e1 : f * 8 ||| g = 8 * f + g := by
    have := Nat.two_pow_add_eq_or_of_lt (i := 3) (b := g) hg f
    rw [Nat.mul_comm f 8]
    exact this.symm
  have e2 : (8 * f + g) * 512 ||| s = 2 ^ 9 * (8 * f + g) + s := by
    have := Nat.two_pow_add_eq_or_of_lt (i := 9) (b := s) hs (8 * f + g)
    rw [Nat.mul_comm _ 512]
    exact this.symm
  have e3 : (2 ^ 9 * (8 * f + g) + s) * 512 ||| a = 2 ^ 9 * (2 ^ 9 * (8 * f + g) + s) + a := by
    have := Nat.two_pow_add_eq_or_of_lt (i := 9) (b := a) ha (2 ^ 9 * (8 * f + g) + s)
    rw [Nat.mul_comm _ 512]
    exact this.symm
  rw [e1, e2, e3]
theorem o_mul : ∀ c : Nat, c < 74 → c &&& 73 = c → ∀ r : Nat, r < 8 → ∀ p : Nat, p < 9 → (c * r).testBit p = (c.testBit (3 * (p / 3)) && r.testBit (p % 3)) := by decide +kernel
theorem o_and73 (u : Nat) : u &&& 73 < 74 ∧ (u &&& 73) &&& 73 = u &&& 73 := by
  refine ⟨?_, by rw [Nat.and_assoc, Nat.and_self]⟩
  have := @Nat.and_le_right u 73
  omega
theorem o_73 : ∀ i : Nat, i < 3 → (73 : Nat).testBit (3 * i) = true := by decide
/-- a column times a row -/
theorem o_cr (a b j : Nat) (hj : j < 3) : (a % 512 / 2 ^ j &&& 73) * (b % 512 / 2 ^ (3 * j) &&& 7) < 512 ∧ ∀ p : Nat, p < 9 → ((a % 512 / 2 ^ j &&& 73) * (b % 512 / 2 ^ (3 * j) &&& 7)).testBit p = (a.testBit (3 * (p / 3) + j) && b.testBit (3 * j + p % 3)) := by
  obtain ⟨c1, c2⟩ := o_and73 (a % 512 / 2 ^ j)
  have r1 : b % 512 / 2 ^ (3 * j) &&& 7 < 8 := by
    rw [o_and_7]
    omega
  refine ⟨?_, fun p hp => ?_⟩
  · have := Nat.mul_le_mul (show a % 512 / 2 ^ j &&& 73 ≤ 73 by omega) (show b % 512 / 2 ^ (3 * j) &&& 7 ≤ 7 by omega)
    omega
  · rw [o_mul _ c1 c2 _ r1 p hp]
    congr 1
    · rw [Nat.testBit_and, o_73 _ (by omega), Bool.and_true, Nat.testBit_div_two_pow, show (512 : Nat) = 2 ^ 9 by decide, Nat.testBit_mod_two_pow, decide_eq_true (by omega), Bool.true_and]
    · rw [o_and_7, show (8 : Nat) = 2 ^ 3 by decide, Nat.testBit_mod_two_pow, Nat.testBit_div_two_pow, show (512 : Nat) = 2 ^ 9 by decide, Nat.testBit_mod_two_pow, decide_eq_true (by omega : p % 3 < 3), decide_eq_true (by omega : p % 3 + 3 * j < 9), Bool.true_and, Bool.true_and, Nat.add_comm]
theorem o_or_e {v : Nat} {b d : Nat → Bool} {w : Nat} (hv : v = o_e b 9) (hw : w < 512) (h : ∀ p, p < 9 → (b p || w.testBit p) = d p) : v ||| w = o_e d 9 := by
  refine Nat.eq_of_testBit_eq fun p => ?_
  rw [Nat.testBit_or, hv, o_e_bit, o_e_bit]
  by_cases hp : p < 9
  · rw [decide_eq_true hp, Bool.true_and, Bool.true_and]
    exact h p hp
  · rw [decide_eq_false hp, Bool.false_and, Bool.false_and, Bool.false_or]
    exact Nat.testBit_lt_two_pow (Nat.lt_of_lt_of_le hw (Nat.pow_le_pow_right (by decide) (by omega) : 2 ^ 9 ≤ 2 ^ p))
/-- compositions over the first middles -/
def o_jA (x y n p : Nat) : Bool := (List.range n).any (fun j => o_A x (3 * (p / 3) + j) && o_A y (3 * j + p % 3))
def o_jS (x y n p : Nat) : Bool := (List.range n).any (fun j => (o_S x (3 * (p / 3) + j) && o_A y (3 * j + p % 3)) || (o_A x (3 * (p / 3) + j) && o_S y (3 * j + p % 3)))
theorem o_jA_s {x y j : Nat} (hj : j < 3) : o_e (o_jA x y j) 9 ||| (x % 512 / 2 ^ j &&& 73) * (y % 512 / 2 ^ (3 * j) &&& 7) = o_e (o_jA x y (j + 1)) 9 := by
  obtain ⟨h1, h2⟩ := o_cr x y j hj
  refine o_or_e rfl h1 (fun p hp => ?_)
  rw [h2 p hp]
  unfold o_jA
  rw [z_any_s]
  rfl
theorem o_jS_s {x y j : Nat} (hj : j < 3) : o_e (o_jS x y j) 9 ||| ((x / 512 % 512 / 2 ^ j &&& 73) * (y % 512 / 2 ^ (3 * j) &&& 7) ||| (x % 512 / 2 ^ j &&& 73) * (y / 512 % 512 / 2 ^ (3 * j) &&& 7)) = o_e (o_jS x y (j + 1)) 9 := by
  obtain ⟨h1, h2⟩ := o_cr (x / 512) y j hj
  obtain ⟨h3, h4⟩ := o_cr x (y / 512) j hj
  refine o_or_e rfl (Nat.or_lt_two_pow (n := 9) h1 h3) (fun p hp => ?_)
  rw [Nat.testBit_or, h2 p hp, h4 p hp]
  unfold o_jS
  rw [z_any_s]
  unfold o_S o_A
  rw [show (512 : Nat) = 2 ^ 9 by decide, Nat.testBit_div_two_pow, Nat.testBit_div_two_pow, Nat.add_comm _ 9, Nat.add_comm _ 9]
