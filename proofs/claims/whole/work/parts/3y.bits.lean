theorem z_bv (x : Nat) : (Int32.ofInt (x : Int)).toBitVec = BitVec.ofNat 32 x := by
  show BitVec.ofInt 32 (x : Int) = _
  exact BitVec.ofInt_ofNat 32 x
theorem z_int (b : BitVec 32) (h : b.toNat < 2147483648) : b.toInt = (b.toNat : Int) := by
  rw [BitVec.toInt_eq_toNat_cond]
  rw [if_pos (by omega)]
theorem g_b_or {x y : Nat} (hx : x < 2147483648) (hy : y < 2147483648) : g_b (fun a b => a ||| b) (x : Int) (y : Int) = ((x ||| y : Nat) : Int) := by
  have h : x ||| y < 2 ^ 31 := Nat.or_lt_two_pow hx hy
  show ((Int32.ofInt (x : Int) ||| Int32.ofInt (y : Int)).toBitVec).toInt = _
  rw [Int32.toBitVec_or, z_bv, z_bv]
  have e : (BitVec.ofNat 32 x ||| BitVec.ofNat 32 y).toNat = x ||| y := by
    rw [BitVec.toNat_or, BitVec.toNat_ofNat, BitVec.toNat_ofNat, Nat.mod_eq_of_lt (by omega), Nat.mod_eq_of_lt (by omega)]
  rw [z_int _ (by rw [e]; exact h), e]
theorem g_b_and {x y : Nat} (hx : x < 2147483648) (hy : y < 2147483648) : g_b (fun a b => a &&& b) (x : Int) (y : Int) = ((x &&& y : Nat) : Int) := by
  have h : x &&& y < 2 ^ 31 := Nat.and_lt_two_pow _ hy
  show ((Int32.ofInt (x : Int) &&& Int32.ofInt (y : Int)).toBitVec).toInt = _
  rw [Int32.toBitVec_and, z_bv, z_bv]
  have e : (BitVec.ofNat 32 x &&& BitVec.ofNat 32 y).toNat = x &&& y := by
    rw [BitVec.toNat_and, BitVec.toNat_ofNat, BitVec.toNat_ofNat, Nat.mod_eq_of_lt (by omega), Nat.mod_eq_of_lt (by omega)]
  rw [z_int _ (by rw [e]; exact h), e]
/-- x and not v -/
theorem g_b_andn {x v : Nat} (hx : x < 2147483648) : g_b (fun a b => a &&& b) (x : Int) (g_b (fun a b => a ^^^ b) (v : Int) (-1)) = 0 ↔ ∀ i, x.testBit i = true → v.testBit i = true := by
  have e1 : Int32.ofInt (g_b (fun a b => a ^^^ b) (v : Int) (-1)) = Int32.ofInt (v : Int) ^^^ Int32.ofInt (-1) := Int32.ofInt_toInt _
  show ((Int32.ofInt (x : Int) &&& Int32.ofInt (g_b (fun a b => a ^^^ b) (v : Int) (-1))).toBitVec).toInt = 0 ↔ _
  rw [e1, Int32.toBitVec_and, Int32.toBitVec_xor, z_bv, z_bv]
  have e2 : (Int32.ofInt (-1)).toBitVec = BitVec.allOnes 32 := by decide
  rw [e2]
  constructor
  · intro h i hi
    have h0 : (BitVec.ofNat 32 x &&& (BitVec.ofNat 32 v ^^^ BitVec.allOnes 32)) = 0#32 := BitVec.eq_of_toInt_eq (by rw [h]; rfl)
    have hl : i < 32 := by
      rcases Nat.lt_or_ge i 32 with h9 | h9
      · exact h9
      · rw [Nat.testBit_lt_two_pow (Nat.lt_of_lt_of_le hx (Nat.le_trans (by decide : 2147483648 ≤ 2 ^ 32) (Nat.pow_le_pow_right (by decide) h9)))] at hi
        exact absurd hi (by decide)
    have h1 := congrArg (fun b => BitVec.getLsbD b i) h0
    simp only [BitVec.getLsbD_and, BitVec.getLsbD_xor, BitVec.getLsbD_ofNat, BitVec.getLsbD_allOnes, hl, hi, decide_true, Bool.true_and] at h1
    revert h1
    cases v.testBit i <;> simp
  · intro h
    have h0 : (BitVec.ofNat 32 x &&& (BitVec.ofNat 32 v ^^^ BitVec.allOnes 32)) = 0#32 := by
      refine BitVec.eq_of_getLsbD_eq fun i hi => ?_
      simp only [BitVec.getLsbD_and, BitVec.getLsbD_xor, BitVec.getLsbD_ofNat, BitVec.getLsbD_allOnes, hi, decide_true, Bool.true_and]
      have := h i
      revert this
      cases v.testBit i <;> cases x.testBit i <;> simp
    rw [h0]
    rfl
theorem z_sh : ∀ k : Nat, k < 32 → (Int32.ofInt (k : Int) &&& 31).toBitVec.smod 32 = BitVec.ofNat 32 k := by decide +kernel
theorem g_b_shr {x k : Nat} (hx : x < 2147483648) (hk : k < 32) : g_b (fun a b => a >>> (b &&& 31)) (x : Int) (k : Int) = ((x / 2 ^ k : Nat) : Int) := by
  have hd : x / 2 ^ k ≤ x := Nat.div_le_self _ _
  show ((Int32.ofInt (x : Int) >>> (Int32.ofInt (k : Int) &&& 31)).toBitVec).toInt = _
  rw [Int32.toBitVec_shiftRight]
  have e2 := z_sh k hk
  rw [e2, z_bv, BitVec.toInt_sshiftRight']
  rw [z_int _ (by rw [BitVec.toNat_ofNat, Nat.mod_eq_of_lt (by omega)]; exact hx), BitVec.toNat_ofNat, Nat.mod_eq_of_lt (by omega), BitVec.toNat_ofNat, Nat.mod_eq_of_lt (by omega)]
  rw [Int.shiftRight_eq_div_pow]
  norm_cast
theorem g_b_shl {x k : Nat} (hk : k < 32) (hx : x * 2 ^ k < 2147483648) : g_b (fun a b => a <<< (b &&& 31)) (x : Int) (k : Int) = ((x * 2 ^ k : Nat) : Int) := by
  show ((Int32.ofInt (x : Int) <<< (Int32.ofInt (k : Int) &&& 31)).toBitVec).toInt = _
  rw [Int32.toBitVec_shiftLeft]
  have e2 := z_sh k hk
  have hk2 : k % 2 ^ 32 = k := Nat.mod_eq_of_lt (by omega)
  have e : (BitVec.ofNat 32 x <<< BitVec.ofNat 32 k).toNat = x * 2 ^ k := by
    rw [BitVec.shiftLeft_eq', BitVec.toNat_shiftLeft, BitVec.toNat_ofNat, BitVec.toNat_ofNat, hk2, Nat.shiftLeft_eq]
    have h1 : x ≤ x * 2 ^ k := Nat.le_mul_of_pos_right _ (Nat.two_pow_pos k)
    rw [Nat.mod_eq_of_lt (a := x) (by omega), Nat.mod_eq_of_lt (by omega)]
  rw [e2, z_bv, z_int _ (by rw [e]; exact hx), e]
/-- the mask of a list of variables -/
def v_m (l : List Nat) : Nat := l.foldr (fun v a => 2 ^ v ||| a) 0
theorem v_m_app (a b : List Nat) : v_m (a ++ b) = v_m a ||| v_m b := by
  induction a with
  | nil => show v_m b = 0 ||| v_m b; rw [Nat.zero_or]
  | cons x a ih => show 2 ^ x ||| v_m (a ++ b) = (2 ^ x ||| v_m a) ||| v_m b; rw [ih, Nat.or_assoc]
theorem v_m_bit (l : List Nat) (i : Nat) : (v_m l).testBit i = true ↔ i ∈ l := by
  induction l with
  | nil => simp [v_m]
  | cons x l ih =>
    show (2 ^ x ||| v_m l).testBit i = true ↔ _
    rw [Nat.testBit_or, Bool.or_eq_true, ih, Nat.testBit_two_pow, List.mem_cons, decide_eq_true_iff]
    exact ⟨fun h => h.imp Eq.symm id, fun h => h.imp Eq.symm id⟩
theorem v_m_lt {l : List Nat} (h : ∀ v ∈ l, v < 8) : v_m l < 256 := by
  induction l with
  | nil => decide
  | cons x l ih =>
    show 2 ^ x ||| v_m l < 2 ^ 8
    exact Nat.or_lt_two_pow (Nat.pow_lt_pow_right (by decide) (h x List.mem_cons_self)) (ih (fun v hv => h v (List.mem_cons_of_mem _ hv)))
theorem v_m_dis (a b : List Nat) : v_m a &&& v_m b = 0 ↔ ∀ x ∈ a, x ∉ b := by
  constructor
  · intro h x ha hb
    have := congrArg (fun n => n.testBit x) h
    simp only [Nat.testBit_and, Nat.zero_testBit] at this
    rw [(v_m_bit a x).mpr ha, (v_m_bit b x).mpr hb] at this
    exact absurd this (by decide)
  · intro h
    refine Nat.eq_of_testBit_eq fun i => ?_
    rw [Nat.testBit_and, Nat.zero_testBit]
    by_cases ha : i ∈ a
    · have hb := h i ha
      have : (v_m b).testBit i = false := by
        rw [← Bool.not_eq_true]; exact fun h9 => hb ((v_m_bit b i).mp h9)
      rw [this, Bool.and_false]
    · have : (v_m a).testBit i = false := by
        rw [← Bool.not_eq_true]; exact fun h9 => ha ((v_m_bit a i).mp h9)
      rw [this, Bool.false_and]
