theorem j_h_cg {h h' : Nat → Int} {x y z : Int} : ∀ k : Nat, (∀ i : Nat, i < k → h (j_pk x y z i).toNat = h' (j_pk x y z i).toNat) → j_h h x y z k = j_h h' x y z k
  | 0, _ => rfl
  | k + 1, hk => by rw [j_h, j_h, j_h_cg k (fun i hi => hk i (by omega)), hk k (by omega)]
theorem j_s_cg {h h' : Nat → Int} {x y z : Int} : ∀ k : Nat, (∀ i : Nat, i < k → h (j_pk x y z i).toNat = h' (j_pk x y z i).toNat) → j_s h x y z k = j_s h' x y z k
  | 0, _ => rfl
  | k + 1, hk => by rw [j_s, j_s, j_s_cg k (fun i hi => hk i (by omega)), hk k (by omega)]
theorem q_kids_n {M : g_M} {n w : Nat} {x y z : Int} (hw : q_w M n = w) (hp : ∀ i : Nat, i < w → M 53 (3 * n + i) = j_pk x y z i) : q_kids M n = (List.range w).map (fun i => (j_pk x y z i).toNat) := by
  unfold q_kids q_ks
  rw [hw, List.drop_zero, Int.toNat_natCast]
  refine List.map_congr_left fun i hi => ?_
  rw [hp i (List.mem_range.mp hi)]
/-- a made or called term more -/
theorem r_P_J {M M2 : g_M} {n w h : Nat} {x y z : Int} (md : Bool) (hP : r_P M) (hn : M 45 8 = n) (hl : n < 100) (hf : j_fit (M 45 8) (M 54) (M 55) x y z w) (hw3 : w ≤ 3)
    (hh : if md then (h : Int) < M 45 0 ∧ M 47 h = w else (h : Int) < M 45 4 ∧ M 50 h = w)
    (ho : ∀ x : Nat, x < 9 ∨ 19 ≤ x ∧ x < 45 ∨ 46 ≤ x ∧ x < 52 ∨ 56 ≤ x ∧ x < 77 → M2 x = M x) (h45 : ∀ y : Nat, y ≠ 8 → y ≠ 44 → M2 45 y = M 45 y) (h458 : M2 45 8 = (n : Int) + 1) (h9 : M2 9 9 = (n : Int) + 1)
    (hk : ∀ x t : Nat, 10 ≤ x → x ≤ 18 → x ≠ 13 → t ≠ n → M2 x t = M x t) (hm : ∀ x t : Nat, 52 ≤ x → x < 56 → x ≠ 53 → t ≠ n → M2 x t = M x t) (hp : ∀ t k : Nat, t < n → k < 3 → M2 13 (3 * t + k) = M 13 (3 * t + k) ∧ M2 53 (3 * t + k) = M 53 (3 * t + k))
    (k10 : M2 10 n = if md then 1 else 2) (k11 : M2 11 n = h) (k12 : M2 12 n = w) (k13 : ∀ i : Nat, i < w → M2 13 (3 * n + i) = j_pk x y z i ∧ M2 53 (3 * n + i) = j_pk x y z i) (k14 : M2 14 n = j_h (M 14) x y z w + 1) (k15 : M2 15 n = j_s (M 15) x y z w) (k16 : M2 16 n = j_v (M 16) x y z w) (k17 : M2 17 n = j_c (M 17) (if md then 0 else 1) x y z w) (k18 : M2 18 n = j_d (M 18) (M 16) x y z w)
    (k52 : M2 52 n = (if md then 8 else 16) + (h : Int)) (k54 : M2 54 n = j_h (M 54) x y z w + 1) (k55 : M2 55 n = j_s (M 55) x y z w) : r_P M2 ∧ p_le M M2 := by
  have hP' := hP
  obtain ⟨hC, hF, hT, hL⟩ := hP'
  obtain ⟨f1, f2, f3⟩ := hf
  have hin : ∀ i : Nat, i < w → 0 ≤ j_pk x y z i ∧ j_pk x y z i < M 45 8 := fun i hi => j_pk_in f1 hw3 hi
  have hv : ∀ t : Nat, (t : Int) < M 45 8 → r_v M t := fun t ht => (hT.2.2.1 t ht).2.2.2.2.2.2
  have hc8 : M 45 0 ≤ 8 := hC.2.2.2.1
  have hc6 : M 45 4 ≤ 6 := hF.2.2.2.1
  have hqw : q_w M2 n = w := by
    unfold q_w
    rw [k52, ho 47 (by decide), ho 50 (by decide)]
    cases md with
    | true =>
      simp only [if_true] at hh ⊢
      rw [if_neg (by omega), if_pos (by omega), show (8 + (h : Int) - 8).toNat = h by omega]
      exact hh.2
    | false =>
      simp only [Bool.false_eq_true, if_false] at hh ⊢
      rw [if_neg (by omega), if_neg (by omega), show (16 + (h : Int) - 16).toNat = h by omega]
      exact hh.2
  have hkids := q_kids_n hqw (fun i hi => (k13 i hi).2)
  have e14 : ∀ i : Nat, i < w → M 14 (j_pk x y z i).toNat = M 54 (j_pk x y z i).toNat := fun i hi => by
    have := hin i hi
    exact (hT.2.2.1 _ (by omega)).2.2.2.1
  have e15 : ∀ i : Nat, i < w → M 15 (j_pk x y z i).toNat = M 55 (j_pk x y z i).toNat := fun i hi => by
    have := hin i hi
    exact (hT.2.2.1 _ (by omega)).2.2.2.2.1
  have hh0 : 0 ≤ j_h (M 54) x y z w := by
    have hB : j_B (M 45 8) (M 54) (M 54) → True := fun _ => trivial
    clear hB
    have : ∀ k : Nat, 0 ≤ j_h (M 54) x y z k := by
      intro k
      induction k with
      | zero => exact Int.le_refl _
      | succ k ih => rw [j_h]; split <;> omega
    exact this w
  refine r_P_T hP hn hl ho h45 h458 h9 hk hm hp ⟨?_, ?_, by omega, by omega, fun k hkw => ?_, by omega, ?_⟩ (fun hple hT2 => ?_) ?_
  · rw [k52]; cases md <;> simp <;> omega
  · rw [k52]
    cases md with
    | true => simp only [if_true] at hh ⊢; omega
    | false => simp only [Bool.false_eq_true, if_false] at hh ⊢; omega
  · rw [hqw] at hkw
    rw [(k13 k (by omega)).2]
    have := hin k (by omega)
    omega
  · rw [k55, hkids, j_s_sum]
  · have hn2 : (n : Int) < M2 45 8 := by omega
    have hpl := q_pl_eq hT2 hn2
    rw [hkids] at hpl
    have hnv : ¬ M2 52 n < 8 := by rw [k52]; cases md <;> simp <;> omega
    have hvl : v_l M2 n = v_p M x y z w := by
      unfold v_l
      rw [hpl, v_h_n hnv, v_h_flat, ← v_p_fl]
      exact v_p_le hT.2.1 hple w hin
    refine ⟨?_, by rw [k12, hqw], fun k hkw => ?_, ?_, ?_, by omega, ?_, ?_, ?_⟩
    · rw [k10, k11, k52, k54, h45 0 (by decide) (by decide), h45 4 (by decide) (by decide)]
      cases md with
      | true =>
        simp only [if_true] at hh ⊢
        exact Or.inr (Or.inl ⟨by omega, by omega, by omega, trivial, by omega, by omega⟩)
      | false =>
        simp only [Bool.false_eq_true, if_false] at hh ⊢
        exact Or.inr (Or.inr ⟨by omega, by omega, trivial, by omega, by omega⟩)
    · rw [hqw] at hkw
      obtain ⟨a1, a2⟩ := k13 k (by omega)
      have a3 := hin k (by omega)
      refine ⟨by rw [a1, a2], ?_⟩
      rw [a2, k54, hm 54 _ (by decide) (by decide) (by decide) (by omega)]
      have := j_h_ge (h := M 54) (x := x) (y := y) (z := z) w k (by omega)
      omega
    · rw [k14, k54, j_h_cg w e14]
    · rw [k15, k55, j_s_cg w e15]
    · rw [k16, hvl, j_v_p hT.2.1 hv w hin]
    · rw [k17, j_c_p hv w hin, hpl]
      constructor
      · intro h1 u hu
        rcases List.mem_cons.mp hu with rfl | hu
        · rw [k52]
          cases md with
          | true => simp only [if_true] at hh ⊢; omega
          | false => exact absurd h1.1 (by simp)
        · obtain ⟨t', ht', hu⟩ := List.mem_flatMap.mp hu
          obtain ⟨i, hi, rfl⟩ := List.mem_map.mp ht'
          have hi' := List.mem_range.mp hi
          have a3 := hin i hi'
          have a4 : (((j_pk x y z i).toNat : Nat) : Int) < M 45 8 := by omega
          rw [q_pl_le hT.2.1 hple a4] at hu
          rw [(hple.2 u (by have := q_pl_in hT.2.1 _ a4 u hu; omega)).1]
          exact h1.2 i hi' u hu
      · intro h1
        refine ⟨?_, fun i hi u hu => ?_⟩
        · have := h1 n List.mem_cons_self
          rw [k52] at this
          cases md with
          | true => rfl
          | false => simp at this; omega
        · have a3 := hin i hi
          have a4 : (((j_pk x y z i).toNat : Nat) : Int) < M 45 8 := by omega
          rw [← (hple.2 u (by have := q_pl_in hT.2.1 _ a4 u hu; omega)).1]
          refine h1 u (List.mem_cons_of_mem _ (List.mem_flatMap.mpr ⟨_, List.mem_map.mpr ⟨i, List.mem_range.mpr hi, rfl⟩, ?_⟩))
          rw [q_pl_le hT.2.1 hple a4]
          exact hu
    · rw [k18, hvl, j_d_p hT.2.1 hv w hin]
  · rw [k17]
    exact j_c01 _ _ _ _ _ (by cases md <;> simp) w
/-- a variable more -/
theorem r_P_v {M M2 : g_M} {n v : Nat} (hP : r_P M) (hn : M 45 8 = n) (hl : n < 100) (hv : v < 8)
    (ho : ∀ x : Nat, x < 9 ∨ 19 ≤ x ∧ x < 45 ∨ 46 ≤ x ∧ x < 52 ∨ 56 ≤ x ∧ x < 77 → M2 x = M x) (h45 : ∀ y : Nat, y ≠ 8 → y ≠ 44 → M2 45 y = M 45 y) (h458 : M2 45 8 = (n : Int) + 1) (h9 : M2 9 9 = (n : Int) + 1)
    (hk : ∀ x t : Nat, 10 ≤ x → x ≤ 18 → x ≠ 13 → t ≠ n → M2 x t = M x t) (hm : ∀ x t : Nat, 52 ≤ x → x < 56 → x ≠ 53 → t ≠ n → M2 x t = M x t) (hp : ∀ t k : Nat, t < n → k < 3 → M2 13 (3 * t + k) = M 13 (3 * t + k) ∧ M2 53 (3 * t + k) = M 53 (3 * t + k))
    (k10 : M2 10 n = 0) (k11 : M2 11 n = v) (k12 : M2 12 n = M 12 n) (k14 : M2 14 n = M 14 n) (k15 : M2 15 n = 1) (k16 : M2 16 n = ((2 ^ v : Nat) : Int)) (k17 : M2 17 n = M 17 n) (k18 : M2 18 n = M 18 n) (k52 : M2 52 n = v) (k54 : M2 54 n = 0) (k55 : M2 55 n = 1) : r_P M2 ∧ p_le M M2 := by
  have hT := hP.2.2.1
  obtain ⟨z12, z14, z16, z17, z18⟩ := hT.2.2.2.1 n (by omega)
  have hqw : q_w M2 n = 0 := by
    unfold q_w
    rw [k52, if_pos (by omega)]
  have hkids : q_kids M2 n = [] := by
    unfold q_kids q_ks
    rw [hqw]
    rfl
  refine r_P_T hP hn hl ho h45 h458 h9 hk hm hp ⟨by omega, by omega, by omega, by omega, fun k hkw => by omega, by omega, ?_⟩ (fun hple hT2 => ?_) (by rw [k17, z17]; exact Or.inl rfl)
  · rw [k55, hkids]
    rfl
  · have hn2 : (n : Int) < M2 45 8 := by omega
    have hpl := q_pl_eq hT2 hn2
    rw [hkids, List.flatMap_nil] at hpl
    have hvl : v_l M2 n = [v] := by
      unfold v_l
      rw [hpl, v_h_y (by omega), k52]
      rfl
    refine ⟨Or.inl ⟨by omega, k10, by rw [k11, k52], k54⟩, by rw [k12, z12, hqw], fun k hkw => by omega, by rw [k14, z14, k54], by rw [k15, k55], by omega, ?_, ?_, ?_⟩
    · rw [k16, hvl]
      congr 1
      show 2 ^ v = 2 ^ v ||| 0
      rw [Nat.or_zero]
    · rw [k17, z17, hpl]
      refine ⟨fun _ u hu => ?_, fun _ => rfl⟩
      rw [List.mem_singleton.mp hu, k52]
      omega
    · rw [k18, z18, hvl]
      exact ⟨fun _ => by simp, fun _ => rfl⟩
