theorem j_c_cg {h h' : Nat → Int} {c0 x y z : Int} : ∀ k : Nat, (∀ i : Nat, i < k → h (j_pk x y z i).toNat = h' (j_pk x y z i).toNat) → j_c h c0 x y z k = j_c h' c0 x y z k
  | 0, _ => rfl
  | k + 1, hk => by rw [j_c, j_c, j_c_cg k (fun i hi => hk i (by omega)), hk k (by omega)]
theorem r_I_mk {X : g_M → Int → Int → Prop} (hX : r_X X) {M M2 : g_M} {n w h : Nat} {x y z : Int} (hI : r_I X M) (hn : M 45 8 = n) (hl : n < 100) (hf : j_fit (M 45 8) (M 54) (M 55) x y z w) (hw3 : w ≤ 3) (hh : (h : Int) < M 45 0) (hw : M 47 h = w)
    (e : M2 = g_up (g_up (g_up (g_up (g_up (g_up (g_up (g_up (g_up (g_up (g_up (g_up (g_up (g_up (j_M (g_up (g_up M 10 n 1) 11 n (h : Int)) n 0 x y z w) 12 n w) 14 n (j_h (M 14) x y z w + 1)) 15 n (j_s (M 15) x y z w)) 9 9 ((n : Int) + 1)) 77 0 (n : Int)) 45 44 0) 45 44 0) 52 n (8 + (h : Int))) 53 (3 * n) x) 53 (3 * n + 1) y) 53 (3 * n + 2) z) 54 n (j_h (M 54) x y z w + 1)) 55 n (j_s (M 55) x y z w)) 45 8 ((n : Int) + 1)) : r_I X M2 := by
  have hjm : ∀ k b : Nat, k ≠ 13 → k ≠ 16 → k ≠ 17 → k ≠ 18 → j_M (g_up (g_up M 10 n 1) 11 n (h : Int)) n 0 x y z w k b = (g_up (g_up M 10 n 1) 11 n (h : Int)) k b := fun k b h1 h2 h3 h4 => j_M_ne _ _ _ _ _ _ _ _ _ h1 h2 h3 h4
  have hjt : ∀ k b : Nat, k ≠ 13 → b ≠ n → j_M (g_up (g_up M 10 n 1) 11 n (h : Int)) n 0 x y z w k b = (g_up (g_up M 10 n 1) 11 n (h : Int)) k b := fun k b h1 h2 => j_M_at _ _ _ _ _ _ _ _ _ h1 h2
  have ho : ∀ k : Nat, k < 9 ∨ 19 ≤ k ∧ k < 45 ∨ 46 ≤ k ∧ k < 52 ∨ 56 ≤ k ∧ k < 77 → M2 k = M k := by
    intro k hk
    rw [e, g_up_ne (by omega), g_up_ne (by omega), g_up_ne (by omega), g_up_ne (by omega), g_up_ne (by omega), g_up_ne (by omega), g_up_ne (by omega), g_up_ne (by omega), g_up_ne (by omega), g_up_ne (by omega), g_up_ne (by omega), g_up_ne (by omega), g_up_ne (by omega), g_up_ne (by omega)]
    funext b
    rw [hjm k b (by omega) (by omega) (by omega) (by omega)]
    simp only [g_up]
    rw [if_neg (by omega), if_neg (by omega)]
  have h45 : ∀ b : Nat, b ≠ 8 → b ≠ 44 → M2 45 b = M 45 b := by
    intro b h1 h2
    rw [e]
    simp only [g_up, h1, h2, and_false, if_false, show ((45 : Nat) = 52) = False by decide, show ((45 : Nat) = 53) = False by decide, show ((45 : Nat) = 54) = False by decide, show ((45 : Nat) = 55) = False by decide, show ((45 : Nat) = 77) = False by decide, show ((45 : Nat) = 9) = False by decide, show ((45 : Nat) = 15) = False by decide, show ((45 : Nat) = 14) = False by decide, show ((45 : Nat) = 12) = False by decide, false_and]
    rw [hjm 45 b (by decide) (by decide) (by decide) (by decide)]
    rfl
  have h458 : M2 45 8 = (n : Int) + 1 := by rw [e]; simp [g_up]
  have hkc : ∀ k t : Nat, 10 ≤ k → k ≤ 18 → k ≠ 13 → t ≠ n → M2 k t = M k t := by
    intro k t h1 h2 h3 h4
    rw [e, g_up_ne (by omega), g_up_ne (by omega), g_up_ne (by omega), g_up_ne (by omega), g_up_ne (by omega), g_up_ne (by omega), g_up_ne (by omega), g_up_ne (by omega), g_up_ne (by omega), g_up_ne (by omega), g_up_ne (by omega)]
    simp only [g_up, h4, and_false, if_false]
    rw [hjt k t h3 h4]
    simp only [g_up, h4, and_false, if_false]
  have hkm : ∀ k t : Nat, 52 ≤ k → k < 56 → k ≠ 53 → t ≠ n → M2 k t = M k t := by
    intro k t h1 h2 h3 h4
    rw [e]
    simp only [g_up, h3, h4, and_false, false_and, if_false]
    rw [if_neg (by omega), if_neg (by omega), if_neg (by omega), if_neg (by omega), if_neg (by omega), hjm k t (by omega) (by omega) (by omega) (by omega)]
    simp only [g_up, h4, and_false, if_false]
  have e13 : M2 13 = j_M (g_up (g_up M 10 n 1) 11 n (h : Int)) n 0 x y z w 13 := by
    rw [e, g_up_ne (by decide), g_up_ne (by decide), g_up_ne (by decide), g_up_ne (by decide), g_up_ne (by decide), g_up_ne (by decide), g_up_ne (by decide), g_up_ne (by decide), g_up_ne (by decide), g_up_ne (by decide), g_up_ne (by decide), g_up_ne (by decide), g_up_ne (by decide), g_up_ne (by decide)]
  have e53 : ∀ b : Nat, M2 53 b = if b = 3 * n + 2 then z else if b = 3 * n + 1 then y else if b = 3 * n then x else M 53 b := by
    intro b
    rw [e]
    simp only [g_up, show ((53 : Nat) = 45) = False by decide, show ((53 : Nat) = 52) = False by decide, show ((53 : Nat) = 54) = False by decide, show ((53 : Nat) = 55) = False by decide, show ((53 : Nat) = 77) = False by decide, show ((53 : Nat) = 9) = False by decide, show ((53 : Nat) = 15) = False by decide, show ((53 : Nat) = 14) = False by decide, show ((53 : Nat) = 12) = False by decide, false_and, if_false, true_and]
    rw [hjm 53 b (by decide) (by decide) (by decide) (by decide)]
    rfl
  have hcl (k : Nat) (hk : k = 16 ∨ k = 17 ∨ k = 18) : M2 k = j_M (g_up (g_up M 10 n 1) 11 n (h : Int)) n 0 x y z w k := by
    rw [e, g_up_ne (by omega), g_up_ne (by omega), g_up_ne (by omega), g_up_ne (by omega), g_up_ne (by omega), g_up_ne (by omega), g_up_ne (by omega), g_up_ne (by omega), g_up_ne (by omega), g_up_ne (by omega), g_up_ne (by omega), g_up_ne (by omega), g_up_ne (by omega), g_up_ne (by omega)]
  have hg (k : Nat) (hk : k = 16 ∨ k = 18 ∨ k = 14 ∨ k = 15) : (g_up (g_up M 10 n 1) 11 n (h : Int)) k = M k := by
    funext b
    simp only [g_up]
    rw [if_neg (by omega), if_neg (by omega)]
  have hj17 : j_c ((g_up (g_up M 10 n 1) 11 n (h : Int)) 17) 0 x y z w = j_c (M 17) 0 x y z w := by
    rfl
  obtain ⟨hP, hple⟩ := r_P_J (M := M) (M2 := M2) (h := h) (x := x) (y := y) (z := z) true hI.1 hn hl hf hw3 (by simp only [if_true, Bool.false_eq_true, if_false]; exact ⟨hh, hw⟩) ho h45 h458 (by rw [e]; simp [g_up]) hkc hkm (fun t k ht hk => ⟨by
      rw [e13]
      unfold j_M
      rw [if_neg (by omega), if_neg (by omega), if_neg (by omega), if_neg (by omega)]
      rfl, by rw [e53, if_neg (by omega), if_neg (by omega), if_neg (by omega)]⟩)
    (by rw [e, g_up_ne (by decide), g_up_ne (by decide), g_up_ne (by decide), g_up_ne (by decide), g_up_ne (by decide), g_up_ne (by decide), g_up_ne (by decide), g_up_ne (by decide), g_up_ne (by decide), g_up_ne (by decide), g_up_ne (by decide), g_up_ne (by decide), g_up_ne (by decide), g_up_ne (by decide), hjm 10 n (by decide) (by decide) (by decide) (by decide)]; simp [g_up])
    (by rw [e, g_up_ne (by decide), g_up_ne (by decide), g_up_ne (by decide), g_up_ne (by decide), g_up_ne (by decide), g_up_ne (by decide), g_up_ne (by decide), g_up_ne (by decide), g_up_ne (by decide), g_up_ne (by decide), g_up_ne (by decide), g_up_ne (by decide), g_up_ne (by decide), g_up_ne (by decide), hjm 11 n (by decide) (by decide) (by decide) (by decide)]; simp [g_up])
    (by rw [e]; simp [g_up])
    (fun i hi => ⟨by
      rw [e13]
      unfold j_M
      rw [if_pos ⟨rfl, by omega, by omega⟩, show 3 * n + i - 3 * n = i by omega], by rw [e53]; unfold j_pk; omega⟩)
    (by rw [e]; simp [g_up]) (by rw [e]; simp [g_up])
    (by rw [hcl 16 (by decide)]; unfold j_M; rw [if_neg (by omega), if_neg (by omega), if_neg (by omega), if_pos ⟨rfl, rfl⟩, hg 16 (by decide)])
    (by rw [hcl 17 (by decide)]; unfold j_M; rw [if_neg (by omega), if_pos ⟨rfl, rfl⟩]; exact hj17)
    (by rw [hcl 18 (by decide)]; unfold j_M; rw [if_neg (by omega), if_neg (by omega), if_pos ⟨rfl, rfl⟩, hg 16 (by decide), hg 18 (by decide)])
    (by rw [e]; simp [g_up]) (by rw [e]; simp [g_up]) (by rw [e]; simp [g_up])
  exact ⟨hP, r_V_ex hX hI.1 hI.2.1 ⟨hple, h45 0 (by decide) (by decide), h45 4 (by decide) (by decide), h45 13 (by decide) (by decide), fun k hk => ho k (by omega)⟩ (ho 0 (by decide)) (h45 17 (by decide) (by decide)) (h45 18 (by decide) (by decide)), r_R_cg hI.2.2 (by rw [ho 34 (by decide)]) (by rw [ho 34 (by decide)]) (h45 34 (by decide) (by decide)) (h45 42 (by decide) (by decide)) (ho 44 (by decide)) (ho 76 (by decide))⟩
theorem r_I_ca {X : g_M → Int → Int → Prop} (hX : r_X X) {M M2 : g_M} {n w h : Nat} {x y z : Int} (hI : r_I X M) (hn : M 45 8 = n) (hl : n < 100) (hf : j_fit (M 45 8) (M 54) (M 55) x y z w) (hw3 : w ≤ 3) (hh : (h : Int) < M 45 4) (hw : M 50 h = w)
    (e : M2 = g_up (g_up (g_up (g_up (g_up (g_up (g_up (g_up (g_up (g_up (g_up (g_up (g_up (g_up (j_M (g_up (g_up (g_up M 10 n 2) 11 n (h : Int)) 17 n 1) n 1 x y z w) 12 n w) 14 n (j_h (M 14) x y z w + 1)) 15 n (j_s (M 15) x y z w)) 9 9 ((n : Int) + 1)) 77 0 (n : Int)) 45 44 0) 45 44 0) 52 n (16 + (h : Int))) 53 (3 * n) x) 53 (3 * n + 1) y) 53 (3 * n + 2) z) 54 n (j_h (M 54) x y z w + 1)) 55 n (j_s (M 55) x y z w)) 45 8 ((n : Int) + 1)) : r_I X M2 := by
  have hjm : ∀ k b : Nat, k ≠ 13 → k ≠ 16 → k ≠ 17 → k ≠ 18 → j_M (g_up (g_up (g_up M 10 n 2) 11 n (h : Int)) 17 n 1) n 1 x y z w k b = (g_up (g_up (g_up M 10 n 2) 11 n (h : Int)) 17 n 1) k b := fun k b h1 h2 h3 h4 => j_M_ne _ _ _ _ _ _ _ _ _ h1 h2 h3 h4
  have hjt : ∀ k b : Nat, k ≠ 13 → b ≠ n → j_M (g_up (g_up (g_up M 10 n 2) 11 n (h : Int)) 17 n 1) n 1 x y z w k b = (g_up (g_up (g_up M 10 n 2) 11 n (h : Int)) 17 n 1) k b := fun k b h1 h2 => j_M_at _ _ _ _ _ _ _ _ _ h1 h2
  have ho : ∀ k : Nat, k < 9 ∨ 19 ≤ k ∧ k < 45 ∨ 46 ≤ k ∧ k < 52 ∨ 56 ≤ k ∧ k < 77 → M2 k = M k := by
    intro k hk
    rw [e, g_up_ne (by omega), g_up_ne (by omega), g_up_ne (by omega), g_up_ne (by omega), g_up_ne (by omega), g_up_ne (by omega), g_up_ne (by omega), g_up_ne (by omega), g_up_ne (by omega), g_up_ne (by omega), g_up_ne (by omega), g_up_ne (by omega), g_up_ne (by omega), g_up_ne (by omega)]
    funext b
    rw [hjm k b (by omega) (by omega) (by omega) (by omega)]
    simp only [g_up]
    rw [if_neg (by omega), if_neg (by omega), if_neg (by omega)]
  have h45 : ∀ b : Nat, b ≠ 8 → b ≠ 44 → M2 45 b = M 45 b := by
    intro b h1 h2
    rw [e]
    simp only [g_up, h1, h2, and_false, if_false, show ((45 : Nat) = 52) = False by decide, show ((45 : Nat) = 53) = False by decide, show ((45 : Nat) = 54) = False by decide, show ((45 : Nat) = 55) = False by decide, show ((45 : Nat) = 77) = False by decide, show ((45 : Nat) = 9) = False by decide, show ((45 : Nat) = 15) = False by decide, show ((45 : Nat) = 14) = False by decide, show ((45 : Nat) = 12) = False by decide, false_and]
    rw [hjm 45 b (by decide) (by decide) (by decide) (by decide)]
    rfl
  have h458 : M2 45 8 = (n : Int) + 1 := by rw [e]; simp [g_up]
  have hkc : ∀ k t : Nat, 10 ≤ k → k ≤ 18 → k ≠ 13 → t ≠ n → M2 k t = M k t := by
    intro k t h1 h2 h3 h4
    rw [e, g_up_ne (by omega), g_up_ne (by omega), g_up_ne (by omega), g_up_ne (by omega), g_up_ne (by omega), g_up_ne (by omega), g_up_ne (by omega), g_up_ne (by omega), g_up_ne (by omega), g_up_ne (by omega), g_up_ne (by omega)]
    simp only [g_up, h4, and_false, if_false]
    rw [hjt k t h3 h4]
    simp only [g_up, h4, and_false, if_false]
  have hkm : ∀ k t : Nat, 52 ≤ k → k < 56 → k ≠ 53 → t ≠ n → M2 k t = M k t := by
    intro k t h1 h2 h3 h4
    rw [e]
    simp only [g_up, h3, h4, and_false, false_and, if_false]
    rw [if_neg (by omega), if_neg (by omega), if_neg (by omega), if_neg (by omega), if_neg (by omega), hjm k t (by omega) (by omega) (by omega) (by omega)]
    simp only [g_up, h4, and_false, if_false]
  have e13 : M2 13 = j_M (g_up (g_up (g_up M 10 n 2) 11 n (h : Int)) 17 n 1) n 1 x y z w 13 := by
    rw [e, g_up_ne (by decide), g_up_ne (by decide), g_up_ne (by decide), g_up_ne (by decide), g_up_ne (by decide), g_up_ne (by decide), g_up_ne (by decide), g_up_ne (by decide), g_up_ne (by decide), g_up_ne (by decide), g_up_ne (by decide), g_up_ne (by decide), g_up_ne (by decide), g_up_ne (by decide)]
  have e53 : ∀ b : Nat, M2 53 b = if b = 3 * n + 2 then z else if b = 3 * n + 1 then y else if b = 3 * n then x else M 53 b := by
    intro b
    rw [e]
    simp only [g_up, show ((53 : Nat) = 45) = False by decide, show ((53 : Nat) = 52) = False by decide, show ((53 : Nat) = 54) = False by decide, show ((53 : Nat) = 55) = False by decide, show ((53 : Nat) = 77) = False by decide, show ((53 : Nat) = 9) = False by decide, show ((53 : Nat) = 15) = False by decide, show ((53 : Nat) = 14) = False by decide, show ((53 : Nat) = 12) = False by decide, false_and, if_false, true_and]
    rw [hjm 53 b (by decide) (by decide) (by decide) (by decide)]
    rfl
  have hcl (k : Nat) (hk : k = 16 ∨ k = 17 ∨ k = 18) : M2 k = j_M (g_up (g_up (g_up M 10 n 2) 11 n (h : Int)) 17 n 1) n 1 x y z w k := by
    rw [e, g_up_ne (by omega), g_up_ne (by omega), g_up_ne (by omega), g_up_ne (by omega), g_up_ne (by omega), g_up_ne (by omega), g_up_ne (by omega), g_up_ne (by omega), g_up_ne (by omega), g_up_ne (by omega), g_up_ne (by omega), g_up_ne (by omega), g_up_ne (by omega), g_up_ne (by omega)]
  have hg (k : Nat) (hk : k = 16 ∨ k = 18 ∨ k = 14 ∨ k = 15) : (g_up (g_up (g_up M 10 n 2) 11 n (h : Int)) 17 n 1) k = M k := by
    funext b
    simp only [g_up]
    rw [if_neg (by omega), if_neg (by omega), if_neg (by omega)]
  have hj17 : j_c ((g_up (g_up (g_up M 10 n 2) 11 n (h : Int)) 17 n 1) 17) 1 x y z w = j_c (M 17) 1 x y z w := by
    have hin : ∀ i : Nat, i < w → 0 ≤ j_pk x y z i ∧ j_pk x y z i < M 45 8 := fun i hi => j_pk_in hf.1 hw3 hi
    exact j_c_cg w (fun i hi => by have := hin i hi; simp only [g_up]; rw [if_neg (by omega), if_neg (by omega), if_neg (by omega)])
  obtain ⟨hP, hple⟩ := r_P_J (M := M) (M2 := M2) (h := h) (x := x) (y := y) (z := z) false hI.1 hn hl hf hw3 (by simp only [if_true, Bool.false_eq_true, if_false]; exact ⟨hh, hw⟩) ho h45 h458 (by rw [e]; simp [g_up]) hkc hkm (fun t k ht hk => ⟨by
      rw [e13]
      unfold j_M
      rw [if_neg (by omega), if_neg (by omega), if_neg (by omega), if_neg (by omega)]
      rfl, by rw [e53, if_neg (by omega), if_neg (by omega), if_neg (by omega)]⟩)
    (by rw [e, g_up_ne (by decide), g_up_ne (by decide), g_up_ne (by decide), g_up_ne (by decide), g_up_ne (by decide), g_up_ne (by decide), g_up_ne (by decide), g_up_ne (by decide), g_up_ne (by decide), g_up_ne (by decide), g_up_ne (by decide), g_up_ne (by decide), g_up_ne (by decide), g_up_ne (by decide), hjm 10 n (by decide) (by decide) (by decide) (by decide)]; simp [g_up])
    (by rw [e, g_up_ne (by decide), g_up_ne (by decide), g_up_ne (by decide), g_up_ne (by decide), g_up_ne (by decide), g_up_ne (by decide), g_up_ne (by decide), g_up_ne (by decide), g_up_ne (by decide), g_up_ne (by decide), g_up_ne (by decide), g_up_ne (by decide), g_up_ne (by decide), g_up_ne (by decide), hjm 11 n (by decide) (by decide) (by decide) (by decide)]; simp [g_up])
    (by rw [e]; simp [g_up])
    (fun i hi => ⟨by
      rw [e13]
      unfold j_M
      rw [if_pos ⟨rfl, by omega, by omega⟩, show 3 * n + i - 3 * n = i by omega], by rw [e53]; unfold j_pk; omega⟩)
    (by rw [e]; simp [g_up]) (by rw [e]; simp [g_up])
    (by rw [hcl 16 (by decide)]; unfold j_M; rw [if_neg (by omega), if_neg (by omega), if_neg (by omega), if_pos ⟨rfl, rfl⟩, hg 16 (by decide)])
    (by rw [hcl 17 (by decide)]; unfold j_M; rw [if_neg (by omega), if_pos ⟨rfl, rfl⟩]; exact hj17)
    (by rw [hcl 18 (by decide)]; unfold j_M; rw [if_neg (by omega), if_neg (by omega), if_pos ⟨rfl, rfl⟩, hg 16 (by decide), hg 18 (by decide)])
    (by rw [e]; simp [g_up]) (by rw [e]; simp [g_up]) (by rw [e]; simp [g_up])
  exact ⟨hP, r_V_ex hX hI.1 hI.2.1 ⟨hple, h45 0 (by decide) (by decide), h45 4 (by decide) (by decide), h45 13 (by decide) (by decide), fun k hk => ho k (by omega)⟩ (ho 0 (by decide)) (h45 17 (by decide) (by decide)) (h45 18 (by decide) (by decide)), r_R_cg hI.2.2 (by rw [ho 34 (by decide)]) (by rw [ho 34 (by decide)]) (h45 34 (by decide) (by decide)) (h45 42 (by decide) (by decide)) (ho 44 (by decide)) (ho 76 (by decide))⟩
theorem r_I_var {X : g_M → Int → Int → Prop} (hX : r_X X) {M M2 : g_M} {n v : Nat} (hI : r_I X M) (hn : M 45 8 = n) (hl : n < 100) (hv : v < 8)
    (e : M2 = g_up (g_up (g_up (g_up (g_up (g_up (g_up (g_up (g_up (g_up (g_up M 10 n 0) 11 n v) 15 n 1) 16 n ((2 ^ v : Nat) : Int)) 9 9 ((n : Int) + 1)) 77 0 (n : Int)) 45 44 0) 52 n v) 54 n 0) 55 n 1) 45 8 ((n : Int) + 1)) : r_I X M2 := by
  have ho : ∀ k : Nat, k < 9 ∨ 19 ≤ k ∧ k < 45 ∨ 46 ≤ k ∧ k < 52 ∨ 56 ≤ k ∧ k < 77 → M2 k = M k := by
    intro k hk
    rw [e, g_up_ne (by omega), g_up_ne (by omega), g_up_ne (by omega), g_up_ne (by omega), g_up_ne (by omega), g_up_ne (by omega), g_up_ne (by omega), g_up_ne (by omega), g_up_ne (by omega), g_up_ne (by omega), g_up_ne (by omega)]
  have h45 : ∀ b : Nat, b ≠ 8 → b ≠ 44 → M2 45 b = M 45 b := by
    intro b h1 h2
    rw [e]
    simp [g_up, h1, h2]
  have h1353 (k : Nat) (hk : k = 13 ∨ k = 53 ∨ k = 12 ∨ k = 14 ∨ k = 17 ∨ k = 18) : M2 k = M k := by
    rw [e, g_up_ne (by omega), g_up_ne (by omega), g_up_ne (by omega), g_up_ne (by omega), g_up_ne (by omega), g_up_ne (by omega), g_up_ne (by omega), g_up_ne (by omega), g_up_ne (by omega), g_up_ne (by omega), g_up_ne (by omega)]
  obtain ⟨hP, hple⟩ := r_P_v (M := M) (M2 := M2) (v := v) hI.1 hn hl hv ho h45 (by rw [e]; simp [g_up]) (by rw [e]; simp [g_up]) (fun k t h1 h2 h3 h4 => by
      rw [e]
      simp only [g_up, h4, and_false, if_false]
      rw [if_neg (by omega), if_neg (by omega), if_neg (by omega), if_neg (by omega)]) (fun k t h1 h2 h3 h4 => by
      rw [e]
      simp only [g_up, h4, and_false, if_false]
      rw [if_neg (by omega), if_neg (by omega), if_neg (by omega), if_neg (by omega)]) (fun t k _ _ => ⟨by rw [h1353 13 (by decide)], by rw [h1353 53 (by decide)]⟩)
    (by rw [e]; simp [g_up]) (by rw [e]; simp [g_up]) (by rw [h1353 12 (by decide)]) (by rw [h1353 14 (by decide)]) (by rw [e]; simp [g_up]) (by rw [e]; simp [g_up]) (by rw [h1353 17 (by decide)]) (by rw [h1353 18 (by decide)]) (by rw [e]; simp [g_up]) (by rw [e]; simp [g_up]) (by rw [e]; simp [g_up])
  exact ⟨hP, r_V_ex hX hI.1 hI.2.1 ⟨hple, h45 0 (by decide) (by decide), h45 4 (by decide) (by decide), h45 13 (by decide) (by decide), fun k hk => ho k (by omega)⟩ (ho 0 (by decide)) (h45 17 (by decide) (by decide)) (h45 18 (by decide) (by decide)), r_R_cg hI.2.2 (by rw [ho 34 (by decide)]) (by rw [ho 34 (by decide)]) (h45 34 (by decide) (by decide)) (h45 42 (by decide) (by decide)) (ho 44 (by decide)) (ho 76 (by decide))⟩
