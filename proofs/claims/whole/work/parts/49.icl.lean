theorem r_I_cl {X : g_M → Int → Int → Prop} {M M1 M2 : g_M} {m f b c w : Nat} {p q r : Int} (hI : r_I X M) (hm : M 45 13 = m) (hl : m < 24) (hf : (f : Int) < M 45 4) (hw : M 50 f = w) (hb : (b : Int) < M 45 8) (hcl : q_cls M w p q r b = true) (hc : M 24 f = c) (hc6 : c < 6)
    (h1 : q_e4 (g_up (g_up (g_up (g_up (a_P (g_up (g_up (g_up M 0 8 (-1)) 20 m (f : Int)) 22 m b) m p q r w) 23 (6 * f + c) (m : Int)) 24 f ((c : Int) + 1)) 19 7 ((m : Int) + 1)) 77 0 ((m : Int) + 1)) M1)
    (e : M2 = g_up (g_up (g_up (g_up (g_up (g_up (g_up (g_up M1 45 44 0) 56 m (f : Int)) 57 (3 * m) p) 57 (3 * m + 1) q) 57 (3 * m + 2) r) 58 m (b : Int)) 45 13 ((m : Int) + 1)) 45 17 0) : r_I X M2 := by
  have ha : ∀ k b' : Nat, k ≠ 21 → a_P (g_up (g_up (g_up M 0 8 (-1)) 20 m (f : Int)) 22 m b) m p q r w k b' = g_up (g_up (g_up M 0 8 (-1)) 20 m (f : Int)) 22 m b k b' := fun k b' h => a_P_ne _ _ _ _ _ _ _ _ h
  have ho : ∀ k : Nat, 0 < k ∧ k < 19 ∨ 25 ≤ k ∧ k < 45 ∨ 46 ≤ k ∧ k < 56 ∨ 65 ≤ k ∧ k < 77 → M2 k = M k := by
    intro k hk
    rw [e, g_up_ne (by omega), g_up_ne (by omega), g_up_ne (by omega), g_up_ne (by omega), g_up_ne (by omega), g_up_ne (by omega), g_up_ne (by omega), g_up_ne (by omega)]
    funext y
    rw [h1 k y (by omega) (by omega) (by omega) (by omega), g_up_ne (by omega), g_up_ne (by omega), g_up_ne (by omega), g_up_ne (by omega), ha k y (by omega), g_up_ne (by omega), g_up_ne (by omega), g_up_ne (by omega)]
  have h45 : ∀ y : Nat, y ≠ 13 → y ≠ 17 → y ≠ 22 → y ≠ 44 → M2 45 y = M 45 y := by
    intro y h2 h3 h4 h5
    rw [e]
    simp only [g_up, h2, h3, h5, and_false, if_false, show ((45 : Nat) = 56) = False by decide, show ((45 : Nat) = 57) = False by decide, show ((45 : Nat) = 58) = False by decide, false_and]
    rw [h1 45 y (by decide) (by decide) (by decide) (by omega), g_up_ne (by decide), g_up_ne (by decide), g_up_ne (by decide), g_up_ne (by decide), ha 45 y (by decide)]
    rfl
  have hlow : ∀ k y : Nat, k < 25 → M2 k y = g_up (g_up (g_up (a_P (g_up (g_up (g_up M 0 8 (-1)) 20 m (f : Int)) 22 m b) m p q r w) 23 (6 * f + c) (m : Int)) 24 f ((c : Int) + 1)) 19 7 ((m : Int) + 1) k y := by
    intro k y hk
    rw [e, g_up_ne (by omega), g_up_ne (by omega), g_up_ne (by omega), g_up_ne (by omega), g_up_ne (by omega), g_up_ne (by omega), g_up_ne (by omega), g_up_ne (by omega), h1 k y (by omega) (by omega) (by omega) (by omega), g_up_ne (by omega)]
  have hM1 : ∀ k y : Nat, 56 ≤ k → k < 59 → M1 k y = M k y := by
    intro k y h2 h3
    rw [h1 k y (by omega) (by omega) (by omega) (by omega), g_up_ne (by omega), g_up_ne (by omega), g_up_ne (by omega), g_up_ne (by omega), ha k y (by omega), g_up_ne (by omega), g_up_ne (by omega), g_up_ne (by omega)]
  have h0 : ∀ y : Nat, M2 0 y = if y = 8 then -1 else M 0 y := by
    intro y
    rw [hlow 0 y (by decide), g_up_ne (by decide), g_up_ne (by decide), g_up_ne (by decide), ha 0 y (by decide)]
    simp [g_up]
  have hP : r_P M2 := by
    refine r_P_L (m := m) (f := f) (b := b) (c := c) (p := p) (q := q) (r := r) hI.1 hm hl hf hw hb hcl hc hc6 (fun k hk => ho k (by omega)) h45 (by rw [e]; simp [g_up]) ?_ (fun y => ?_) (fun y => ?_) (fun y i hy hi => ?_) (fun i hi => ?_) (fun y => ?_) (fun y => ?_) (fun y => ?_) (fun y => ?_) (fun y => ?_)
    · rw [hlow 19 7 (by decide)]; simp [g_up]
    · rw [hlow 20 y (by decide), g_up_ne (by decide), g_up_ne (by decide), g_up_ne (by decide), ha 20 y (by decide)]
      simp [g_up]
    · rw [hlow 22 y (by decide), g_up_ne (by decide), g_up_ne (by decide), g_up_ne (by decide), ha 22 y (by decide)]
      simp [g_up]
    · rw [hlow 21 _ (by decide), g_up_ne (by decide), g_up_ne (by decide), g_up_ne (by decide)]
      unfold a_P
      rw [if_neg (by omega)]
      rfl
    · rw [hlow 21 _ (by decide), g_up_ne (by decide), g_up_ne (by decide), g_up_ne (by decide)]
      unfold a_P
      rw [if_pos ⟨rfl, by omega, by omega⟩, show 3 * m + i - 3 * m = i by omega]
    · rw [hlow 23 y (by decide), g_up_ne (by decide), g_up_ne (by decide)]
      simp only [g_up, true_and]
      rw [ha 23 y (by decide)]
      rfl
    · rw [hlow 24 y (by decide), g_up_ne (by decide)]
      simp only [g_up, true_and, show ((24 : Nat) = 23) = False by decide, false_and, if_false]
      rw [ha 24 y (by decide)]
      rfl
    · rw [e]
      simp only [g_up, true_and, show ((56 : Nat) = 45) = False by decide, show ((56 : Nat) = 57) = False by decide, show ((56 : Nat) = 58) = False by decide, false_and, if_false]
      rw [hM1 56 y (by decide) (by decide)]
    · rw [e]
      simp only [g_up, true_and, show ((58 : Nat) = 45) = False by decide, show ((58 : Nat) = 57) = False by decide, show ((58 : Nat) = 56) = False by decide, false_and, if_false]
      rw [hM1 58 y (by decide) (by decide)]
    · rw [e]
      simp only [g_up, true_and, show ((57 : Nat) = 45) = False by decide, show ((57 : Nat) = 56) = False by decide, show ((57 : Nat) = 58) = False by decide, false_and, if_false]
      rw [hM1 57 y (by decide) (by decide)]
  refine ⟨hP, ⟨?_, Or.inr ⟨?_, ?_⟩, fun h9 => absurd ?_ h9⟩, r_R_cg hI.2.2 (by rw [ho 34 (by decide)]) (by rw [ho 34 (by decide)]) (h45 34 (by decide) (by decide) (by decide) (by decide)) (h45 42 (by decide) (by decide) (by decide) (by decide)) (ho 44 (by decide)) (ho 76 (by decide))⟩
  · rw [h0, h45 18 (by decide) (by decide) (by decide) (by decide)]; exact hI.2.1.1
  · rw [h0, if_pos rfl]; decide
  · rw [e]; simp [g_up]
  · rw [h0]; rfl
