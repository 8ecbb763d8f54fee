theorem r_I_con {X : g_M → Int → Int → Prop} {M M2 : g_M} {n : Nat} {t a b c : Int} (h : r_I X M) (hn : M 45 0 = n) (hl : n < 8) (hs : s_ok t a b c)
    (e : M2 = g_up (g_up (g_up (g_up (g_up (g_up (g_up (g_up (g_up (s_dec (g_up M 0 8 (-1)) 1 2 n t a b c) 77 0 (n : Int)) 45 44 0) 46 n t) 47 n (if a < 0 then 0 else if b < 0 then 1 else if c < 0 then 2 else 3)) 48 (3 * n) a) 48 (3 * n + 1) b) 48 (3 * n + 2) c) 45 0 ((n : Int) + 1)) 45 17 0) : r_I X M2 := by
  have hot : ∀ x : Nat, x ≠ 0 → x ≠ 1 → x ≠ 2 → x ≠ 3 → x ≠ 4 → x ≠ 45 → x ≠ 46 → x ≠ 47 → x ≠ 48 → x ≠ 77 → M2 x = M x := by
    intro x h0 h1 h2 h3 h4 h5 h6 h7 h8 h9
    rw [e, g_up_ne h5, g_up_ne h5, g_up_ne h8, g_up_ne h8, g_up_ne h8, g_up_ne h7, g_up_ne h6, g_up_ne h5, g_up_ne h9, s_dex_ne _ h1 h2 h3 h4, g_up_ne h0]
  have h45 : ∀ y : Nat, y ≠ 0 → y ≠ 17 → y ≠ 44 → M2 45 y = M 45 y := by
    intro y h1 h2 h3
    rw [e]
    simp only [g_up, h1, h2, h3, and_false, if_false, show ((45 : Nat) = 77) = False by decide, show ((45 : Nat) = 46) = False by decide, show ((45 : Nat) = 47) = False by decide, show ((45 : Nat) = 48) = False by decide, false_and]
    rw [s_dex_ne _ (by decide) (by decide) (by decide) (by decide)]
    rfl
  have h0 : ∀ y : Nat, M2 0 y = if y = 8 then -1 else M 0 y := by
    intro y
    rw [e, g_up_ne (by decide), g_up_ne (by decide), g_up_ne (by decide), g_up_ne (by decide), g_up_ne (by decide), g_up_ne (by decide), g_up_ne (by decide), g_up_ne (by decide), g_up_ne (by decide), s_dex_ne _ (by decide) (by decide) (by decide) (by decide)]
    simp [g_up]
  have hcel : ∀ y : Nat, M2 46 y = if y = n then t else M 46 y := by
    intro y
    rw [e]
    simp only [g_up, show ((46 : Nat) = 45) = False by decide, show ((46 : Nat) = 77) = False by decide, show ((46 : Nat) = 47) = False by decide, show ((46 : Nat) = 48) = False by decide, false_and, if_false, true_and]
    rw [s_dex_ne _ (by decide) (by decide) (by decide) (by decide)]
    rfl
  have hP : r_P M2 := by
    refine r_P_C (t := t) (a := a) (b := b) (c := c) h.1 hn hl hs hot h45 (by rw [e]; simp [g_up]) (fun y => ?_) (fun y => ?_) (fun y => ?_) ?_ hcel (fun y => ?_) (fun y => ?_)
    · rw [e, g_up_ne (by decide), g_up_ne (by decide), g_up_ne (by decide), g_up_ne (by decide), g_up_ne (by decide), g_up_ne (by decide), g_up_ne (by decide), g_up_ne (by decide), g_up_ne (by decide), s_dec_k _ _ (by decide) (by decide) (by decide)]
      rfl
    · rw [e, g_up_ne (by decide), g_up_ne (by decide), g_up_ne (by decide), g_up_ne (by decide), g_up_ne (by decide), g_up_ne (by decide), g_up_ne (by decide), g_up_ne (by decide), g_up_ne (by decide), s_dec_0 _ _ (by decide)]
      rfl
    · rw [e, g_up_ne (by decide), g_up_ne (by decide), g_up_ne (by decide), g_up_ne (by decide), g_up_ne (by decide), g_up_ne (by decide), g_up_ne (by decide), g_up_ne (by decide), g_up_ne (by decide), s_dec_1 (a0 := 2) _ _ (by decide)]
      rfl
    · have e4 : M2 4 = s_dec (g_up M 0 8 (-1)) 1 2 n t a b c 4 := by rw [e, g_up_ne (by decide), g_up_ne (by decide), g_up_ne (by decide), g_up_ne (by decide), g_up_ne (by decide), g_up_ne (by decide), g_up_ne (by decide), g_up_ne (by decide), g_up_ne (by decide)]
      rw [e4]
      exact s_dec_2 (a0 := 2) (g_up M 0 8 (-1)) (by decide)
    · rw [e]
      simp only [g_up, show ((47 : Nat) = 45) = False by decide, show ((47 : Nat) = 77) = False by decide, show ((47 : Nat) = 46) = False by decide, show ((47 : Nat) = 48) = False by decide, false_and, if_false, true_and]
      rw [s_dex_ne _ (by decide) (by decide) (by decide) (by decide)]
      rfl
    · rw [e]
      simp only [g_up, show ((48 : Nat) = 45) = False by decide, show ((48 : Nat) = 77) = False by decide, show ((48 : Nat) = 46) = False by decide, show ((48 : Nat) = 47) = False by decide, false_and, if_false, true_and]
      rw [s_dex_ne _ (by decide) (by decide) (by decide) (by decide)]
      rfl
  have hz (x : Nat) (hx : x = 34 ∨ x = 44 ∨ x = 76) : M2 x = M x := hot x (by omega) (by omega) (by omega) (by omega) (by omega) (by omega) (by omega) (by omega) (by omega) (by omega)
  refine ⟨hP, ⟨?_, Or.inr ⟨?_, ?_⟩, fun h9 => absurd ?_ h9⟩, r_R_cg h.2.2 (by rw [hz 34 (by decide)]) (by rw [hz 34 (by decide)]) (h45 34 (by decide) (by decide) (by decide)) (h45 42 (by decide) (by decide) (by decide)) (hz 44 (by decide)) (hz 76 (by decide))⟩
  · rw [h0, h45 18 (by decide) (by decide) (by decide)]; exact h.2.1.1
  · rw [h0, if_pos rfl]; decide
  · rw [e]; simp [g_up]
  · rw [h0]; rfl
theorem r_I_fun {X : g_M → Int → Int → Prop} {M M2 : g_M} {n : Nat} {t a b c : Int} (h : r_I X M) (hn : M 45 4 = n) (hl : n < 6) (hs : s_ok t a b c)
    (e : M2 = g_up (g_up (g_up (g_up (g_up (g_up (g_up (g_up (g_up (s_dec (g_up M 0 8 (-1)) 5 6 n t a b c) 77 0 (n : Int)) 45 44 0) 49 n t) 50 n (if a < 0 then 0 else if b < 0 then 1 else if c < 0 then 2 else 3)) 51 (3 * n) a) 51 (3 * n + 1) b) 51 (3 * n + 2) c) 45 4 ((n : Int) + 1)) 45 17 0) : r_I X M2 := by
  have hot : ∀ x : Nat, x ≠ 0 → x ≠ 5 → x ≠ 6 → x ≠ 7 → x ≠ 8 → x ≠ 45 → x ≠ 49 → x ≠ 50 → x ≠ 51 → x ≠ 77 → M2 x = M x := by
    intro x h0 h1 h2 h3 h4 h5 h6 h7 h8 h9
    rw [e, g_up_ne h5, g_up_ne h5, g_up_ne h8, g_up_ne h8, g_up_ne h8, g_up_ne h7, g_up_ne h6, g_up_ne h5, g_up_ne h9, s_dex_ne _ h1 h2 h3 h4, g_up_ne h0]
  have h45 : ∀ y : Nat, y ≠ 4 → y ≠ 17 → y ≠ 44 → M2 45 y = M 45 y := by
    intro y h1 h2 h3
    rw [e]
    simp only [g_up, h1, h2, h3, and_false, if_false, show ((45 : Nat) = 77) = False by decide, show ((45 : Nat) = 49) = False by decide, show ((45 : Nat) = 50) = False by decide, show ((45 : Nat) = 51) = False by decide, false_and]
    rw [s_dex_ne _ (by decide) (by decide) (by decide) (by decide)]
    rfl
  have h0 : ∀ y : Nat, M2 0 y = if y = 8 then -1 else M 0 y := by
    intro y
    rw [e, g_up_ne (by decide), g_up_ne (by decide), g_up_ne (by decide), g_up_ne (by decide), g_up_ne (by decide), g_up_ne (by decide), g_up_ne (by decide), g_up_ne (by decide), g_up_ne (by decide), s_dex_ne _ (by decide) (by decide) (by decide) (by decide)]
    simp [g_up]
  have hcel : ∀ y : Nat, M2 49 y = if y = n then t else M 49 y := by
    intro y
    rw [e]
    simp only [g_up, show ((49 : Nat) = 45) = False by decide, show ((49 : Nat) = 77) = False by decide, show ((49 : Nat) = 50) = False by decide, show ((49 : Nat) = 51) = False by decide, false_and, if_false, true_and]
    rw [s_dex_ne _ (by decide) (by decide) (by decide) (by decide)]
    rfl
  have hP : r_P M2 := by
    refine r_P_F (t := t) (a := a) (b := b) (c := c) h.1 hn hl hs hot h45 (by rw [e]; simp [g_up]) (fun y => ?_) (fun y => ?_) (fun y => ?_) ?_ hcel (fun y => ?_) (fun y => ?_)
    · rw [e, g_up_ne (by decide), g_up_ne (by decide), g_up_ne (by decide), g_up_ne (by decide), g_up_ne (by decide), g_up_ne (by decide), g_up_ne (by decide), g_up_ne (by decide), g_up_ne (by decide), s_dec_k _ _ (by decide) (by decide) (by decide)]
      rfl
    · rw [e, g_up_ne (by decide), g_up_ne (by decide), g_up_ne (by decide), g_up_ne (by decide), g_up_ne (by decide), g_up_ne (by decide), g_up_ne (by decide), g_up_ne (by decide), g_up_ne (by decide), s_dec_0 _ _ (by decide)]
      rfl
    · rw [e, g_up_ne (by decide), g_up_ne (by decide), g_up_ne (by decide), g_up_ne (by decide), g_up_ne (by decide), g_up_ne (by decide), g_up_ne (by decide), g_up_ne (by decide), g_up_ne (by decide), s_dec_1 (a0 := 6) _ _ (by decide)]
      rfl
    · have e4 : M2 8 = s_dec (g_up M 0 8 (-1)) 5 6 n t a b c 8 := by rw [e, g_up_ne (by decide), g_up_ne (by decide), g_up_ne (by decide), g_up_ne (by decide), g_up_ne (by decide), g_up_ne (by decide), g_up_ne (by decide), g_up_ne (by decide), g_up_ne (by decide)]
      rw [e4]
      exact s_dec_2 (a0 := 6) (g_up M 0 8 (-1)) (by decide)
    · rw [e]
      simp only [g_up, show ((50 : Nat) = 45) = False by decide, show ((50 : Nat) = 77) = False by decide, show ((50 : Nat) = 49) = False by decide, show ((50 : Nat) = 51) = False by decide, false_and, if_false, true_and]
      rw [s_dex_ne _ (by decide) (by decide) (by decide) (by decide)]
      rfl
    · rw [e]
      simp only [g_up, show ((51 : Nat) = 45) = False by decide, show ((51 : Nat) = 77) = False by decide, show ((51 : Nat) = 49) = False by decide, show ((51 : Nat) = 50) = False by decide, false_and, if_false, true_and]
      rw [s_dex_ne _ (by decide) (by decide) (by decide) (by decide)]
      rfl
  have hz (x : Nat) (hx : x = 34 ∨ x = 44 ∨ x = 76) : M2 x = M x := hot x (by omega) (by omega) (by omega) (by omega) (by omega) (by omega) (by omega) (by omega) (by omega) (by omega)
  refine ⟨hP, ⟨?_, Or.inr ⟨?_, ?_⟩, fun h9 => absurd ?_ h9⟩, r_R_cg h.2.2 (by rw [hz 34 (by decide)]) (by rw [hz 34 (by decide)]) (h45 34 (by decide) (by decide) (by decide)) (h45 42 (by decide) (by decide) (by decide)) (hz 44 (by decide)) (hz 76 (by decide))⟩
  · rw [h0, h45 18 (by decide) (by decide) (by decide)]; exact h.2.1.1
  · rw [h0, if_pos rfl]; decide
  · rw [e]; simp [g_up]
  · rw [h0]; rfl
