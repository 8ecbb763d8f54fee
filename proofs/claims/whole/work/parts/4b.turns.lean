theorem t_constructor {X : g_M → Int → Int → Prop} (hX : r_X X) {M : g_M} (hI : r_I X M) (a1 a2 a3 a4 a5 : Int) : ∃ c s : Nat, c ≤ 1 ∧ s ≤ 6 ∧ l_SR 0 a1 a2 a3 a4 a5 M (r_I X) c s := by
  obtain ⟨c1, c2, c3⟩ := hI.1.1
  have c0 := c3.1
  have c8 := c3.2.1
  by_cases hs : s_ok a1 a2 a3 a4
  · by_cases hf : M 45 0 = 8
    · refine ⟨1, 6, by decide, by decide, Or.inl ⟨rfl, _, conLR_of (cw_constructor_2 2046 M M a1 a2 a3 a4 (c_Fu_constructor_x2 2040 M a1 a2 a3 a4 hs c2 (by rw [c1, hf]; decide))), ?_⟩⟩
      rintro M1 v1 ⟨e8, rfl⟩
      replace e8 := e8.symm
      subst e8
      refine ⟨2, rfl, _, conR_of (c_Mo_constructor_x2 2045 M a1 a2 a3 a4 hs hf), ?_⟩
      rintro M2 v2 ⟨rfl, rfl⟩
      exact ⟨0, rfl, by simp [g_up], fun h9 => absurd h9 (by decide), r_I_fr hX hI (r_fr_44 M 2)⟩
    · obtain ⟨n, hn⟩ : ∃ n : Nat, M 45 0 = n := ⟨(M 45 0).toNat, by omega⟩
      have e45 : (g_up (s_dec (g_up M 0 8 (-1)) 1 2 n a1 a2 a3 a4) 77 0 (n : Int)) 45 0 = n := by rw [g_up_ne (by decide), s_dex_ne _ (by decide) (by decide) (by decide) (by decide)]; exact hn
      refine ⟨0, 0, by decide, by decide, Or.inl ⟨rfl, _, conLR_of (cw_constructor_r 2046 M _ a1 a2 a3 a4 (n : Int) (c_Fu_constructor 2044 M n a1 a2 a3 a4 hs c2 (by rw [c1, hn]) (by omega))), ?_⟩⟩
      rintro M1 v1 ⟨e8, rfl⟩
      replace e8 := e8.symm
      subst e8
      refine ⟨0, rfl, _, conR_of (c_Mo_constructor 2045 _ n a1 a2 a3 a4 hs e45 (by omega)), ?_⟩
      rintro M2 v2 ⟨rfl, rfl⟩
      exact ⟨(n : Int), rfl, by simp [g_up], fun _ => by simp [g_up], r_I_con hI hn (by omega) hs rfl⟩
  · refine ⟨1, 6, by decide, by decide, Or.inl ⟨rfl, _, conLR_of (cw_constructor_1 2046 M M a1 a2 a3 a4 (c_Fu_constructor_x1 2040 M a1 a2 a3 a4 hs)), ?_⟩⟩
    rintro M1 v1 ⟨e8, rfl⟩
    replace e8 := e8.symm
    subst e8
    refine ⟨1, rfl, _, conR_of (c_Mo_constructor_x1 2045 M a1 a2 a3 a4 hs), ?_⟩
    rintro M2 v2 ⟨rfl, rfl⟩
    exact ⟨0, rfl, by simp [g_up], fun h9 => absurd h9 (by decide), r_I_fr hX hI (r_fr_44 M 1)⟩
theorem t_function {X : g_M → Int → Int → Prop} (hX : r_X X) {M : g_M} (hI : r_I X M) (a1 a2 a3 a4 a5 : Int) : ∃ c s : Nat, c ≤ 1 ∧ s ≤ 6 ∧ l_SR 1 a1 a2 a3 a4 a5 M (r_I X) c s := by
  obtain ⟨c1, c2, c3⟩ := hI.1.2.1
  have c0 := c3.1
  have c8 := c3.2.1
  by_cases hs : s_ok a1 a2 a3 a4
  · by_cases hf : M 45 4 = 6
    · refine ⟨1, 6, by decide, by decide, Or.inr (Or.inl ⟨rfl, _, conLR_of (cw_function_2 2046 M M a1 a2 a3 a4 (c_Fu_function_x2 2040 M a1 a2 a3 a4 hs c2 (by rw [c1, hf]; decide))), ?_⟩)⟩
      rintro M1 v1 ⟨e8, rfl⟩
      replace e8 := e8.symm
      subst e8
      refine ⟨2, rfl, _, conR_of (c_Mo_function_x2 2045 M a1 a2 a3 a4 hs hf), ?_⟩
      rintro M2 v2 ⟨rfl, rfl⟩
      exact ⟨0, rfl, by simp [g_up], fun h9 => absurd h9 (by decide), r_I_fr hX hI (r_fr_44 M 2)⟩
    · obtain ⟨n, hn⟩ : ∃ n : Nat, M 45 4 = n := ⟨(M 45 4).toNat, by omega⟩
      have e45 : (g_up (s_dec (g_up M 0 8 (-1)) 5 6 n a1 a2 a3 a4) 77 0 (n : Int)) 45 4 = n := by rw [g_up_ne (by decide), s_dex_ne _ (by decide) (by decide) (by decide) (by decide)]; exact hn
      refine ⟨0, 0, by decide, by decide, Or.inr (Or.inl ⟨rfl, _, conLR_of (cw_function_r 2046 M _ a1 a2 a3 a4 (n : Int) (c_Fu_function 2044 M n a1 a2 a3 a4 hs c2 (by rw [c1, hn]) (by omega))), ?_⟩)⟩
      rintro M1 v1 ⟨e8, rfl⟩
      replace e8 := e8.symm
      subst e8
      refine ⟨0, rfl, _, conR_of (c_Mo_function 2045 _ n a1 a2 a3 a4 hs e45 (by omega)), ?_⟩
      rintro M2 v2 ⟨rfl, rfl⟩
      exact ⟨(n : Int), rfl, by simp [g_up], fun _ => by simp [g_up], r_I_fun hI hn (by omega) hs rfl⟩
  · refine ⟨1, 6, by decide, by decide, Or.inr (Or.inl ⟨rfl, _, conLR_of (cw_function_1 2046 M M a1 a2 a3 a4 (c_Fu_function_x1 2040 M a1 a2 a3 a4 hs)), ?_⟩)⟩
    rintro M1 v1 ⟨e8, rfl⟩
    replace e8 := e8.symm
    subst e8
    refine ⟨1, rfl, _, conR_of (c_Mo_function_x1 2045 M a1 a2 a3 a4 hs), ?_⟩
    rintro M2 v2 ⟨rfl, rfl⟩
    exact ⟨0, rfl, by simp [g_up], fun h9 => absurd h9 (by decide), r_I_fr hX hI (r_fr_44 M 1)⟩
theorem t_variable {X : g_M → Int → Int → Prop} (hX : r_X X) {M : g_M} (hI : r_I X M) (a1 a2 a3 a4 a5 : Int) : ∃ c s : Nat, c ≤ 1 ∧ s ≤ 6 ∧ l_SR 2 a1 a2 a3 a4 a5 M (r_I X) c s := by
  have hT := hI.1.2.2.1
  have hT1 := hT.2.1.1
  have hT2 := hT.2.1.2.1
  by_cases hv : 0 ≤ a1 ∧ a1 < 8
  · by_cases hf : M 45 8 = 100
    · refine ⟨1, 6, by decide, by decide, Or.inr (Or.inr (Or.inl ⟨rfl, _, conLR_of (cw_variable_2 2046 M M a1 (c_Fu_variable_x2 2040 M a1 hv (by rw [hT.1, hf]; decide))), ?_⟩))⟩
      rintro M1 v1 ⟨e8, rfl⟩
      replace e8 := e8.symm
      subst e8
      refine ⟨2, rfl, _, conR_of (c_Mo_variable_x2 2046 M a1 hv hf), ?_⟩
      rintro M2 v2 ⟨rfl, rfl⟩
      exact ⟨0, rfl, by simp [g_up], fun h9 => absurd h9 (by decide), r_I_fr hX hI (r_fr_44 M 2)⟩
    · obtain ⟨n, hn⟩ : ∃ n : Nat, M 45 8 = n := ⟨(M 45 8).toNat, by omega⟩
      obtain ⟨v, rfl⟩ : ∃ v : Nat, a1 = v := ⟨a1.toNat, by omega⟩
      refine ⟨0, 0, by decide, by decide, Or.inr (Or.inr (Or.inl ⟨rfl, _, conLR_of (cw_variable_r 2046 M _ (v : Int) (n : Int) (c_Fu_variable 2045 M n v (by rw [hT.1, hn]) (by omega) (by omega))), ?_⟩))⟩
      rintro M1 v1 ⟨e8, rfl⟩
      replace e8 := e8.symm
      subst e8
      refine ⟨0, rfl, _, conR_of (c_Mo_variable 2046 _ n (v : Int) hv (by simp [g_up, hn]) (by omega)), ?_⟩
      rintro M2 v2 ⟨rfl, rfl⟩
      exact ⟨(n : Int), rfl, by simp [g_up], fun _ => by simp [g_up], r_I_var hX hI hn (by omega) (by omega) rfl⟩
  · refine ⟨1, 6, by decide, by decide, Or.inr (Or.inr (Or.inl ⟨rfl, _, conLR_of (cw_variable_1 2046 M M a1 (c_Fu_variable_x1 2040 M a1 (by omega))), ?_⟩))⟩
    rintro M1 v1 ⟨e8, rfl⟩
    replace e8 := e8.symm
    subst e8
    refine ⟨1, rfl, _, conR_of (c_Mo_variable_x1 2046 M a1 (by omega)), ?_⟩
    rintro M2 v2 ⟨rfl, rfl⟩
    exact ⟨0, rfl, by simp [g_up], fun h9 => absurd h9 (by decide), r_I_fr hX hI (r_fr_44 M 1)⟩
theorem t_make {X : g_M → Int → Int → Prop} (hX : r_X X) {M : g_M} (hI : r_I X M) (a1 a2 a3 a4 a5 : Int) : ∃ c s : Nat, c ≤ 1 ∧ s ≤ 6 ∧ l_SR 3 a1 a2 a3 a4 a5 M (r_I X) c s := by
  obtain ⟨c1, c2, c3⟩ := hI.1.1
  have c8 := c3.2.1
  have hT := hI.1.2.2.1
  have hT1 := hT.2.1.1
  have hT2 := hT.2.1.2.1
  obtain ⟨hB, hB2⟩ := r_B hI.1
  by_cases hh : 0 ≤ a1 ∧ a1 < M 45 0
  · obtain ⟨h, rfl⟩ : ∃ h : Nat, a1 = h := ⟨a1.toNat, by omega⟩
    obtain ⟨-, -, d3, d4, -⟩ := c3.2.2 h hh.2
    obtain ⟨w, hw⟩ : ∃ w : Nat, M 47 h = w := ⟨(M 47 h).toNat, by omega⟩
    have hw3 : w ≤ 3 := by omega
    have hw2 : M 3 h = w := by rw [d3, hw]
    have hm2 : (h : Int) < M 1 4 := by rw [c1]; exact hh.2
    by_cases hf : j_fit (M 45 8) (M 54) (M 55) a2 a3 a4 w
    · by_cases hn : M 45 8 = 100
      · refine ⟨1, 6, by decide, by decide, Or.inr (Or.inr (Or.inr (Or.inl ⟨rfl, _, conLR_of (cw_make_2 2046 M M (h : Int) a2 a3 a4 (c_Fu_make_x2 2040 M h w a2 a3 a4 (by omega) hm2 hw2 hw3 hB2 ((r_fit hI.1 hw3).mpr hf) (by rw [hT.1, hn]; decide))), ?_⟩)))⟩
        rintro M1 v1 ⟨e8, rfl⟩
        replace e8 := e8.symm
        subst e8
        refine ⟨2, rfl, _, conR_of (c_Mo_make_x2 2045 M h w a2 a3 a4 (by omega) hh.2 hw hw3 hB hf hn), ?_⟩
        rintro M2 v2 ⟨rfl, rfl⟩
        exact ⟨0, rfl, by simp [g_up], fun h9 => absurd h9 (by decide), r_I_fr hX hI ((r_fr_44 M 0).tr (r_fr_44 _ 2))⟩
      · obtain ⟨n, hn⟩ : ∃ n : Nat, M 45 8 = n := ⟨(M 45 8).toNat, by omega⟩
        obtain ⟨z12, z14, z16, z17, z18⟩ := hT.2.2.2.1 n (by omega)
        have ek : ∀ k : Nat, 45 ≤ k → k < 77 → (g_up (g_up (g_up (g_up (g_up (j_M (g_up (g_up M 10 n 1) 11 n (h : Int)) n 0 a2 a3 a4 w) 12 n w) 14 n (j_h (M 14) a2 a3 a4 w + 1)) 15 n (j_s (M 15) a2 a3 a4 w)) 9 9 ((n : Int) + 1)) 77 0 (n : Int)) k = M k := by
          intro k k1 k2
          rw [g_up_ne (by omega), g_up_ne (by omega), g_up_ne (by omega), g_up_ne (by omega), g_up_ne (by omega)]
          funext b
          rw [j_M_ne _ _ _ _ _ _ _ _ _ (by omega) (by omega) (by omega) (by omega)]
          rw [g_up_ne (by omega), g_up_ne (by omega)]
        refine ⟨0, 0, by decide, by decide, Or.inr (Or.inr (Or.inr (Or.inl ⟨rfl, _, conLR_of (cw_make_r 2046 M _ (h : Int) a2 a3 a4 (n : Int) (c_Fu_make 2043 M h w n a2 a3 a4 (by omega) hm2 hw2 hw3 hB2 ((r_fit hI.1 hw3).mpr hf) (by rw [hT.1, hn]) (by omega) z17 z18 z16 hT.2.2.2.2)), ?_⟩)))⟩
        rintro M1 v1 ⟨e8, rfl⟩
        replace e8 := e8.symm
        subst e8
        refine ⟨0, rfl, _, conR_of (c_Mo_make 2045 _ h w n a2 a3 a4 (by omega) (by rw [ek 45 (by decide) (by decide)]; exact hh.2) (by rw [ek 47 (by decide) (by decide)]; exact hw) hw3 (by rw [ek 45 (by decide) (by decide), ek 54 (by decide) (by decide), ek 55 (by decide) (by decide)]; exact hB) (by rw [ek 45 (by decide) (by decide), ek 54 (by decide) (by decide), ek 55 (by decide) (by decide)]; exact hf) (by rw [ek 45 (by decide) (by decide)]; exact hn) (by omega)), ?_⟩
        rintro M2 v2 ⟨rfl, rfl⟩
        exact ⟨(n : Int), rfl, by simp [g_up], fun _ => by simp [g_up], r_I_mk hX hI hn (by omega) hf hw3 hh.2 hw (by rw [ek 54 (by decide) (by decide), ek 55 (by decide) (by decide)])⟩
    · refine ⟨1, 6, by decide, by decide, Or.inr (Or.inr (Or.inr (Or.inl ⟨rfl, _, conLR_of (cw_make_1 2046 M M (h : Int) a2 a3 a4 (c_Fu_make_x1 2040 M h w a2 a3 a4 (by omega) hm2 hw2 hw3 hB2 (fun h9 => hf ((r_fit hI.1 hw3).mp h9)))), ?_⟩)))⟩
      rintro M1 v1 ⟨e8, rfl⟩
      replace e8 := e8.symm
      subst e8
      refine ⟨1, rfl, _, conR_of (c_Mo_make_x1 2045 M h w a2 a3 a4 (by omega) hh.2 hw hw3 hB hf), ?_⟩
      rintro M2 v2 ⟨rfl, rfl⟩
      exact ⟨0, rfl, by simp [g_up], fun h9 => absurd h9 (by decide), r_I_fr hX hI ((r_fr_44 M 0).tr (r_fr_44 _ 1))⟩
  · refine ⟨1, 6, by decide, by decide, Or.inr (Or.inr (Or.inr (Or.inl ⟨rfl, _, conLR_of (cw_make_1 2046 M M a1 a2 a3 a4 (c_Fu_make_x0 2040 M a1 a2 a3 a4 (by rw [c1]; exact hh))), ?_⟩)))⟩
    rintro M1 v1 ⟨e8, rfl⟩
    replace e8 := e8.symm
    subst e8
    refine ⟨1, rfl, _, conR_of (c_Mo_make_x0 2046 M a1 a2 a3 a4 hh), ?_⟩
    rintro M2 v2 ⟨rfl, rfl⟩
    exact ⟨0, rfl, by simp [g_up], fun h9 => absurd h9 (by decide), r_I_fr hX hI (r_fr_44 M 1)⟩
theorem t_call {X : g_M → Int → Int → Prop} (hX : r_X X) {M : g_M} (hI : r_I X M) (a1 a2 a3 a4 a5 : Int) : ∃ c s : Nat, c ≤ 1 ∧ s ≤ 6 ∧ l_SR 4 a1 a2 a3 a4 a5 M (r_I X) c s := by
  obtain ⟨c1, c2, c3⟩ := hI.1.2.1
  have c8 := c3.2.1
  have hT := hI.1.2.2.1
  have hT1 := hT.2.1.1
  have hT2 := hT.2.1.2.1
  obtain ⟨hB, hB2⟩ := r_B hI.1
  by_cases hh : 0 ≤ a1 ∧ a1 < M 45 4
  · obtain ⟨h, rfl⟩ : ∃ h : Nat, a1 = h := ⟨a1.toNat, by omega⟩
    obtain ⟨-, -, d3, d4, -⟩ := c3.2.2 h hh.2
    obtain ⟨w, hw⟩ : ∃ w : Nat, M 50 h = w := ⟨(M 50 h).toNat, by omega⟩
    have hw3 : w ≤ 3 := by omega
    have hw2 : M 7 h = w := by rw [d3, hw]
    have hm2 : (h : Int) < M 5 4 := by rw [c1]; exact hh.2
    by_cases hf : j_fit (M 45 8) (M 54) (M 55) a2 a3 a4 w
    · by_cases hn : M 45 8 = 100
      · refine ⟨1, 6, by decide, by decide, Or.inr (Or.inr (Or.inr (Or.inr (Or.inl ⟨rfl, _, conLR_of (cw_call_2 2046 M M (h : Int) a2 a3 a4 (c_Fu_call_x2 2040 M h w a2 a3 a4 (by omega) hm2 hw2 hw3 hB2 ((r_fit hI.1 hw3).mpr hf) (by rw [hT.1, hn]; decide))), ?_⟩))))⟩
        rintro M1 v1 ⟨e8, rfl⟩
        replace e8 := e8.symm
        subst e8
        refine ⟨2, rfl, _, conR_of (c_Mo_call_x2 2045 M h w a2 a3 a4 (by omega) hh.2 hw hw3 hB hf hn), ?_⟩
        rintro M2 v2 ⟨rfl, rfl⟩
        exact ⟨0, rfl, by simp [g_up], fun h9 => absurd h9 (by decide), r_I_fr hX hI ((r_fr_44 M 0).tr (r_fr_44 _ 2))⟩
      · obtain ⟨n, hn⟩ : ∃ n : Nat, M 45 8 = n := ⟨(M 45 8).toNat, by omega⟩
        obtain ⟨z12, z14, z16, z17, z18⟩ := hT.2.2.2.1 n (by omega)
        have ek : ∀ k : Nat, 45 ≤ k → k < 77 → (g_up (g_up (g_up (g_up (g_up (j_M (g_up (g_up (g_up M 10 n 2) 11 n (h : Int)) 17 n 1) n 1 a2 a3 a4 w) 12 n w) 14 n (j_h (M 14) a2 a3 a4 w + 1)) 15 n (j_s (M 15) a2 a3 a4 w)) 9 9 ((n : Int) + 1)) 77 0 (n : Int)) k = M k := by
          intro k k1 k2
          rw [g_up_ne (by omega), g_up_ne (by omega), g_up_ne (by omega), g_up_ne (by omega), g_up_ne (by omega)]
          funext b
          rw [j_M_ne _ _ _ _ _ _ _ _ _ (by omega) (by omega) (by omega) (by omega)]
          rw [g_up_ne (by omega), g_up_ne (by omega), g_up_ne (by omega)]
        refine ⟨0, 0, by decide, by decide, Or.inr (Or.inr (Or.inr (Or.inr (Or.inl ⟨rfl, _, conLR_of (cw_call_r 2046 M _ (h : Int) a2 a3 a4 (n : Int) (c_Fu_call 2043 M h w n a2 a3 a4 (by omega) hm2 hw2 hw3 hB2 ((r_fit hI.1 hw3).mpr hf) (by rw [hT.1, hn]) (by omega) z18 z16 hT.2.2.2.2)), ?_⟩))))⟩
        rintro M1 v1 ⟨e8, rfl⟩
        replace e8 := e8.symm
        subst e8
        refine ⟨0, rfl, _, conR_of (c_Mo_call 2045 _ h w n a2 a3 a4 (by omega) (by rw [ek 45 (by decide) (by decide)]; exact hh.2) (by rw [ek 50 (by decide) (by decide)]; exact hw) hw3 (by rw [ek 45 (by decide) (by decide), ek 54 (by decide) (by decide), ek 55 (by decide) (by decide)]; exact hB) (by rw [ek 45 (by decide) (by decide), ek 54 (by decide) (by decide), ek 55 (by decide) (by decide)]; exact hf) (by rw [ek 45 (by decide) (by decide)]; exact hn) (by omega)), ?_⟩
        rintro M2 v2 ⟨rfl, rfl⟩
        exact ⟨(n : Int), rfl, by simp [g_up], fun _ => by simp [g_up], r_I_ca hX hI hn (by omega) hf hw3 hh.2 hw (by rw [ek 54 (by decide) (by decide), ek 55 (by decide) (by decide)])⟩
    · refine ⟨1, 6, by decide, by decide, Or.inr (Or.inr (Or.inr (Or.inr (Or.inl ⟨rfl, _, conLR_of (cw_call_1 2046 M M (h : Int) a2 a3 a4 (c_Fu_call_x1 2040 M h w a2 a3 a4 (by omega) hm2 hw2 hw3 hB2 (fun h9 => hf ((r_fit hI.1 hw3).mp h9)))), ?_⟩))))⟩
      rintro M1 v1 ⟨e8, rfl⟩
      replace e8 := e8.symm
      subst e8
      refine ⟨1, rfl, _, conR_of (c_Mo_call_x1 2045 M h w a2 a3 a4 (by omega) hh.2 hw hw3 hB hf), ?_⟩
      rintro M2 v2 ⟨rfl, rfl⟩
      exact ⟨0, rfl, by simp [g_up], fun h9 => absurd h9 (by decide), r_I_fr hX hI ((r_fr_44 M 0).tr (r_fr_44 _ 1))⟩
  · refine ⟨1, 6, by decide, by decide, Or.inr (Or.inr (Or.inr (Or.inr (Or.inl ⟨rfl, _, conLR_of (cw_call_1 2046 M M a1 a2 a3 a4 (c_Fu_call_x0 2040 M a1 a2 a3 a4 (by rw [c1]; exact hh))), ?_⟩))))⟩
    rintro M1 v1 ⟨e8, rfl⟩
    replace e8 := e8.symm
    subst e8
    refine ⟨1, rfl, _, conR_of (c_Mo_call_x0 2046 M a1 a2 a3 a4 hh), ?_⟩
    rintro M2 v2 ⟨rfl, rfl⟩
    exact ⟨0, rfl, by simp [g_up], fun h9 => absurd h9 (by decide), r_I_fr hX hI (r_fr_44 M 1)⟩
theorem t_graphs {X : g_M → Int → Int → Prop} (hX : r_X X) {M : g_M} (hI : r_I X M) (a1 a2 a3 a4 a5 : Int) : ∃ c s : Nat, c ≤ 1 ∧ s ≤ 6 ∧ l_SR 7 a1 a2 a3 a4 a5 M (r_I X) c s := by
  refine ⟨0, 0, by decide, by decide, Or.inr (Or.inr (Or.inr (Or.inr (Or.inr (Or.inr (Or.inr (Or.inl ⟨rfl, ⟨rfl, rfl⟩, _, conR_of (c_Fu_graphs 2047 M), ?_⟩)))))))⟩
  rintro M1 v1 ⟨e8, rfl⟩
  replace e8 := e8.symm
  subst e8
  refine ⟨_, rfl, _, conR_of (c_Mo_graphs 2047 M), ?_⟩
  rintro M2 v2 ⟨rfl, rfl⟩
  exact ⟨_, rfl, hI.2.1.1, r_I_fr hX hI (r_fr_44 M 0)⟩
theorem t_answer {X : g_M → Int → Int → Prop} (hX : r_X X) {M : g_M} (hI : r_I X M) (a1 a2 a3 a4 a5 : Int) : ∃ c s : Nat, c ≤ 1 ∧ s ≤ 6 ∧ l_SR 11 a1 a2 a3 a4 a5 M (r_I X) c s := by
  obtain ⟨-, r2, r3, r4⟩ := hI.2.2
  by_cases hi : a1 < 0 ∨ M 45 42 ≤ a1
  · refine ⟨1, 6, by decide, by decide, Or.inr (Or.inr (Or.inr (Or.inr (Or.inr (Or.inr (Or.inr (Or.inr (Or.inr (Or.inr (Or.inr (Or.inl ⟨rfl, _, conLR_of (cw_answer_1 2046 M M a1 (c_Fu_answer_x 2040 M a1 (by rw [r2]; exact hi))), ?_⟩)))))))))))⟩
    rintro M1 v1 ⟨e8, rfl⟩
    replace e8 := e8.symm
    subst e8
    refine ⟨1, rfl, _, conR_of (c_Mo_answer_x 2047 M a1 hi), ?_⟩
    rintro M2 v2 ⟨rfl, rfl⟩
    exact ⟨0, rfl, by simp [g_up], fun h9 => absurd h9 (by decide), r_I_fr hX hI (r_fr_44 M 1)⟩
  · obtain ⟨i, rfl⟩ : ∃ i : Nat, a1 = i := ⟨a1.toNat, by omega⟩
    refine ⟨0, 0, by decide, by decide, Or.inr (Or.inr (Or.inr (Or.inr (Or.inr (Or.inr (Or.inr (Or.inr (Or.inr (Or.inr (Or.inr (Or.inl ⟨rfl, _, conLR_of (cw_answer_r 2046 M _ (i : Int) (M 44 i) (c_Fu_answer 2045 M i (by omega) (by omega))), ?_⟩)))))))))))⟩
    rintro M1 v1 ⟨e8, rfl⟩
    replace e8 := e8.symm
    subst e8
    refine ⟨0, rfl, _, conR_of (c_Mo_answer 2047 (g_up M 77 0 (M 44 i)) i (by omega) (by show (i : Int) < M 45 42; omega)), ?_⟩
    rintro M2 v2 ⟨rfl, rfl⟩
    exact ⟨M 76 i, rfl, by simp [g_up], fun _ => by show M 44 i = M 76 i; exact r4 i (by omega), r_I_fr hX hI ((r_fr_77 M 0 _).tr (r_fr_44 _ 0))⟩
theorem t_count {X : g_M → Int → Int → Prop} (hX : r_X X) {M : g_M} (hI : r_I X M) (a1 a2 a3 a4 a5 : Int) : ∃ c s : Nat, c ≤ 1 ∧ s ≤ 6 ∧ l_SR 12 a1 a2 a3 a4 a5 M (r_I X) c s := by
  by_cases hw : a1 < 0 ∨ 5 < a1
  · refine ⟨0, 0, by decide, by decide, Or.inr (Or.inr (Or.inr (Or.inr (Or.inr (Or.inr (Or.inr (Or.inr (Or.inr (Or.inr (Or.inr (Or.inr (Or.inl ⟨rfl, ⟨rfl, rfl⟩, _, conR_of (c_Fu_count_9 2046 M a1 hw), ?_⟩))))))))))))⟩
    rintro M1 v1 ⟨e8, rfl⟩
    replace e8 := e8.symm
    subst e8
    refine ⟨_, rfl, _, conR_of (c_Mo_count_9 2047 M a1 hw), ?_⟩
    rintro M2 v2 ⟨rfl, rfl⟩
    exact ⟨_, rfl, rfl, r_I_fr hX hI (r_fr_44 M 0)⟩
  · have h9 : a1 = 0 ∨ a1 = 1 ∨ a1 = 2 ∨ a1 = 3 ∨ a1 = 4 ∨ a1 = 5 := by omega
    rcases h9 with rfl | rfl | rfl | rfl | rfl | rfl
    · refine ⟨0, 0, by decide, by decide, Or.inr (Or.inr (Or.inr (Or.inr (Or.inr (Or.inr (Or.inr (Or.inr (Or.inr (Or.inr (Or.inr (Or.inr (Or.inl ⟨rfl, ⟨rfl, rfl⟩, _, conR_of (c_Fu_count_0 2046 M), ?_⟩))))))))))))⟩
      rintro M1 v1 ⟨e8, rfl⟩
      replace e8 := e8.symm
      subst e8
      refine ⟨_, rfl, _, conR_of (c_Mo_count_0 2047 M), ?_⟩
      rintro M2 v2 ⟨rfl, rfl⟩
      exact ⟨_, rfl, hI.2.2.1, r_I_fr hX hI (r_fr_44 M 0)⟩
    · refine ⟨0, 0, by decide, by decide, Or.inr (Or.inr (Or.inr (Or.inr (Or.inr (Or.inr (Or.inr (Or.inr (Or.inr (Or.inr (Or.inr (Or.inr (Or.inl ⟨rfl, ⟨rfl, rfl⟩, _, conR_of (c_Fu_count_1 2046 M), ?_⟩))))))))))))⟩
      rintro M1 v1 ⟨e8, rfl⟩
      replace e8 := e8.symm
      subst e8
      refine ⟨_, rfl, _, conR_of (c_Mo_count_1 2047 M), ?_⟩
      rintro M2 v2 ⟨rfl, rfl⟩
      exact ⟨_, rfl, hI.1.1.1, r_I_fr hX hI (r_fr_44 M 0)⟩
    · refine ⟨0, 0, by decide, by decide, Or.inr (Or.inr (Or.inr (Or.inr (Or.inr (Or.inr (Or.inr (Or.inr (Or.inr (Or.inr (Or.inr (Or.inr (Or.inl ⟨rfl, ⟨rfl, rfl⟩, _, conR_of (c_Fu_count_2 2046 M), ?_⟩))))))))))))⟩
      rintro M1 v1 ⟨e8, rfl⟩
      replace e8 := e8.symm
      subst e8
      refine ⟨_, rfl, _, conR_of (c_Mo_count_2 2047 M), ?_⟩
      rintro M2 v2 ⟨rfl, rfl⟩
      exact ⟨_, rfl, hI.1.2.1.1, r_I_fr hX hI (r_fr_44 M 0)⟩
    · refine ⟨0, 0, by decide, by decide, Or.inr (Or.inr (Or.inr (Or.inr (Or.inr (Or.inr (Or.inr (Or.inr (Or.inr (Or.inr (Or.inr (Or.inr (Or.inl ⟨rfl, ⟨rfl, rfl⟩, _, conR_of (c_Fu_count_3 2046 M), ?_⟩))))))))))))⟩
      rintro M1 v1 ⟨e8, rfl⟩
      replace e8 := e8.symm
      subst e8
      refine ⟨_, rfl, _, conR_of (c_Mo_count_3 2047 M), ?_⟩
      rintro M2 v2 ⟨rfl, rfl⟩
      exact ⟨_, rfl, hI.1.2.2.1.1, r_I_fr hX hI (r_fr_44 M 0)⟩
    · refine ⟨0, 0, by decide, by decide, Or.inr (Or.inr (Or.inr (Or.inr (Or.inr (Or.inr (Or.inr (Or.inr (Or.inr (Or.inr (Or.inr (Or.inr (Or.inl ⟨rfl, ⟨rfl, rfl⟩, _, conR_of (c_Fu_count_4 2046 M), ?_⟩))))))))))))⟩
      rintro M1 v1 ⟨e8, rfl⟩
      replace e8 := e8.symm
      subst e8
      refine ⟨_, rfl, _, conR_of (c_Mo_count_4 2047 M), ?_⟩
      rintro M2 v2 ⟨rfl, rfl⟩
      exact ⟨_, rfl, hI.1.2.2.2.1, r_I_fr hX hI (r_fr_44 M 0)⟩
    · refine ⟨0, 0, by decide, by decide, Or.inr (Or.inr (Or.inr (Or.inr (Or.inr (Or.inr (Or.inr (Or.inr (Or.inr (Or.inr (Or.inr (Or.inr (Or.inl ⟨rfl, ⟨rfl, rfl⟩, _, conR_of (c_Fu_count_5 2046 M), ?_⟩))))))))))))⟩
      rintro M1 v1 ⟨e8, rfl⟩
      replace e8 := e8.symm
      subst e8
      refine ⟨_, rfl, _, conR_of (c_Mo_count_5 2047 M), ?_⟩
      rintro M2 v2 ⟨rfl, rfl⟩
      exact ⟨_, rfl, by rcases hI.2.1.2.1 with ⟨g1, g2⟩ | ⟨g1, g2⟩ <;> simp [g1, g2], r_I_fr hX hI (r_fr_44 M 0)⟩
