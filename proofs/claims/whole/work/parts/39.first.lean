theorem s_dec_ne (M : g_M) (k a0 n : Nat) (t a b c : Int) (q i : Nat) (h0 : q ≠ k) (h1 : q ≠ a0) (h2 : q ≠ a0 + 1) (h3 : q ≠ a0 + 2) : s_dec M k a0 n t a b c q i = M q i := by
  unfold s_dec
  split
  · simp [g_up, h0, h1, h2, h3]
  split
  · simp [g_up, h0, h1, h2, h3]
  split
  · simp [g_up, h0, h1, h2, h3]
  · simp [g_up, h0, h1, h2, h3]
/-- the first call on fresh objects: both answer alike -/
theorem f_first (op a1 a2 a3 a4 a5 : Int) (h0 : 0 ≤ op) : ∃ (M' : g_M) (c s : Nat), c ≤ 1 ∧ s ≤ 6 ∧ l_S op a1 a2 a3 a4 a5 mm_3 M' c s := by
  by_cases e0 : op = 0
  · by_cases hs : s_ok a1 a2 a3 a4
    · refine ⟨_, 0, 0, by decide, by decide, Or.inl ⟨e0, _, 0, ((0 : Nat) : Int), cw_constructor_r 2046 mm_3 _ a1 a2 a3 a4 ((0 : Nat) : Int) (c_Fu_constructor 2044 mm_3 0 a1 a2 a3 a4 hs rfl rfl (by decide)), c_Mo_constructor 2045 _ 0 a1 a2 a3 a4 hs ?_ (by decide), ?_, fun _ => ?_⟩⟩
      · show (g_up (s_dec _ _ _ _ _ _ _ _) 77 0 _) 45 0 = _
        simp only [g_up]
        rw [if_neg (by decide), s_dec_ne _ _ _ _ _ _ _ _ _ _ (by decide) (by decide) (by decide) (by decide)]
        rfl
      · simp [g_up]
      · simp [g_up]
    · exact ⟨_, 1, 6, by decide, by decide, Or.inl ⟨e0, _, 1, 0, cw_constructor_1 2046 mm_3 _ a1 a2 a3 a4 (c_Fu_constructor_x1 2040 mm_3 a1 a2 a3 a4 hs), c_Mo_constructor_x1 2045 _ a1 a2 a3 a4 hs, by simp [g_up], fun h => by omega⟩⟩
  by_cases e1 : op = 1
  · by_cases hs : s_ok a1 a2 a3 a4
    · refine ⟨_, 0, 0, by decide, by decide, Or.inr (Or.inl ⟨e1, _, 0, ((0 : Nat) : Int), cw_function_r 2046 mm_3 _ a1 a2 a3 a4 ((0 : Nat) : Int) (c_Fu_function 2044 mm_3 0 a1 a2 a3 a4 hs rfl rfl (by decide)), c_Mo_function 2045 _ 0 a1 a2 a3 a4 hs ?_ (by decide), ?_, fun _ => ?_⟩)⟩
      · show (g_up (s_dec _ _ _ _ _ _ _ _) 77 0 _) 45 4 = _
        simp only [g_up]
        rw [if_neg (by decide), s_dec_ne _ _ _ _ _ _ _ _ _ _ (by decide) (by decide) (by decide) (by decide)]
        rfl
      · simp [g_up]
      · simp [g_up]
    · exact ⟨_, 1, 6, by decide, by decide, Or.inr (Or.inl ⟨e1, _, 1, 0, cw_function_1 2046 mm_3 _ a1 a2 a3 a4 (c_Fu_function_x1 2040 mm_3 a1 a2 a3 a4 hs), c_Mo_function_x1 2045 _ a1 a2 a3 a4 hs, by simp [g_up], fun h => by omega⟩)⟩
  by_cases e2 : op = 2
  · by_cases hv : 0 ≤ a1 ∧ a1 < 8
    · obtain ⟨v, rfl⟩ := Int.eq_ofNat_of_zero_le hv.1
      refine ⟨_, 0, 0, by decide, by decide, Or.inr (Or.inr (Or.inl ⟨e2, _, 0, ((0 : Nat) : Int), cw_variable_r 2046 mm_3 _ v ((0 : Nat) : Int) (c_Fu_variable 2045 mm_3 0 v rfl (by decide) (by omega)), c_Mo_variable 2046 _ 0 v hv ?_ (by decide), ?_, fun _ => ?_⟩))⟩
      · simp [g_up, mm_3, mm_2, mm_1, mm_0]
      · simp [g_up]
      · simp [g_up]
    · exact ⟨_, 1, 6, by decide, by decide, Or.inr (Or.inr (Or.inl ⟨e2, _, 1, 0, cw_variable_1 2046 mm_3 _ a1 (c_Fu_variable_x1 2040 mm_3 a1 (by omega)), c_Mo_variable_x1 2046 _ a1 (by omega), by simp [g_up], fun h => by omega⟩))⟩
  have z1 : mm_3 1 4 = 0 := rfl
  have z5 : mm_3 5 4 = 0 := rfl
  have z19 : mm_3 19 7 = 0 := rfl
  have z9 : mm_3 9 9 = 0 := rfl
  have y0 : mm_3 45 0 = 0 := rfl
  have y4 : mm_3 45 4 = 0 := rfl
  have y8 : mm_3 45 8 = 0 := rfl
  have y13 : mm_3 45 13 = 0 := rfl
  by_cases e3 : op = 3
  · exact ⟨_, 1, 6, by decide, by decide, Or.inr (Or.inr (Or.inr (Or.inl ⟨e3, _, 1, 0, cw_make_1 2046 mm_3 _ a1 a2 a3 a4 (c_Fu_make_x0 2040 mm_3 a1 a2 a3 a4 (by omega)), c_Mo_make_x0 2046 _ a1 a2 a3 a4 (by omega), by simp [g_up], fun h => by omega⟩)))⟩
  by_cases e4 : op = 4
  · exact ⟨_, 1, 6, by decide, by decide, Or.inr (Or.inr (Or.inr (Or.inr (Or.inl ⟨e4, _, 1, 0, cw_call_1 2046 mm_3 _ a1 a2 a3 a4 (c_Fu_call_x0 2040 mm_3 a1 a2 a3 a4 (by omega)), c_Mo_call_x0 2046 _ a1 a2 a3 a4 (by omega), by simp [g_up], fun h => by omega⟩))))⟩
  by_cases e5 : op = 5
  · exact ⟨_, 1, 6, by decide, by decide, Or.inr (Or.inr (Or.inr (Or.inr (Or.inr (Or.inl ⟨e5, _, 1, 0, cw_clause_1 2046 mm_3 _ a1 a2 a3 a4 a5 (c_Fu_clause_x0 2040 mm_3 a1 a2 a3 a4 a5 (by omega)), c_Mo_clause_x0 2045 _ 0 a1 a2 a3 a4 a5 (by omega) rfl (by decide), by simp [g_up], fun h => by omega⟩)))))⟩
  by_cases e6 : op = 6
  · exact ⟨_, 0, 0, by decide, by decide, Or.inr (Or.inr (Or.inr (Or.inr (Or.inr (Or.inr (Or.inl ⟨e6, ⟨rfl, rfl⟩, _, 0, 0, c_Fu_check_e 2043 mm_3 rfl z1 z5 z19, c_Mo_check_e 2044 _ (by simp [g_up, s_tb, y0]) (by simp [g_up, s_tb, y4]) (by simp [g_up, s_tb, y13]), rfl⟩))))))⟩
  by_cases e7 : op = 7
  · exact ⟨_, 0, 0, by decide, by decide, Or.inr (Or.inr (Or.inr (Or.inr (Or.inr (Or.inr (Or.inr (Or.inl ⟨e7, ⟨rfl, rfl⟩, _, _, _, c_Fu_graphs 2047 mm_3, c_Mo_graphs 2047 _, rfl⟩)))))))⟩
  by_cases e8 : op = 8
  · exact ⟨_, 1, 6, by decide, by decide, Or.inr (Or.inr (Or.inr (Or.inr (Or.inr (Or.inr (Or.inr (Or.inr (Or.inl ⟨e8, _, 1, 0, cw_arc_1 2046 mm_3 _ a1 a2 a3 a4 (c_Fu_arc_x0 2040 mm_3 a1 a2 a3 a4 (by omega)), c_Mo_arc_x0 2046 _ a1 a2 a3 a4 (by omega), by simp [g_up], fun h => by omega⟩))))))))⟩
  by_cases e9 : op = 9
  · exact ⟨_, 0, 0, by decide, by decide, Or.inr (Or.inr (Or.inr (Or.inr (Or.inr (Or.inr (Or.inr (Or.inr (Or.inr (Or.inl ⟨e9, ⟨rfl, rfl⟩, _, _, _, c_Fu_isValue_0 2046 mm_3 a1 a2 (by omega), c_Mo_isValue_0 2046 _ a1 a2 (by omega), rfl⟩)))))))))⟩
  by_cases e10 : op = 10
  · exact ⟨_, 1, 6, by decide, by decide, Or.inr (Or.inr (Or.inr (Or.inr (Or.inr (Or.inr (Or.inr (Or.inr (Or.inr (Or.inr (Or.inl ⟨e10, _, 1, 0, cw_run_1 2046 mm_3 _ a1 a2 a3 a4 (c_Fu_run_x0 2040 mm_3 a1 a2 a3 a4 (by decide)), c_Mo_run_x0 2046 _ a1 a2 a3 a4 rfl, by simp [g_up], fun h => by omega⟩))))))))))⟩
  by_cases e11 : op = 11
  · have w1 : mm_3 34 14 = 0 := rfl
    have w2 : mm_3 45 42 = 0 := rfl
    exact ⟨_, 1, 6, by decide, by decide, Or.inr (Or.inr (Or.inr (Or.inr (Or.inr (Or.inr (Or.inr (Or.inr (Or.inr (Or.inr (Or.inr (Or.inl ⟨e11, _, 1, 0, cw_answer_1 2046 mm_3 _ a1 (c_Fu_answer_x 2040 mm_3 a1 (by omega)), c_Mo_answer_x 2047 _ a1 (by omega), by simp [g_up], fun h => by omega⟩)))))))))))⟩
  by_cases e12 : op = 12
  · have key : ∀ (M' : g_M) (k : Int), Con y_Fu_count w_Fu_count (g_rm 2047) LX mm_3 [g_r 0, g_i a1] LX mm_3 (some (g_i k)) → Con y_Mo_count w_Mo_count (g_rm 2047) LX mm_3 [g_r 45, g_i a1] LX M' (some (g_i k)) → ∃ (M' : g_M) (c s : Nat), c ≤ 1 ∧ s ≤ 6 ∧ l_S op a1 a2 a3 a4 a5 mm_3 M' c s := fun M' k h1 h2 =>
      ⟨M', 0, 0, by decide, by decide, Or.inr (Or.inr (Or.inr (Or.inr (Or.inr (Or.inr (Or.inr (Or.inr (Or.inr (Or.inr (Or.inr (Or.inr (Or.inl ⟨e12, ⟨rfl, rfl⟩, _, _, _, h1, h2, rfl⟩))))))))))))⟩
    by_cases q0 : a1 = 0
    · subst q0; exact key _ _ (c_Fu_count_0 2046 mm_3) (c_Mo_count_0 2047 mm_3)
    by_cases q1 : a1 = 1
    · subst q1; exact key _ _ (c_Fu_count_1 2046 mm_3) (c_Mo_count_1 2047 mm_3)
    by_cases q2 : a1 = 2
    · subst q2; exact key _ _ (c_Fu_count_2 2046 mm_3) (c_Mo_count_2 2047 mm_3)
    by_cases q3 : a1 = 3
    · subst q3; exact key _ _ (c_Fu_count_3 2046 mm_3) (c_Mo_count_3 2047 mm_3)
    by_cases q4 : a1 = 4
    · subst q4; exact key _ _ (c_Fu_count_4 2046 mm_3) (c_Mo_count_4 2047 mm_3)
    by_cases q5 : a1 = 5
    · subst q5; exact key _ _ (c_Fu_count_5 2046 mm_3) (c_Mo_count_5 2047 mm_3)
    exact key _ _ (c_Fu_count_9 2046 mm_3 a1 (by omega)) (c_Mo_count_9 2047 mm_3 a1 (by omega))
  exact ⟨mm_3, 0, 0, by decide, by decide, Or.inr (Or.inr (Or.inr (Or.inr (Or.inr (Or.inr (Or.inr (Or.inr (Or.inr (Or.inr (Or.inr (Or.inr (Or.inr ⟨by omega, rfl, rfl, rfl⟩))))))))))))⟩
