/-! a stack of pairs: terms with types, or two terms -/
def q_s2 (M : g_M) (S : List (Nat × Int)) : Prop := M 45 22 = S.length ∧ ∀ (i x : Nat) (y : Int), S[i]? = some (x, y) → M 62 (S.length - 1 - i) = x ∧ M 63 (S.length - 1 - i) = y
theorem q_nil2 {M : g_M} (h : M 45 22 = 0) : q_s2 M [] := ⟨h, fun i x y hx => by simp at hx⟩
theorem q_push2 {M : g_M} {S : List (Nat × Int)} (x : Nat) (y : Int) (h : q_s2 M S) : q_s2 (g_up (g_up (g_up M 62 S.length x) 63 S.length y) 45 22 ((S.length : Int) + 1)) ((x, y) :: S) := by
  refine ⟨by simp [g_up], fun i z u hz => ?_⟩
  match i with
  | 0 =>
    simp at hz
    simp [g_up, hz]
  | i + 1 =>
    have hz' : S[i]? = some (z, u) := by simpa using hz
    have hl : i < S.length := (List.getElem?_eq_some_iff.mp hz').1
    have := h.2 i z u hz'
    have e : ((x, y) :: S).length - 1 - (i + 1) = S.length - 1 - i := by simp; omega
    rw [e]
    simp only [g_up]
    rw [if_neg (by omega), if_neg (by omega), if_neg (by omega), if_neg (by omega), if_neg (by omega), if_neg (by omega)]
    exact this
theorem q_pop2 {M : g_M} {S : List (Nat × Int)} {x : Nat} {y : Int} (h : q_s2 M ((x, y) :: S)) : (M 62 S.length = x ∧ M 63 S.length = y) ∧ q_s2 (g_up M 45 22 (S.length : Int)) S := by
  refine ⟨by simpa using h.2 0 x y rfl, by simp [g_up], fun i z u hz => ?_⟩
  have hl : i < S.length := (List.getElem?_eq_some_iff.mp hz).1
  have := h.2 (i + 1) z u (by simpa using hz)
  have e : ((x, y) :: S).length - 1 - (i + 1) = S.length - 1 - i := by simp; omega
  rw [e] at this
  simp only [g_up]
  rw [if_neg (by omega), if_neg (by omega)]
  exact this
theorem q_ne2 {S0 : List (Nat × Int)} (h : ¬ (S0.length : Int) ≤ 0) : ∃ x y S, S0 = (x, y) :: S := by
  cases S0 with
  | nil => simp at h
  | cons a S => exact ⟨a.1, a.2, S, rfl⟩
theorem q_em2 {S0 : List (Nat × Int)} (h : (S0.length : Int) ≤ 0) : S0 = [] := List.length_eq_zero_iff.mp (by omega)
theorem c_Mo_push_n (d : Nat) (M : g_M) (n : Nat) (x y : Int) (hS : M 45 22 = n) (hl : n < 200) : Con y_Mo_push w_Mo_push (g_rm (d)) LX M [g_r 45, g_i x, g_i y] LX (g_up (g_up (g_up M 62 n x) 63 n y) 45 22 ((n : Int) + 1)) none := by
  refine con_of (av := [g_r 45, g_i x, g_i y]) (ls0 := [some (g_r 45), some (g_i x), some (g_i y)]) (by decide) rfl (Nat.le_of_ble_eq_true rfl) (g_hls (av := [g_r 45, g_i x, g_i y]) (k := 0)) (fun _ h9 => List.mem_cons_of_mem _ h9) ?_
  refine ev_aload_n (i := 0) d_Mo_push_0 rfl rfl rfl ?_
  refine ev_getR d_Mo_push_1 rfl lk_Mo_58 lx_45 rfl ?_
  refine ev_aload_n (i := 0) d_Mo_push_4 rfl rfl rfl ?_
  refine ev_getI (z := (n : Int)) d_Mo_push_5 rfl lk_Mo_141 lx_45 rfl (by simp [g_up, hS]) ?_
  refine ev_iload_n (i := 1) d_Mo_push_8 rfl rfl rfl ?_
  refine ev_iastore d_Mo_push_9 rfl lx_62 (by omega) (by omega) ?_
  rw [show Int.toNat (((n : Int))) = n by rfl]
  refine ev_aload_n (i := 0) d_Mo_push_10 rfl rfl rfl ?_
  refine ev_getR d_Mo_push_11 rfl lk_Mo_61 lx_45 rfl ?_
  refine ev_aload_n (i := 0) d_Mo_push_14 rfl rfl rfl ?_
  refine ev_getI (z := (n : Int)) d_Mo_push_15 rfl lk_Mo_141 lx_45 rfl (by simp [g_up, hS]) ?_
  refine ev_iload_n (i := 2) d_Mo_push_18 rfl rfl rfl ?_
  refine ev_iastore d_Mo_push_19 rfl lx_63 (by omega) (by omega) ?_
  rw [show Int.toNat (((n : Int))) = n by rfl]
  refine ev_aload_n (i := 0) d_Mo_push_20 rfl rfl rfl ?_
  refine ev_dup d_Mo_push_21 rfl rfl ?_
  refine ev_getI (z := (n : Int)) d_Mo_push_22 rfl lk_Mo_141 lx_45 rfl (by simp [g_up, hS]) ?_
  refine ev_iconst d_Mo_push_25 rfl ⟨by decide, by decide⟩ ?_
  refine ev_iadd (z := ((n : Int)) + 1) d_Mo_push_26 rfl (g_w_id (by unfold g_rg; omega)) ?_
  refine ev_putI d_Mo_push_27 rfl lk_Mo_141 fp_Mo_22 (Or.inl rfl) lx_45 rfl ?_
  exact ev_retV d_Mo_push_30 rfl
/-- two terms alike: the same heads all over -/
def q_al (M : g_M) : Nat → Nat → Nat → Bool
  | 0, _, _ => true
  | f + 1, x, y => decide (M 52 x = M 52 y) && (List.range (q_w M x).toNat).all (fun k => q_al M f (M 53 (3 * x + k)).toNat (M 53 (3 * y + k)).toNat)
