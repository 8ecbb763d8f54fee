/-! one program, told twice: what holds between the calls -/
def r_S (n mo : Int) (ty wd pl ty' wd' pl' : Nat → Int) : Prop := 0 ≤ n ∧ n ≤ mo ∧ ∀ c : Nat, (c : Int) < n → ty c = ty' c ∧ (0 ≤ ty' c ∧ ty' c < 3) ∧ wd c = wd' c ∧ (0 ≤ wd' c ∧ wd' c ≤ 3) ∧ ∀ i : Nat, (i : Int) < wd' c → pl (3 * c + i) = pl' (3 * c + i) ∧ 0 ≤ pl' (3 * c + i) ∧ pl' (3 * c + i) < 3
def r_C (M : g_M) : Prop := M 1 4 = M 45 0 ∧ M 1 0 = 8 ∧ r_S (M 45 0) 8 (M 2) (M 3) (M 4) (M 46) (M 47) (M 48)
def r_F (M : g_M) : Prop := M 5 4 = M 45 4 ∧ M 5 0 = 6 ∧ r_S (M 45 4) 6 (M 6) (M 7) (M 8) (M 49) (M 50) (M 51)
/-- a term, told twice -/
def r_t (M : g_M) (t : Nat) : Prop :=
  ((M 52 t < 8 ∧ M 10 t = 0 ∧ M 11 t = M 52 t ∧ M 54 t = 0) ∨ (8 ≤ M 52 t ∧ M 52 t - 8 < M 45 0 ∧ M 52 t < 16 ∧ M 10 t = 1 ∧ M 11 t = M 52 t - 8 ∧ 1 ≤ M 54 t) ∨ (16 ≤ M 52 t ∧ M 52 t - 16 < M 45 4 ∧ M 10 t = 2 ∧ M 11 t = M 52 t - 16 ∧ 1 ≤ M 54 t)) ∧
  M 12 t = q_w M t ∧ (∀ k : Nat, (k : Int) < q_w M t → M 13 (3 * t + k) = M 53 (3 * t + k) ∧ M 54 (M 53 (3 * t + k)).toNat < M 54 t) ∧ M 14 t = M 54 t ∧ M 15 t = M 55 t ∧ M 54 t ≤ 6 ∧ r_v M t
def r_T (M : g_M) : Prop := M 9 9 = M 45 8 ∧ q_T M ∧ (∀ t : Nat, (t : Int) < M 45 8 → r_t M t) ∧ (∀ t : Nat, M 45 8 ≤ t → M 12 t = 0 ∧ M 14 t = 0 ∧ M 16 t = 0 ∧ M 17 t = 0 ∧ M 18 t = 0) ∧ ∀ t : Nat, M 17 t = 0 ∨ M 17 t = 1
/-- a clause, told twice -/
def r_c (M : g_M) (c : Nat) : Prop :=
  M 20 c = M 56 c ∧ 0 ≤ M 56 c ∧ M 56 c < M 45 4 ∧ M 22 c = M 58 c ∧ 0 ≤ M 58 c ∧ M 58 c < M 45 8 ∧
  (∀ i : Nat, (i : Int) < M 50 (M 56 c).toNat → M 21 (3 * c + i) = M 57 (3 * c + i) ∧ 0 ≤ M 57 (3 * c + i) ∧ M 57 (3 * c + i) < M 45 8 ∧ M 54 (M 57 (3 * c + i)).toNat ≤ 2 ∧ M 55 (M 57 (3 * c + i)).toNat ≤ 8 ∧ ∀ x ∈ q_pl M (M 57 (3 * c + i)).toNat, M 52 x < 16) ∧
  (v_p M (M 57 (3 * c)) (M 57 (3 * c + 1)) (M 57 (3 * c + 2)) (M 50 (M 56 c).toNat).toNat).Nodup ∧
  ∀ v ∈ v_l M (M 58 c).toNat, v ∈ v_p M (M 57 (3 * c)) (M 57 (3 * c + 1)) (M 57 (3 * c + 2)) (M 50 (M 56 c).toNat).toNat
def r_L (M : g_M) : Prop := M 19 7 = M 45 13 ∧ 0 ≤ M 45 13 ∧ M 45 13 ≤ 24 ∧ (∀ c : Nat, (c : Int) < M 45 13 → r_c M c) ∧
  ∀ f : Nat, f < 6 → M 24 f = s_cn M f (M 45 13).toNat ∧ M 24 f ≤ 6 ∧ ∀ c : Nat, (c : Int) < M 45 13 → M 56 c = f → M 23 (6 * f + (s_cn M f c).toNat) = c
def r_R (M : g_M) : Prop := M 34 11 = M 45 34 ∧ M 34 14 = M 45 42 ∧ M 45 42 ≤ 60 ∧ ∀ i : Nat, (i : Int) < M 45 42 → M 44 i = M 76 i
def r_V (X : g_M → Int → Int → Prop) (M : g_M) : Prop := M 0 9 = M 45 18 ∧ ((M 0 8 = 0 ∧ M 45 17 = 1) ∨ (M 0 8 ≠ 0 ∧ M 45 17 = 0)) ∧ (M 0 8 ≠ -1 → X M (M 0 8) (M 45 18))
def r_P (M : g_M) : Prop := r_C M ∧ r_F M ∧ r_T M ∧ r_L M
def r_I (X : g_M → Int → Int → Prop) (M : g_M) : Prop := r_P M ∧ r_V X M ∧ r_R M
/-! what stays when terms are added -/
def p_le (M M2 : g_M) : Prop := M 45 8 ≤ M2 45 8 ∧ ∀ t : Nat, (t : Int) < M 45 8 → M2 52 t = M 52 t ∧ q_w M2 t = q_w M t ∧ (∀ k : Nat, (k : Int) < q_w M t → M2 53 (3 * t + k) = M 53 (3 * t + k)) ∧ M2 54 t = M 54 t ∧ M2 55 t = M 55 t
theorem q_kids_le {M M2 : g_M} (h : p_le M M2) {t : Nat} (ht : (t : Int) < M 45 8) : q_kids M2 t = q_kids M t := by
  obtain ⟨-, h2, h3, -, -⟩ := h.2 t ht
  unfold q_kids q_ks
  rw [h2, List.drop_zero]
  refine List.map_congr_left fun i hi => ?_
  rw [List.mem_range] at hi
  rw [h3 i (by omega)]
theorem q_pre_le {M M2 : g_M} (hT : q_T M) (h : p_le M M2) : ∀ (f t : Nat), (t : Int) < M 45 8 → q_pre M2 f t = q_pre M f t := by
  intro f
  induction f with
  | zero => intro t _; rfl
  | succ f ih =>
    intro t ht
    rw [q_pre, q_pre, q_kids_le h ht]
    congr 1
    rw [List.flatMap_def, List.flatMap_def]
    congr 1
    refine List.map_congr_left fun y hy => ?_
    have := q_kid_lt hT ht y hy
    exact ih y (by omega)
theorem q_pl_le {M M2 : g_M} (hT : q_T M) (h : p_le M M2) {t : Nat} (ht : (t : Int) < M 45 8) : q_pl M2 t = q_pl M t := q_pre_le hT h t t ht
theorem v_l_le {M M2 : g_M} (hT : q_T M) (h : p_le M M2) {t : Nat} (ht : (t : Int) < M 45 8) : v_l M2 t = v_l M t := by
  unfold v_l v_h
  rw [q_pl_le hT h ht]
  have e : ∀ x ∈ q_pl M t, M2 52 x = M 52 x := fun x hx => (h.2 x (by have := q_pl_in hT t ht x hx; omega)).1
  rw [List.filter_congr (q := fun x => decide (M 52 x < 8)) (fun x hx => by rw [e x hx])]
  refine List.map_congr_left fun x hx => ?_
  rw [e x (List.mem_filter.mp hx).1]
theorem v_p_le {M M2 : g_M} (hT : q_T M) (h : p_le M M2) {p q r : Int} : ∀ k : Nat, (∀ i : Nat, i < k → 0 ≤ j_pk p q r i ∧ j_pk p q r i < M 45 8) → v_p M2 p q r k = v_p M p q r k
  | 0, _ => rfl
  | k + 1, hk => by
    have := hk k (by omega)
    rw [v_p, v_p, v_p_le hT h k (fun i hi => hk i (by omega)), v_l_le hT h (by omega)]
/-- the class's cells of the terms that were there -/
def p_lc (M M2 : g_M) : Prop := ∀ t : Nat, (t : Int) < M 45 8 → M2 10 t = M 10 t ∧ M2 11 t = M 11 t ∧ M2 12 t = M 12 t ∧ (∀ k : Nat, k < 3 → M2 13 (3 * t + k) = M 13 (3 * t + k)) ∧ M2 14 t = M 14 t ∧ M2 15 t = M 15 t ∧ M2 16 t = M 16 t ∧ M2 17 t = M 17 t ∧ M2 18 t = M 18 t
theorem r_t_le {M M2 : g_M} (hT : q_T M) (h : p_le M M2) (hc : p_lc M M2) (h0 : M 45 0 ≤ M2 45 0) (h4 : M 45 4 ≤ M2 45 4) {t : Nat} (ht : (t : Int) < M 45 8) (hr : r_t M t) : r_t M2 t := by
  obtain ⟨a1, a2, a3, a4, a5⟩ := h.2 t ht
  obtain ⟨b1, b2, b3, b4, b5, b6, b7, b8, b9⟩ := hc t ht
  obtain ⟨c1, c2, c3, c4, c5, c6, c7, c8, c9⟩ := hr
  obtain ⟨-, -, q3, q4, q5, -, -⟩ := hT.2.2 t ht
  refine ⟨?_, by rw [b3, a2]; exact c2, fun k hk => ?_, by rw [b5, a4]; exact c4, by rw [b6, a5]; exact c5, by rw [a4]; exact c6, ?_, ?_, ?_⟩
  · rw [a1, a4, b1, b2]
    rcases c1 with h9 | h9 | h9
    · exact Or.inl h9
    · exact Or.inr (Or.inl ⟨h9.1, Int.lt_of_lt_of_le h9.2.1 h0, h9.2.2⟩)
    · exact Or.inr (Or.inr ⟨h9.1, Int.lt_of_lt_of_le h9.2.1 h4, h9.2.2⟩)
  · rw [a2] at hk
    have := q5 k hk
    rw [b4 k (by omega), a3 k hk, a4, (h.2 _ (by omega)).2.2.2.1]
    exact c3 k hk
  · rw [b7, v_l_le hT h ht]; exact c7
  · rw [b8, q_pl_le hT h ht, c8]
    have e : ∀ x ∈ q_pl M t, M2 52 x = M 52 x := fun x hx => (h.2 x (by have := q_pl_in hT t ht x hx; omega)).1
    exact ⟨fun h9 x hx => by rw [e x hx]; exact h9 x hx, fun h9 x hx => by rw [← e x hx]; exact h9 x hx⟩
  · rw [b9, v_l_le hT h ht]; exact c9
theorem j_pk_57 (M : g_M) (c i : Nat) (hi : i < 3) : j_pk (M 57 (3 * c)) (M 57 (3 * c + 1)) (M 57 (3 * c + 2)) i = M 57 (3 * c + i) := by
  match i with
  | 0 => rfl
  | 1 => rfl
  | 2 => rfl
  | i + 3 => omega
/-- clauses, when terms are added -/
theorem r_c_le {M M2 : g_M} (hT : q_T M) (h : p_le M M2) (hF : ∀ f : Nat, (f : Int) < M 45 4 → M2 50 f = M 50 f ∧ M 50 f ≤ 3) (h4 : M 45 4 ≤ M2 45 4) (hc : ∀ k : Nat, 20 ≤ k → k < 23 ∨ (56 ≤ k ∧ k < 59) → M2 k = M k) {c : Nat} (hr : r_c M c) : r_c M2 c := by
  obtain ⟨c1, c2, c3, c4, c5, c6, c7, c8, c9⟩ := hr
  have e56 := hc 56 (by omega) (by omega)
  have e57 := hc 57 (by omega) (by omega)
  have e58 := hc 58 (by omega) (by omega)
  have e20 := hc 20 (by omega) (by omega)
  have e21 := hc 21 (by omega) (by omega)
  have e22 := hc 22 (by omega) (by omega)
  obtain ⟨f1, f2⟩ := hF (M 56 c).toNat (by omega)
  have hin : ∀ i : Nat, i < (M 50 (M 56 c).toNat).toNat → 0 ≤ j_pk (M 57 (3 * c)) (M 57 (3 * c + 1)) (M 57 (3 * c + 2)) i ∧ j_pk (M 57 (3 * c)) (M 57 (3 * c + 1)) (M 57 (3 * c + 2)) i < M 45 8 := fun i hi => by
    have := c7 i (by omega)
    rw [j_pk_57 M c i (by omega)]
    exact ⟨this.2.1, this.2.2.1⟩
  have h1 := h.1
  unfold r_c
  rw [e56, e57, e58, e20, e21, e22, f1, v_p_le hT h _ hin, v_l_le hT h (by omega)]
  refine ⟨c1, c2, by omega, c4, c5, by omega, fun i hi => ?_, c8, c9⟩
  obtain ⟨d1, d2, d3, d4, d5, d6⟩ := c7 i hi
  have hp : (((M 57 (3 * c + i)).toNat : Nat) : Int) < M 45 8 := by omega
  rw [(h.2 _ hp).2.2.2.1, (h.2 _ hp).2.2.2.2, q_pl_le hT h hp]
  refine ⟨d1, d2, by omega, d4, d5, fun x hx => ?_⟩
  rw [(h.2 x (by have := q_pl_in hT _ hp x hx; omega)).1]
  exact d6 x hx
