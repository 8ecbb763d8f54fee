/-- what is known of a new term -/
def r_n (M M2 : g_M) (n : Nat) : Prop := 0 ≤ M2 52 n ∧ M2 52 n < 22 ∧ 0 ≤ q_w M2 n ∧ q_w M2 n ≤ 3 ∧ (∀ k : Nat, (k : Int) < q_w M2 n → 0 ≤ M2 53 (3 * n + k) ∧ M2 53 (3 * n + k) < n) ∧ M2 55 n ≤ 40 ∧ M2 55 n = 1 + ((q_kids M2 n).map (M 55)).sum
/-- a term more -/
theorem r_P_T {M M2 : g_M} {n : Nat} (h : r_P M) (hn : M 45 8 = n) (hl : n < 100)
    (ho : ∀ x : Nat, x < 9 ∨ 19 ≤ x ∧ x < 45 ∨ 46 ≤ x ∧ x < 52 ∨ 56 ≤ x ∧ x < 77 → M2 x = M x) (h45 : ∀ y : Nat, y ≠ 8 → y ≠ 44 → M2 45 y = M 45 y) (h458 : M2 45 8 = (n : Int) + 1) (h9 : M2 9 9 = (n : Int) + 1)
    (hk : ∀ x t : Nat, 10 ≤ x → x ≤ 18 → x ≠ 13 → t ≠ n → M2 x t = M x t) (hm : ∀ x t : Nat, 52 ≤ x → x < 56 → x ≠ 53 → t ≠ n → M2 x t = M x t) (hp : ∀ t k : Nat, t < n → k < 3 → M2 13 (3 * t + k) = M 13 (3 * t + k) ∧ M2 53 (3 * t + k) = M 53 (3 * t + k))
    (hnew : r_n M M2 n) (hrn : p_le M M2 → q_T M2 → r_t M2 n) (h17 : M2 17 n = 0 ∨ M2 17 n = 1) : r_P M2 ∧ p_le M M2 := by
  obtain ⟨hC, hF, hT, hL⟩ := h
  have hq : ∀ t : Nat, (t : Int) < M 45 8 → q_w M2 t = q_w M t := by
    intro t' ht'
    unfold q_w
    rw [hm 52 t' (by decide) (by decide) (by decide) (by omega), ho 47 (by decide), ho 50 (by decide)]
  have hple : p_le M M2 := by
    refine ⟨by omega, fun t' ht' => ⟨hm 52 t' (by decide) (by decide) (by decide) (by omega), hq t' ht', fun k hk => ?_, hm 54 t' (by decide) (by decide) (by decide) (by omega), hm 55 t' (by decide) (by decide) (by decide) (by omega)⟩⟩
    have := (hT.2.1.2.2 t' ht').2.2.2.1
    exact (hp t' k (by omega) (by omega)).2
  have hlc : p_lc M M2 := by
    intro t' ht'
    exact ⟨hk 10 t' (by decide) (by decide) (by decide) (by omega), hk 11 t' (by decide) (by decide) (by decide) (by omega), hk 12 t' (by decide) (by decide) (by decide) (by omega), fun k hk => (hp t' k (by omega) hk).1, hk 14 t' (by decide) (by decide) (by decide) (by omega), hk 15 t' (by decide) (by decide) (by decide) (by omega), hk 16 t' (by decide) (by decide) (by decide) (by omega), hk 17 t' (by decide) (by decide) (by decide) (by omega), hk 18 t' (by decide) (by decide) (by decide) (by omega)⟩
  have h0 : M2 45 0 = M 45 0 := h45 0 (by decide) (by decide)
  have h4 : M2 45 4 = M 45 4 := h45 4 (by decide) (by decide)
  have h13 : M2 45 13 = M 45 13 := h45 13 (by decide) (by decide)
  have hT2 : q_T M2 := by
    refine ⟨by omega, by omega, fun t' ht' => ?_⟩
    by_cases htn : t' = n
    · subst htn
      obtain ⟨n1, n2, n3, n4, n5, n6, n7⟩ := hnew
      refine ⟨n1, n2, n3, n4, n5, n6, ?_⟩
      rw [n7]
      congr 2
      refine List.map_congr_left fun y hy => ?_
      unfold q_kids q_ks at hy
      rw [List.drop_zero, List.mem_map] at hy
      obtain ⟨i, hi, rfl⟩ := hy
      rw [List.mem_range] at hi
      have := n5 i (by omega)
      exact (hm 55 _ (by decide) (by decide) (by decide) (by omega)).symm
    · have ht : (t' : Int) < M 45 8 := by omega
      obtain ⟨n1, n2, n3, n4, n5, n6, n7⟩ := hT.2.1.2.2 t' ht
      obtain ⟨a1, a2, a3, a4, a5⟩ := hple.2 t' ht
      rw [a1, a2, a5, q_kids_le hple ht]
      refine ⟨n1, n2, n3, n4, fun k hk => by rw [a3 k hk]; exact n5 k hk, n6, ?_⟩
      rw [n7]
      congr 2
      refine List.map_congr_left fun y hy => ?_
      have := q_kid_lt hT.2.1 ht y hy
      exact (hm 55 y (by decide) (by decide) (by decide) (by omega)).symm
  refine ⟨⟨?_, ?_, ⟨by rw [h9, h458], hT2, fun t' ht' => ?_, fun t' ht' => ?_, fun t' => ?_⟩, ?_⟩, hple⟩
  · obtain ⟨f1, f2, f3⟩ := hC
    refine ⟨by rw [ho 1 (by decide), h0]; exact f1, by rw [ho 1 (by decide)]; exact f2, ?_⟩
    rw [h0, ho 2 (by decide), ho 3 (by decide), ho 4 (by decide), ho 46 (by decide), ho 47 (by decide), ho 48 (by decide)]
    exact f3
  · obtain ⟨f1, f2, f3⟩ := hF
    refine ⟨by rw [ho 5 (by decide), h4]; exact f1, by rw [ho 5 (by decide)]; exact f2, ?_⟩
    rw [h4, ho 6 (by decide), ho 7 (by decide), ho 8 (by decide), ho 49 (by decide), ho 50 (by decide), ho 51 (by decide)]
    exact f3
  · by_cases htn : t' = n
    · subst htn
      exact hrn hple hT2
    · exact r_t_le hT.2.1 hple hlc (by omega) (by omega) (by omega) (hT.2.2.1 t' (by omega))
  · have hne : t' ≠ n := by omega
    rw [hk 12 t' (by decide) (by decide) (by decide) hne, hk 14 t' (by decide) (by decide) (by decide) hne, hk 16 t' (by decide) (by decide) (by decide) hne, hk 17 t' (by decide) (by decide) (by decide) hne, hk 18 t' (by decide) (by decide) (by decide) hne]
    exact hT.2.2.2.1 t' (by omega)
  · by_cases htn : t' = n
    · subst htn
      exact h17
    · rw [hk 17 t' (by decide) (by decide) (by decide) htn]
      exact hT.2.2.2.2 t'
  · obtain ⟨l1, l2, l3, l4, l5⟩ := hL
    have h56 := ho 56 (by decide)
    refine ⟨by rw [ho 19 (by decide), h13]; exact l1, by rw [h13]; exact l2, by rw [h13]; exact l3, fun x hx => ?_, fun f hf => ?_⟩
    · rw [h13] at hx
      exact r_c_le hT.2.1 hple (fun f hf => ⟨by rw [ho 50 (by decide)], (hF.2.2.2.2 f hf).2.2.2.1.2⟩) (by omega) (fun k h1 h2 => ho k (by omega)) (l4 x hx)
    · rw [ho 24 (by decide), ho 23 (by decide), h13, s_cn_eq h56, h56]
      obtain ⟨m1, m2, m3⟩ := l5 f hf
      refine ⟨m1, m2, fun x hx hxf => ?_⟩
      rw [s_cn_eq h56]
      exact m3 x hx hxf
/-! parts of a new term -/
theorem v_p_8 {M : g_M} (hT : q_T M) {x y z : Int} : ∀ k : Nat, (∀ i : Nat, i < k → 0 ≤ j_pk x y z i ∧ j_pk x y z i < M 45 8) → ∀ v ∈ v_p M x y z k, v < 8
  | 0, _, v, hv => by simp [v_p] at hv
  | k + 1, hk, v, hv => by
    rw [v_p] at hv
    rcases List.mem_append.mp hv with h | h
    · exact v_p_8 hT k (fun i hi => hk i (by omega)) v h
    · have := hk k (by omega)
      exact v_l_8 hT (by omega) v h
theorem j_v_p {M : g_M} (hT : q_T M) (hv : ∀ t : Nat, (t : Int) < M 45 8 → r_v M t) {x y z : Int} : ∀ k : Nat, (∀ i : Nat, i < k → 0 ≤ j_pk x y z i ∧ j_pk x y z i < M 45 8) → j_v (M 16) x y z k = ((v_m (v_p M x y z k) : Nat) : Int)
  | 0, _ => rfl
  | k + 1, hk => by
    have h1 := hk k (by omega)
    have h2 : (((j_pk x y z k).toNat : Nat) : Int) < M 45 8 := by omega
    have b1 := v_m_lt (v_p_8 hT k (fun i hi => hk i (by omega)))
    have b2 := v_m_lt (v_l_8 hT h2)
    rw [j_v, j_v_p hT hv k (fun i hi => hk i (by omega)), (hv _ h2).1, g_b_or (by omega) (by omega), v_p, v_m_app]
theorem j_c_p {M : g_M} (hv : ∀ t : Nat, (t : Int) < M 45 8 → r_v M t) {c0 x y z : Int} : ∀ k : Nat, (∀ i : Nat, i < k → 0 ≤ j_pk x y z i ∧ j_pk x y z i < M 45 8) → (j_c (M 17) c0 x y z k = 0 ↔ c0 = 0 ∧ ∀ i : Nat, i < k → ∀ u ∈ q_pl M (j_pk x y z i).toNat, M 52 u < 16)
  | 0, _ => by rw [j_c]; exact ⟨fun h => ⟨h, fun i hi => by omega⟩, fun h => h.1⟩
  | k + 1, hk => by
    have h1 := hk k (by omega)
    have h2 : (((j_pk x y z k).toNat : Nat) : Int) < M 45 8 := by omega
    have ih := j_c_p hv (c0 := c0) k (fun i hi => hk i (by omega))
    have e := (hv _ h2).2.1
    rw [j_c]
    constructor
    · intro h
      have h3 : j_c (M 17) c0 x y z k = 0 ∧ M 17 (j_pk x y z k).toNat = 0 := by
        refine Decidable.byContradiction fun h9 => ?_
        rw [if_neg h9] at h
        exact absurd h (by decide)
      refine ⟨(ih.mp h3.1).1, fun i hi => ?_⟩
      by_cases hik : i = k
      · subst hik
        exact e.mp h3.2
      · exact (ih.mp h3.1).2 i (by omega)
    · intro h
      rw [if_pos ⟨ih.mpr ⟨h.1, fun i hi => h.2 i (by omega)⟩, e.mpr (h.2 k (by omega))⟩]
theorem j_d_p {M : g_M} (hT : q_T M) (hv : ∀ t : Nat, (t : Int) < M 45 8 → r_v M t) {x y z : Int} : ∀ k : Nat, (∀ i : Nat, i < k → 0 ≤ j_pk x y z i ∧ j_pk x y z i < M 45 8) → (j_d (M 18) (M 16) x y z k = 0 ↔ (v_p M x y z k).Nodup)
  | 0, _ => by rw [j_d, v_p]; exact ⟨fun _ => List.nodup_nil, fun _ => rfl⟩
  | k + 1, hk => by
    have h1 := hk k (by omega)
    have h2 : (((j_pk x y z k).toNat : Nat) : Int) < M 45 8 := by omega
    have hk' : ∀ i : Nat, i < k → 0 ≤ j_pk x y z i ∧ j_pk x y z i < M 45 8 := fun i hi => hk i (by omega)
    have ih := j_d_p hT hv k hk'
    obtain ⟨e1, -, e3⟩ := hv _ h2
    have b1 := v_m_lt (v_p_8 hT k hk')
    have b2 := v_m_lt (v_l_8 hT h2)
    have e : g_b (fun a b => a &&& b) (j_v (M 16) x y z k) (M 16 (j_pk x y z k).toNat) = 0 ↔ ∀ u ∈ v_p M x y z k, u ∉ v_l M (j_pk x y z k).toNat := by
      rw [j_v_p hT hv k hk', e1, g_b_and (by omega) (by omega), ← v_m_dis]
      omega
    rw [j_d, v_p, List.nodup_append]
    constructor
    · intro h
      have h3 : j_d (M 18) (M 16) x y z k = 0 ∧ M 18 (j_pk x y z k).toNat = 0 ∧ g_b (fun a b => a &&& b) (j_v (M 16) x y z k) (M 16 (j_pk x y z k).toNat) = 0 := by
        refine Decidable.byContradiction fun h9 => ?_
        rw [if_neg h9] at h
        exact absurd h (by decide)
      exact ⟨ih.mp h3.1, e3.mp h3.2.1, fun a ha b hb hab => e.mp h3.2.2 a ha (hab ▸ hb)⟩
    · intro h
      rw [if_pos ⟨ih.mpr h.1, e3.mpr h.2.1, e.mpr (fun u hu hu2 => h.2.2 u hu u hu2 rfl)⟩]
theorem v_p_fl {M : g_M} {x y z : Int} : ∀ k : Nat, v_p M x y z k = ((List.range k).map (fun i => (j_pk x y z i).toNat)).flatMap (v_l M)
  | 0 => rfl
  | k + 1 => by
    rw [v_p, v_p_fl k, List.range_succ, List.map_append, List.flatMap_append, List.map_cons, List.map_nil, List.flatMap_cons, List.flatMap_nil, List.append_nil]
theorem j_s_sum {s : Nat → Int} {x y z : Int} : ∀ k : Nat, j_s s x y z k = 1 + (((List.range k).map (fun i => (j_pk x y z i).toNat)).map s).sum
  | 0 => rfl
  | k + 1 => by
    rw [j_s, j_s_sum k, List.range_succ, List.map_append, List.map_append, List.sum_append]
    simp only [List.map_cons, List.map_nil, List.sum_cons, List.sum_nil]
    omega
theorem j_h_ge {h : Nat → Int} {x y z : Int} : ∀ k i : Nat, i < k → h (j_pk x y z i).toNat ≤ j_h h x y z k
  | 0, i, hi => by omega
  | k + 1, i, hi => by
    rw [j_h]
    by_cases hik : i = k
    · subst hik
      split <;> omega
    · have := j_h_ge (h := h) (x := x) (y := y) (z := z) k i (by omega)
      split <;> omega
