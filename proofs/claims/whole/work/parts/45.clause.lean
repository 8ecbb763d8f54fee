theorem s_cn_cg {M M2 : g_M} {f : Int} : ∀ k : Nat, (∀ i : Nat, i < k → M2 56 i = M 56 i) → s_cn M2 f k = s_cn M f k
  | 0, _ => rfl
  | k + 1, h => by rw [s_cn, s_cn, s_cn_cg k (fun i hi => h i (by omega)), h k (by omega)]
theorem s_cn_mono (M : g_M) (f : Int) (k : Nat) : ∀ j : Nat, s_cn M f k ≤ s_cn M f (k + j)
  | 0 => Int.le_refl _
  | j + 1 => by
    have := s_cn_mono M f k j
    show _ ≤ s_cn M f (k + j + 1)
    rw [s_cn]
    split <;> omega
theorem q_pats_in {M : g_M} {p q r : Int} : ∀ (k : Nat) (s : Nat → Int), q_pats M p q r k = some s → ∀ i : Nat, i < k → (0 ≤ j_pk p q r i ∧ j_pk p q r i < M 45 8) ∧ M 54 (j_pk p q r i).toNat ≤ 2 ∧ M 55 (j_pk p q r i).toNat ≤ 8 ∧ ∀ x ∈ q_pl M (j_pk p q r i).toNat, M 52 x < 16
  | 0, s, _, i, hi => by omega
  | k + 1, s, h, i, hi => by
    rw [q_pats] at h
    match h1 : q_pats M p q r k with
    | none => rw [h1] at h; exact absurd h (by simp)
    | some s1 =>
      rw [h1] at h
      simp only at h
      by_cases hik : i = k
      · subst hik
        by_cases hx : 0 ≤ j_pk p q r i ∧ j_pk p q r i < M 45 8
        · rw [if_pos hx] at h
          unfold q_pt at h
          by_cases hg : 2 < M 54 (j_pk p q r i).toNat ∨ 8 < M 55 (j_pk p q r i).toNat
          · rw [if_pos hg] at h; exact absurd h (by simp)
          · rw [if_neg hg, q_scan_eq] at h
            refine ⟨hx, by omega, by omega, ?_⟩
            refine Classical.byContradiction fun h9 => ?_
            rw [if_neg (fun h8 => h9 h8.1)] at h
            exact absurd h (by simp)
        · rw [if_neg hx] at h; exact absurd h (by simp)
      · exact q_pats_in k s1 h1 i (by omega)
/-- what makes a clause -/
theorem q_cls_in {M : g_M} (hT : r_T M) {p q r : Int} {w b : Nat} (hb : (b : Int) < M 45 8) (h : q_cls M w p q r b = true) :
    (∀ i : Nat, i < w → (0 ≤ j_pk p q r i ∧ j_pk p q r i < M 45 8) ∧ M 54 (j_pk p q r i).toNat ≤ 2 ∧ M 55 (j_pk p q r i).toNat ≤ 8 ∧ ∀ x ∈ q_pl M (j_pk p q r i).toNat, M 52 x < 16) ∧ (v_p M p q r w).Nodup ∧ ∀ v ∈ v_l M b, v ∈ v_p M p q r w := by
  unfold q_cls at h
  rcases w_b_q hT.2.1 hT.1 (fun t ht => ⟨(hT.2.2.1 t ht).2.2.2.2.2.2, (hT.2.2.1 t ht).2.2.2.1, (hT.2.2.1 t ht).2.2.2.2.1⟩) p q r w with ⟨-, h2⟩ | ⟨h1, h2, h3, s, h4, h5⟩
  · rw [h2] at h; exact absurd h (by simp)
  · rw [h4] at h
    simp only [List.all_eq_true, decide_eq_true_iff] at h
    refine ⟨q_pats_in w s h4, h2, fun v hv => ?_⟩
    have h8 := v_l_8 hT.2.1 hb v hv
    obtain ⟨x, hx, rfl⟩ := List.mem_map.mp hv
    have hx2 := List.mem_filter.mp hx
    have hx3 := hx2.2
    rw [decide_eq_true_iff] at hx3
    exact (h5 _ h8).mp ((h x hx2.1).resolve_left (by omega))
/-- a clause more -/
theorem r_P_L {M M2 : g_M} {m f b c w : Nat} {p q r : Int} (hP : r_P M) (hm : M 45 13 = m) (hl : m < 24) (hf : (f : Int) < M 45 4) (hw : M 50 f = w) (hb : (b : Int) < M 45 8) (hcl : q_cls M w p q r b = true) (hc : M 24 f = c) (hc6 : c < 6)
    (ho : ∀ x : Nat, 0 < x ∧ x < 19 ∨ 46 ≤ x ∧ x < 56 → M2 x = M x) (h45 : ∀ y : Nat, y ≠ 13 → y ≠ 17 → y ≠ 22 → y ≠ 44 → M2 45 y = M 45 y) (h4513 : M2 45 13 = (m : Int) + 1) (h19 : M2 19 7 = (m : Int) + 1)
    (k20 : ∀ y : Nat, M2 20 y = if y = m then (f : Int) else M 20 y) (k22 : ∀ y : Nat, M2 22 y = if y = m then (b : Int) else M 22 y) (k21 : ∀ y i : Nat, y < m → i < 3 → M2 21 (3 * y + i) = M 21 (3 * y + i)) (k21n : ∀ i : Nat, i < w → M2 21 (3 * m + i) = j_pk p q r i)
    (k23 : ∀ y : Nat, M2 23 y = if y = 6 * f + c then (m : Int) else M 23 y) (k24 : ∀ y : Nat, M2 24 y = if y = f then (c : Int) + 1 else M 24 y)
    (k56 : ∀ y : Nat, M2 56 y = if y = m then (f : Int) else M 56 y) (k58 : ∀ y : Nat, M2 58 y = if y = m then (b : Int) else M 58 y) (k57 : ∀ y : Nat, M2 57 y = if y = 3 * m + 2 then r else if y = 3 * m + 1 then q else if y = 3 * m then p else M 57 y) : r_P M2 := by
  obtain ⟨hC, hF, hT, hL⟩ := hP
  have h0 : M2 45 0 = M 45 0 := h45 0 (by decide) (by decide) (by decide) (by decide)
  have h4 : M2 45 4 = M 45 4 := h45 4 (by decide) (by decide) (by decide) (by decide)
  have h8 : M2 45 8 = M 45 8 := h45 8 (by decide) (by decide) (by decide) (by decide)
  have hf6 : f < 6 := by have := hF.2.2.2.1; omega
  have hw3 : w ≤ 3 := by have := (hF.2.2.2.2 f hf).2.2.2.1.2; omega
  have hq : ∀ t : Nat, q_w M2 t = q_w M t := by
    intro t'
    unfold q_w
    rw [ho 52 (by decide), ho 47 (by decide), ho 50 (by decide)]
  have hple : p_le M M2 := by
    refine ⟨by omega, fun t' ht' => ⟨?_, hq t', fun k _ => ?_, ?_, ?_⟩⟩
    · rw [ho 52 (by decide)]
    · rw [ho 53 (by decide)]
    · rw [ho 54 (by decide)]
    · rw [ho 55 (by decide)]
  have hlc : p_lc M M2 := by
    intro t' ht'
    rw [ho 10 (by decide), ho 11 (by decide), ho 12 (by decide), ho 13 (by decide), ho 14 (by decide), ho 15 (by decide), ho 16 (by decide), ho 17 (by decide), ho 18 (by decide)]
    exact ⟨rfl, rfl, rfl, fun _ _ => rfl, rfl, rfl, rfl, rfl, rfl⟩
  obtain ⟨l1, l2, l3, l4, l5⟩ := hL
  obtain ⟨i1, i2, i3⟩ := q_cls_in hT hb hcl
  refine ⟨?_, ?_, ⟨?_, ?_, fun t' ht' => ?_, fun t' ht' => ?_, fun t' => ?_⟩, by rw [h19, h4513], by omega, by omega, fun x hx => ?_, fun g hg => ?_⟩
  · obtain ⟨f1, f2, f3⟩ := hC
    refine ⟨by rw [ho 1 (by decide), h0]; exact f1, by rw [ho 1 (by decide)]; exact f2, ?_⟩
    rw [h0, ho 2 (by decide), ho 3 (by decide), ho 4 (by decide), ho 46 (by decide), ho 47 (by decide), ho 48 (by decide)]
    exact f3
  · obtain ⟨f1, f2, f3⟩ := hF
    refine ⟨by rw [ho 5 (by decide), h4]; exact f1, by rw [ho 5 (by decide)]; exact f2, ?_⟩
    rw [h4, ho 6 (by decide), ho 7 (by decide), ho 8 (by decide), ho 49 (by decide), ho 50 (by decide), ho 51 (by decide)]
    exact f3
  · rw [ho 9 (by decide), h8]; exact hT.1
  · refine ⟨by rw [h8]; exact hT.2.1.1, by rw [h8]; exact hT.2.1.2.1, fun t' ht' => ?_⟩
    rw [h8] at ht'
    rw [hq t', q_kids_le hple ht', ho 52 (by decide), ho 53 (by decide), ho 55 (by decide)]
    exact hT.2.1.2.2 t' ht'
  · rw [h8] at ht'
    exact r_t_le hT.2.1 hple hlc (by omega) (by omega) ht' (hT.2.2.1 t' ht')
  · rw [h8] at ht'
    rw [ho 12 (by decide), ho 14 (by decide), ho 16 (by decide), ho 17 (by decide), ho 18 (by decide)]
    exact hT.2.2.2.1 t' ht'
  · rw [ho 17 (by decide)]
    exact hT.2.2.2.2 t'
  · by_cases hxm : x = m
    · subst hxm
      have e56 : M2 56 x = (f : Int) := by rw [k56, if_pos rfl]
      have e58 : M2 58 x = (b : Int) := by rw [k58, if_pos rfl]
      have e57 : ∀ i : Nat, i < 3 → M2 57 (3 * x + i) = j_pk p q r i := fun i hi => by rw [k57]; unfold j_pk; omega
      have e570 : M2 57 (3 * x) = p := e57 0 (by decide)
      have e571 : M2 57 (3 * x + 1) = q := e57 1 (by decide)
      have e572 : M2 57 (3 * x + 2) = r := e57 2 (by decide)
      unfold r_c
      rw [e56, e58, e570, e571, e572, Int.toNat_natCast, Int.toNat_natCast, ho 50 (by decide), hw, Int.toNat_natCast, v_p_le hT.2.1 hple w (fun i hi => (i1 i hi).1), v_l_le hT.2.1 hple hb]
      refine ⟨by rw [k20, if_pos rfl], by omega, by omega, by rw [k22, if_pos rfl], by omega, by omega, fun i hi => ?_, i2, i3⟩
      have hi' : i < w := by omega
      obtain ⟨a1, a2, a3, a4⟩ := i1 i hi'
      have hp : (((j_pk p q r i).toNat : Nat) : Int) < M 45 8 := by omega
      rw [k21n i hi', e57 i (by omega), ho 54 (by decide), ho 55 (by decide), ho 52 (by decide), q_pl_le hT.2.1 hple hp, h8]
      exact ⟨rfl, a1.1, a1.2, a2, a3, a4⟩
    · have hx' : x < m := by omega
      obtain ⟨c1, c2, c3, c4, c5, c6, c7, c8, c9⟩ := l4 x (by omega)
      have e56 : M2 56 x = M 56 x := by rw [k56, if_neg hxm]
      have e58 : M2 58 x = M 58 x := by rw [k58, if_neg hxm]
      have e57 : ∀ i : Nat, i < 3 → M2 57 (3 * x + i) = M 57 (3 * x + i) := fun i hi => by rw [k57, if_neg (by omega), if_neg (by omega), if_neg (by omega)]
      have e570 : M2 57 (3 * x) = M 57 (3 * x) := e57 0 (by decide)
      have hwx := (hF.2.2.2.2 (M 56 x).toNat (by omega)).2.2.2.1.2
      have hin : ∀ i : Nat, i < (M 50 (M 56 x).toNat).toNat → 0 ≤ j_pk (M 57 (3 * x)) (M 57 (3 * x + 1)) (M 57 (3 * x + 2)) i ∧ j_pk (M 57 (3 * x)) (M 57 (3 * x + 1)) (M 57 (3 * x + 2)) i < M 45 8 := fun i hi => by
        have := c7 i (by omega)
        rw [j_pk_57 M x i (by omega)]
        exact ⟨this.2.1, this.2.2.1⟩
      unfold r_c
      rw [e56, e58, e570, e57 1 (by decide), e57 2 (by decide), ho 50 (by decide), v_p_le hT.2.1 hple _ hin, v_l_le hT.2.1 hple (by omega)]
      refine ⟨by rw [k20, if_neg hxm]; exact c1, c2, by omega, by rw [k22, if_neg hxm]; exact c4, c5, by omega, fun i hi => ?_, c8, c9⟩
      obtain ⟨d1, d2, d3, d4, d5, d6⟩ := c7 i hi
      have hp : (((M 57 (3 * x + i)).toNat : Nat) : Int) < M 45 8 := by omega
      rw [k21 x i hx' (by omega), e57 i (by omega), ho 54 (by decide), ho 55 (by decide), ho 52 (by decide), q_pl_le hT.2.1 hple hp, h8]
      exact ⟨d1, d2, d3, d4, d5, d6⟩
  · obtain ⟨m1, m2, m3⟩ := l5 g hg
    have hcn : ∀ k : Nat, k ≤ m → s_cn M2 (g : Int) k = s_cn M (g : Int) k := fun k hk => s_cn_cg k (fun i hi => by rw [k56, if_neg (by omega)])
    have hmt : (M2 45 13).toNat = m + 1 := by omega
    have hmt' : (M 45 13).toNat = m := by omega
    rw [hmt'] at m1
    rw [hmt, s_cn, hcn m (Nat.le_refl _), k56, if_pos rfl, k24]
    by_cases hgf : g = f
    · subst hgf
      rw [if_pos rfl, if_pos rfl]
      refine ⟨by omega, by omega, fun x hx hxf => ?_⟩
      by_cases hxm : x = m
      · subst hxm
        rw [hcn x (Nat.le_refl _), ← m1, hc, Int.toNat_natCast, k23, if_pos rfl]
      · rw [k56, if_neg hxm] at hxf
        have hlt : s_cn M (g : Int) x < c := by
          have h1 := s_cn_mono M (g : Int) (x + 1) (m - (x + 1))
          rw [show x + 1 + (m - (x + 1)) = m by omega, ← m1, hc, ← s_cn_p hxf] at h1
          omega
        have h0' := (s_cn_le M (g : Int) x).1
        rw [hcn x (by omega), k23, if_neg (by omega)]
        exact m3 x (by omega) hxf
    · rw [if_neg hgf, if_neg (by omega)]
      refine ⟨m1, m2, fun x hx hxf => ?_⟩
      have hxm : x ≠ m := by
        intro h9
        rw [k56, if_pos h9] at hxf
        omega
      rw [k56, if_neg hxm] at hxf
      have hlt : s_cn M (g : Int) x < 6 := by
        have h1 := s_cn_mono M (g : Int) (x + 1) (m - (x + 1))
        rw [show x + 1 + (m - (x + 1)) = m by omega, ← m1, ← s_cn_p hxf] at h1
        omega
      have h0' := (s_cn_le M (g : Int) x).1
      rw [hcn x (by omega), k23, if_neg (by omega)]
      exact m3 x (by omega) hxf
