/-- a function more -/
theorem r_P_F {M M2 : g_M} {n : Nat} {t a b c : Int} (h : r_P M) (hn : M 45 4 = n) (hl : n < 6) (hs : s_ok t a b c)
    (hot : ∀ x : Nat, x ≠ 0 → x ≠ 5 → x ≠ 6 → x ≠ 7 → x ≠ 8 → x ≠ 45 → x ≠ 49 → x ≠ 50 → x ≠ 51 → x ≠ 77 → M2 x = M x) (h45 : ∀ y : Nat, y ≠ 4 → y ≠ 17 → y ≠ 44 → M2 45 y = M 45 y) (h454 : M2 45 4 = (n : Int) + 1) (e1 : ∀ y : Nat, M2 5 y = if y = 4 then (n : Int) + 1 else M 5 y) (e2 : ∀ y : Nat, M2 6 y = if y = n then t else M 6 y) (e3 : ∀ y : Nat, M2 7 y = if y = n then s_w a b c else M 7 y)
    (e4 : (∀ i : Nat, (i : Int) < s_w a b c → M2 8 (3 * n + i) = j_pk a b c i) ∧ ∀ c' i : Nat, c' ≠ n → i < 3 → M2 8 (3 * c' + i) = M 8 (3 * c' + i)) (e46 : ∀ y : Nat, M2 49 y = if y = n then t else M 49 y) (e47 : ∀ y : Nat, M2 50 y = if y = n then (if a < 0 then 0 else if b < 0 then 1 else if c < 0 then 2 else 3) else M 50 y)
    (e48 : ∀ y : Nat, M2 51 y = if y = 3 * n + 2 then c else if y = 3 * n + 1 then b else if y = 3 * n then a else M 51 y) : r_P M2 := by
  obtain ⟨hC, hF, hT, hL⟩ := h
  obtain ⟨c1, c2, c3⟩ := hF
  have ho (x : Nat) (h1 : 0 < x ∧ x < 5 ∨ 9 ≤ x) (h2 : x < 45 ∨ 46 ≤ x ∧ x < 49 ∨ 52 ≤ x ∧ x < 77) : M2 x = M x := hot x (by omega) (by omega) (by omega) (by omega) (by omega) (by omega) (by omega) (by omega) (by omega) (by omega)
  have hq : ∀ t : Nat, (t : Int) < M 45 8 → q_w M2 t = q_w M t := by
    intro t' ht'
    obtain ⟨t1, -⟩ := hT.2.2.1 t' ht'
    unfold q_w
    rw [ho 52 (by decide) (by decide), ho 47 (by decide) (by decide), e47]
    split
    · rfl
    · split
      · rfl
      · rw [if_neg (by omega)]
  have h8 : M2 45 8 = M 45 8 := h45 8 (by decide) (by decide) (by decide)
  have hple : p_le M M2 := by
    refine ⟨by rw [h8]; exact Int.le_refl _, fun t' ht' => ⟨?_, hq t' ht', fun k _ => ?_, ?_, ?_⟩⟩
    · rw [ho 52 (by decide) (by decide)]
    · rw [ho 53 (by decide) (by decide)]
    · rw [ho 54 (by decide) (by decide)]
    · rw [ho 55 (by decide) (by decide)]
  have hlc : p_lc M M2 := by
    intro t' ht'
    rw [ho 10 (by decide) (by decide), ho 11 (by decide) (by decide), ho 12 (by decide) (by decide), ho 13 (by decide) (by decide), ho 14 (by decide) (by decide), ho 15 (by decide) (by decide), ho 16 (by decide) (by decide), ho 17 (by decide) (by decide), ho 18 (by decide) (by decide)]
    exact ⟨rfl, rfl, rfl, fun _ _ => rfl, rfl, rfl, rfl, rfl, rfl⟩
  have h0 : M2 45 0 = M 45 0 := h45 0 (by decide) (by decide) (by decide)
  have h13 : M2 45 13 = M 45 13 := h45 13 (by decide) (by decide) (by decide)
  refine ⟨?_, ⟨by rw [e1, h454]; rfl, by rw [e1]; exact c2, ?_⟩, ⟨?_, ?_, fun t' ht' => ?_, fun t' ht' => ?_, fun t' => ?_⟩, ?_⟩
  · obtain ⟨f1, f2, f3⟩ := hC
    refine ⟨by rw [ho 1 (by decide) (by decide), h0]; exact f1, by rw [ho 1 (by decide) (by decide)]; exact f2, ?_⟩
    rw [h0, ho 2 (by decide) (by decide), ho 3 (by decide) (by decide), ho 4 (by decide) (by decide), ho 46 (by decide) (by decide), ho 47 (by decide) (by decide), ho 48 (by decide) (by decide)]
    exact f3
  · rw [h454]
    refine r_S_add (t := t) (a := a) (b := b) (c := c) (hn ▸ c3) (by omega) hs (fun x hx => ⟨by rw [e2, if_neg hx], by rw [e3, if_neg hx], by rw [e46, if_neg hx], by rw [e47, if_neg hx]⟩) (fun x i hx hi => ⟨e4.2 x i hx hi, by rw [e48, if_neg (by omega), if_neg (by omega), if_neg (by omega)]⟩) ⟨by rw [e2, if_pos rfl], by rw [e46, if_pos rfl], by rw [e3, if_pos rfl], by rw [e47, if_pos rfl]⟩ (fun i hi => ⟨e4.1 i hi, ?_⟩)
    have hi3 : i < 3 := by unfold s_w at hi; omega
    rw [e48]
    unfold j_pk
    omega
  · rw [ho 9 (by decide) (by decide), h8]; exact hT.1
  · refine ⟨by rw [h8]; exact hT.2.1.1, by rw [h8]; exact hT.2.1.2.1, fun t' ht' => ?_⟩
    rw [h8] at ht'
    rw [hq t' ht', q_kids_le hple ht', ho 52 (by decide) (by decide), ho 53 (by decide) (by decide), ho 55 (by decide) (by decide)]
    exact hT.2.1.2.2 t' ht'
  · rw [h8] at ht'
    exact r_t_le hT.2.1 hple hlc (by omega) (by omega) ht' (hT.2.2.1 t' ht')
  · rw [h8] at ht'
    rw [ho 12 (by decide) (by decide), ho 14 (by decide) (by decide), ho 16 (by decide) (by decide), ho 17 (by decide) (by decide), ho 18 (by decide) (by decide)]
    exact hT.2.2.2.1 t' ht'
  · rw [ho 17 (by decide) (by decide)]
    exact hT.2.2.2.2 t'
  · obtain ⟨l1, l2, l3, l4, l5⟩ := hL
    have h56 := ho 56 (by decide) (by decide)
    refine ⟨by rw [ho 19 (by decide) (by decide), h13]; exact l1, by rw [h13]; exact l2, by rw [h13]; exact l3, fun x hx => ?_, fun f hf => ?_⟩
    · rw [h13] at hx
      exact r_c_le hT.2.1 hple (fun f hf => ⟨by rw [e47, if_neg (by omega)], (c3.2.2 f hf).2.2.2.1.2⟩) (by omega) (fun k h1 h2 => ho k (by omega) (by omega)) (l4 x hx)
    · rw [ho 24 (by decide) (by decide), ho 23 (by decide) (by decide), h13, s_cn_eq h56, h56]
      obtain ⟨m1, m2, m3⟩ := l5 f hf
      refine ⟨m1, m2, fun x hx hxf => ?_⟩
      rw [s_cn_eq h56]
      exact m3 x hx hxf
