theorem s_dex_ne (M : g_M) {k a0 n : Nat} {t a b c : Int} {x : Nat} (h1 : x ≠ k) (h2 : x ≠ a0) (h3 : x ≠ a0 + 1) (h4 : x ≠ a0 + 2) : s_dec M k a0 n t a b c x = M x := by
  funext y
  unfold s_dec
  simp only [g_up, h1, false_and, if_false]
  by_cases ha : a = -1
  · simp [ha, g_up, h2, h3]
  · by_cases hb : b = -1
    · simp [ha, hb, g_up, h2, h3, h4]
    · by_cases hc : c = -1
      · simp [ha, hb, hc, g_up, h2, h3, h4]
      · simp [ha, hb, hc, g_up, h2, h3, h4]
theorem s_dec_k (M : g_M) {k a0 n : Nat} {t a b c : Int} (y : Nat) (h2 : k ≠ a0) (h3 : k ≠ a0 + 1) (h4 : k ≠ a0 + 2) : s_dec M k a0 n t a b c k y = if y = 4 then (n : Int) + 1 else M k y := by
  unfold s_dec
  by_cases ha : a = -1
  · simp [ha, g_up, h2, h3]
  · by_cases hb : b = -1
    · simp [ha, hb, g_up, h2, h3, h4]
    · by_cases hc : c = -1
      · simp [ha, hb, hc, g_up, h2, h3, h4]
      · simp [ha, hb, hc, g_up, h2, h3, h4]
theorem s_dec_0 (M : g_M) {k a0 n : Nat} {t a b c : Int} (y : Nat) (h2 : k ≠ a0) : s_dec M k a0 n t a b c a0 y = if y = n then t else M a0 y := by
  unfold s_dec
  by_cases ha : a = -1
  · simp [ha, g_up, h2.symm]
  · by_cases hb : b = -1
    · simp [ha, hb, g_up, h2.symm]
    · by_cases hc : c = -1
      · simp [ha, hb, hc, g_up, h2.symm]
      · simp [ha, hb, hc, g_up, h2.symm]
theorem s_dec_1 (M : g_M) {k a0 n : Nat} {t a b c : Int} (y : Nat) (h2 : k ≠ a0 + 1) : s_dec M k a0 n t a b c (a0 + 1) y = if y = n then s_w a b c else M (a0 + 1) y := by
  unfold s_dec
  by_cases ha : a = -1
  · simp [ha, g_up, h2.symm]
  · by_cases hb : b = -1
    · simp [ha, hb, g_up, h2.symm]
    · by_cases hc : c = -1
      · simp [ha, hb, hc, g_up, h2.symm]
      · simp [ha, hb, hc, g_up, h2.symm]
theorem s_dec_2 (M : g_M) {k a0 n : Nat} {t a b c : Int} (h2 : k ≠ a0 + 2) : (∀ i : Nat, (i : Int) < s_w a b c → s_dec M k a0 n t a b c (a0 + 2) (3 * n + i) = j_pk a b c i) ∧ ∀ c' i : Nat, c' ≠ n → i < 3 → s_dec M k a0 n t a b c (a0 + 2) (3 * c' + i) = M (a0 + 2) (3 * c' + i) := by
  unfold s_dec s_w
  by_cases ha : a = -1
  · rw [if_pos ha, if_pos ha]
    refine ⟨fun i hi => by omega, fun c' i hc hi => ?_⟩
    simp [g_up, h2.symm]
  · rw [if_neg ha, if_neg ha]
    by_cases hb : b = -1
    · rw [if_pos hb, if_pos hb]
      refine ⟨fun i hi => ?_, fun c' i hc hi => ?_⟩
      · have e : i = 0 := by omega
        subst e
        simp [g_up, h2.symm, j_pk]
      · simp only [g_up, h2.symm, false_and, if_false, true_and]
        rw [if_neg (by omega), if_neg (by omega), if_neg (by omega)]
    · rw [if_neg hb, if_neg hb]
      by_cases hc : c = -1
      · rw [if_pos hc, if_pos hc]
        refine ⟨fun i hi => ?_, fun c' i hc hi => ?_⟩
        · have e : i = 0 ∨ i = 1 := by omega
          rcases e with rfl | rfl
          · simp [g_up, h2.symm, j_pk]
          · simp [g_up, h2.symm, j_pk]
        · simp only [g_up, h2.symm, false_and, if_false, true_and]
          rw [if_neg (by omega), if_neg (by omega), if_neg (by omega), if_neg (by omega)]
      · rw [if_neg hc, if_neg hc]
        refine ⟨fun i hi => ?_, fun c' i hc hi => ?_⟩
        · have e : i = 0 ∨ i = 1 ∨ i = 2 := by omega
          rcases e with rfl | rfl | rfl
          · simp [g_up, h2.symm, j_pk]
          · simp [g_up, h2.symm, j_pk]
          · simp [g_up, h2.symm, j_pk]
        · simp only [g_up, h2.symm, false_and, if_false, true_and]
          rw [if_neg (by omega), if_neg (by omega), if_neg (by omega), if_neg (by omega), if_neg (by omega)]
theorem r_S_add {mo : Int} {ty wd pl ty' wd' pl' ty2 wd2 pl2 ty2' wd2' pl2' : Nat → Int} {n : Nat} {t a b c : Int} (h : r_S n mo ty wd pl ty' wd' pl') (hn : (n : Int) < mo) (hs : s_ok t a b c)
    (h1 : ∀ c, c ≠ n → ty2 c = ty c ∧ wd2 c = wd c ∧ ty2' c = ty' c ∧ wd2' c = wd' c) (h2 : ∀ c i, c ≠ n → i < 3 → pl2 (3 * c + i) = pl (3 * c + i) ∧ pl2' (3 * c + i) = pl' (3 * c + i))
    (h3 : ty2 n = t ∧ ty2' n = t ∧ wd2 n = s_w a b c ∧ wd2' n = (if a < 0 then 0 else if b < 0 then 1 else if c < 0 then 2 else 3)) (h4 : ∀ i : Nat, (i : Int) < s_w a b c → pl2 (3 * n + i) = j_pk a b c i ∧ pl2' (3 * n + i) = j_pk a b c i) : r_S ((n : Int) + 1) mo ty2 wd2 pl2 ty2' wd2' pl2' := by
  obtain ⟨k1, k2, k3⟩ := h
  refine ⟨by omega, by omega, fun x hx => ?_⟩
  by_cases hxn : x = n
  · subst hxn
    obtain ⟨e1, e2, e3, e4⟩ := h3
    have hsw : s_w a b c = (if a < 0 then 0 else if b < 0 then 1 else if c < 0 then 2 else 3) := by
      unfold s_ok at hs
      unfold s_w
      omega
    have hw0 : 0 ≤ s_w a b c ∧ s_w a b c ≤ 3 := by unfold s_w; omega
    refine ⟨by rw [e1, e2], by rw [e2]; exact hs.1, by rw [e3, e4, hsw], by rw [e4, ← hsw]; exact hw0, fun i hi => ?_⟩
    rw [e4, ← hsw] at hi
    obtain ⟨f1, f2⟩ := h4 i hi
    refine ⟨by rw [f1, f2], ?_⟩
    rw [f2]
    unfold s_ok at hs
    unfold s_w at hi
    unfold j_pk
    omega
  · obtain ⟨e1, e2, e3, e4⟩ := h1 x hxn
    obtain ⟨l1, l2, l3, l4, l5⟩ := k3 x (by omega)
    refine ⟨by rw [e1, e3]; exact l1, by rw [e3]; exact l2, by rw [e2, e4]; exact l3, by rw [e4]; exact l4, fun i hi => ?_⟩
    rw [e4] at hi
    obtain ⟨f1, f2⟩ := h2 x i hxn (by omega)
    rw [f1, f2]
    exact l5 i hi
theorem g_up_ne {M : g_M} {k i a : Nat} {z : Int} (h : a ≠ k) : g_up M k i z a = M a := by
  funext b
  simp [g_up, h]
/-- a constructor more -/
theorem r_P_C {M M2 : g_M} {n : Nat} {t a b c : Int} (h : r_P M) (hn : M 45 0 = n) (hl : n < 8) (hs : s_ok t a b c)
    (hot : ∀ x : Nat, x ≠ 0 → x ≠ 1 → x ≠ 2 → x ≠ 3 → x ≠ 4 → x ≠ 45 → x ≠ 46 → x ≠ 47 → x ≠ 48 → x ≠ 77 → M2 x = M x) (h45 : ∀ y : Nat, y ≠ 0 → y ≠ 17 → y ≠ 44 → M2 45 y = M 45 y) (h450 : M2 45 0 = (n : Int) + 1) (e1 : ∀ y : Nat, M2 1 y = if y = 4 then (n : Int) + 1 else M 1 y) (e2 : ∀ y : Nat, M2 2 y = if y = n then t else M 2 y) (e3 : ∀ y : Nat, M2 3 y = if y = n then s_w a b c else M 3 y)
    (e4 : (∀ i : Nat, (i : Int) < s_w a b c → M2 4 (3 * n + i) = j_pk a b c i) ∧ ∀ c' i : Nat, c' ≠ n → i < 3 → M2 4 (3 * c' + i) = M 4 (3 * c' + i)) (e46 : ∀ y : Nat, M2 46 y = if y = n then t else M 46 y) (e47 : ∀ y : Nat, M2 47 y = if y = n then (if a < 0 then 0 else if b < 0 then 1 else if c < 0 then 2 else 3) else M 47 y)
    (e48 : ∀ y : Nat, M2 48 y = if y = 3 * n + 2 then c else if y = 3 * n + 1 then b else if y = 3 * n then a else M 48 y) : r_P M2 := by
  obtain ⟨hC, hF, hT, hL⟩ := h
  obtain ⟨c1, c2, c3⟩ := hC
  have ho (x : Nat) (h1 : 5 ≤ x) (h2 : x < 45 ∨ 49 ≤ x ∧ x < 77) : M2 x = M x := hot x (by omega) (by omega) (by omega) (by omega) (by omega) (by omega) (by omega) (by omega) (by omega) (by omega)
  have hq : ∀ t : Nat, (t : Int) < M 45 8 → q_w M2 t = q_w M t := by
    intro t' ht'
    obtain ⟨t1, -⟩ := hT.2.2.1 t' ht'
    unfold q_w
    rw [ho 52 (by decide) (by decide), ho 50 (by decide) (by decide), e47]
    split
    · rfl
    · split
      · rw [if_neg (by omega)]
      · rfl
  have h8 : M2 45 8 = M 45 8 := h45 8 (by decide) (by decide) (by decide)
  have hple : p_le M M2 := by
    refine ⟨by rw [h8]; exact Int.le_refl _, fun t' ht' => ⟨?_, hq t' ht', fun k _ => ?_, ?_, ?_⟩⟩
    · rw [ho 52 (by decide) (by decide)]
    · rw [ho 53 (by decide) (by decide)]
    · rw [ho 54 (by decide) (by decide)]
    · rw [ho 55 (by decide) (by decide)]
  have hlc : p_lc M M2 := by
    intro t' ht'
    rw [ho 10 (by decide) (by decide), ho 11 (by decide) (by decide), ho 12 (by decide) (by decide), ho 13 (by decide) (by decide), ho 14 (by decide) (by decide), ho 15 (by decide) (by decide), ho 16 (by decide) (by decide), ho 17 (by decide) (by decide), ho 18 (by decide) (by decide)]
    exact ⟨rfl, rfl, rfl, fun _ _ => rfl, rfl, rfl, rfl, rfl, rfl⟩
  have h4 : M2 45 4 = M 45 4 := h45 4 (by decide) (by decide) (by decide)
  have h13 : M2 45 13 = M 45 13 := h45 13 (by decide) (by decide) (by decide)
  refine ⟨⟨by rw [e1, h450]; rfl, by rw [e1]; exact c2, ?_⟩, ?_, ⟨?_, ?_, fun t' ht' => ?_, fun t' ht' => ?_, fun t' => ?_⟩, ?_⟩
  · rw [h450]
    refine r_S_add (t := t) (a := a) (b := b) (c := c) (hn ▸ c3) (by omega) hs (fun x hx => ⟨by rw [e2, if_neg hx], by rw [e3, if_neg hx], by rw [e46, if_neg hx], by rw [e47, if_neg hx]⟩) (fun x i hx hi => ⟨e4.2 x i hx hi, by rw [e48, if_neg (by omega), if_neg (by omega), if_neg (by omega)]⟩) ⟨by rw [e2, if_pos rfl], by rw [e46, if_pos rfl], by rw [e3, if_pos rfl], by rw [e47, if_pos rfl]⟩ (fun i hi => ⟨e4.1 i hi, ?_⟩)
    have hi3 : i < 3 := by unfold s_w at hi; omega
    rw [e48]
    unfold j_pk
    omega
  · obtain ⟨f1, f2, f3⟩ := hF
    refine ⟨by rw [ho 5 (by decide) (by decide), h4]; exact f1, by rw [ho 5 (by decide) (by decide)]; exact f2, ?_⟩
    rw [h4, ho 6 (by decide) (by decide), ho 7 (by decide) (by decide), ho 8 (by decide) (by decide), ho 49 (by decide) (by decide), ho 50 (by decide) (by decide), ho 51 (by decide) (by decide)]
    exact f3
  · rw [ho 9 (by decide) (by decide), h8]; exact hT.1
  · refine ⟨by rw [h8]; exact hT.2.1.1, by rw [h8]; exact hT.2.1.2.1, fun t' ht' => ?_⟩
    rw [h8] at ht'
    rw [hq t' ht', q_kids_le hple ht', ho 52 (by decide) (by decide), ho 53 (by decide) (by decide), ho 55 (by decide) (by decide)]
    exact hT.2.1.2.2 t' ht'
  · rw [h8] at ht'
    exact r_t_le hT.2.1 hple hlc (by omega) (by omega) ht' (hT.2.2.1 t' ht')
  · rw [h8] at ht'
    rw [ho 12 (by decide) (by decide), ho 14 (by decide) (by decide), ho 16 (by decide) (by decide), ho 17 (by decide) (by decide), ho 18 (by decide) (by decide)]
    exact hT.2.2.2.1 t' ht'
  · rw [ho 17 (by decide) (by decide)]
    exact hT.2.2.2.2 t'
  · obtain ⟨l1, l2, l3, l4, l5⟩ := hL
    have h56 := ho 56 (by decide) (by decide)
    refine ⟨by rw [ho 19 (by decide) (by decide), h13]; exact l1, by rw [h13]; exact l2, by rw [h13]; exact l3, fun x hx => ?_, fun f hf => ?_⟩
    · rw [h13] at hx
      exact r_c_le hT.2.1 hple (fun f hf => ⟨by rw [ho 50 (by decide) (by decide)], (hF.2.2.2.2 f hf).2.2.2.1.2⟩) (by omega) (fun k h1 h2 => ho k (by omega) (by omega)) (l4 x hx)
    · rw [ho 24 (by decide) (by decide), ho 23 (by decide) (by decide), h13, s_cn_eq h56, h56]
      obtain ⟨m1, m2, m3⟩ := l5 f hf
      refine ⟨m1, m2, fun x hx hxf => ?_⟩
      rw [s_cn_eq h56]
      exact m3 x hx hxf
