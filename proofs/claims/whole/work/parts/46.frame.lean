/-- what may change between calls without touching what is told twice -/
def r_fr (M M2 : g_M) : Prop := (∀ k : Nat, k < 25 ∨ k = 44 ∨ 46 ≤ k ∧ k < 59 ∨ k = 76 → M2 k = M k) ∧ M2 34 11 = M 34 11 ∧ M2 34 14 = M 34 14 ∧ ∀ y : Nat, y ≠ 22 → y ≠ 29 → y ≠ 33 → y ≠ 35 → y ≠ 38 → y ≠ 44 → M2 45 y = M 45 y
/-- more terms, all else the same -/
def p_ex (M M2 : g_M) : Prop := p_le M M2 ∧ M2 45 0 = M 45 0 ∧ M2 45 4 = M 45 4 ∧ M2 45 13 = M 45 13 ∧ ∀ k : Nat, 46 ≤ k ∧ k < 52 ∨ 56 ≤ k ∧ k < 59 → M2 k = M k
def r_X (X : g_M → Int → Int → Prop) : Prop := ∀ (M M2 : g_M) (v g : Int), r_P M → p_ex M M2 → X M v g → X M2 v g
theorem r_fr.rf (M : g_M) : r_fr M M := ⟨fun _ _ => rfl, rfl, rfl, fun _ _ _ _ _ _ _ => rfl⟩
theorem r_fr.tr {M M1 M2 : g_M} (h : r_fr M M1) (h2 : r_fr M1 M2) : r_fr M M2 :=
  ⟨fun k hk => (h2.1 k hk).trans (h.1 k hk), h2.2.1.trans h.2.1, h2.2.2.1.trans h.2.2.1, fun y a b c d e f => (h2.2.2.2 y a b c d e f).trans (h.2.2.2 y a b c d e f)⟩
theorem r_fr.ex {M M2 : g_M} (h : r_fr M M2) : p_ex M M2 := by
  obtain ⟨ho, -, -, h45⟩ := h
  have hq : ∀ t : Nat, q_w M2 t = q_w M t := by
    intro t'
    unfold q_w
    rw [ho 52 (by decide), ho 47 (by decide), ho 50 (by decide)]
  refine ⟨⟨by rw [h45 8 (by decide) (by decide) (by decide) (by decide) (by decide) (by decide)]; exact Int.le_refl _, fun t' ht' => ⟨?_, hq t', fun k _ => ?_, ?_, ?_⟩⟩, h45 0 (by decide) (by decide) (by decide) (by decide) (by decide) (by decide), h45 4 (by decide) (by decide) (by decide) (by decide) (by decide) (by decide), h45 13 (by decide) (by decide) (by decide) (by decide) (by decide) (by decide), fun k hk => ho k (by omega)⟩
  · rw [ho 52 (by decide)]
  · rw [ho 53 (by decide)]
  · rw [ho 54 (by decide)]
  · rw [ho 55 (by decide)]
theorem r_P_fr {M M2 : g_M} (hP : r_P M) (h : r_fr M M2) : r_P M2 := by
  have hple := h.ex.1
  obtain ⟨ho, -, -, h45⟩ := h
  obtain ⟨hC, hF, hT, hL⟩ := hP
  have h0 : M2 45 0 = M 45 0 := h45 0 (by decide) (by decide) (by decide) (by decide) (by decide) (by decide)
  have h4 : M2 45 4 = M 45 4 := h45 4 (by decide) (by decide) (by decide) (by decide) (by decide) (by decide)
  have h8 : M2 45 8 = M 45 8 := h45 8 (by decide) (by decide) (by decide) (by decide) (by decide) (by decide)
  have h13 : M2 45 13 = M 45 13 := h45 13 (by decide) (by decide) (by decide) (by decide) (by decide) (by decide)
  have hq : ∀ t : Nat, q_w M2 t = q_w M t := by
    intro t'
    unfold q_w
    rw [ho 52 (by decide), ho 47 (by decide), ho 50 (by decide)]
  have hlc : p_lc M M2 := by
    intro t' ht'
    rw [ho 10 (by decide), ho 11 (by decide), ho 12 (by decide), ho 13 (by decide), ho 14 (by decide), ho 15 (by decide), ho 16 (by decide), ho 17 (by decide), ho 18 (by decide)]
    exact ⟨rfl, rfl, rfl, fun _ _ => rfl, rfl, rfl, rfl, rfl, rfl⟩
  refine ⟨?_, ?_, ⟨?_, ?_, fun t' ht' => ?_, fun t' ht' => ?_, fun t' => ?_⟩, ?_⟩
  · obtain ⟨f1, f2, f3⟩ := hC
    refine ⟨by rw [ho 1 (by decide), h0]; exact f1, by rw [ho 1 (by decide)]; exact f2, ?_⟩
    rw [h0, ho 2 (by decide), ho 3 (by decide), ho 4 (by decide), ho 46 (by decide), ho 47 (by decide), ho 48 (by decide)]
    exact f3
  · obtain ⟨f1, f2, f3⟩ := hF
    refine ⟨by rw [ho 5 (by decide), h4]; exact f1, by rw [ho 5 (by decide)]; exact f2, ?_⟩
    rw [h4, ho 6 (by decide), ho 7 (by decide), ho 8 (by decide), ho 49 (by decide), ho 50 (by decide), ho 51 (by decide)]
    exact f3
  · rw [ho 9 (by decide), h8]; exact hT.1
  · refine ⟨by rw [h8]; exact hT.2.1.1, by rw [h8]; exact hT.2.1.2.1, fun t' ht' => ?_⟩
    rw [h8] at ht'
    rw [hq t', q_kids_le hple ht', ho 52 (by decide), ho 53 (by decide), ho 55 (by decide)]
    exact hT.2.1.2.2 t' ht'
  · rw [h8] at ht'
    exact r_t_le hT.2.1 hple hlc (by omega) (by omega) ht' (hT.2.2.1 t' ht')
  · rw [h8] at ht'
    rw [ho 12 (by decide), ho 14 (by decide), ho 16 (by decide), ho 17 (by decide), ho 18 (by decide)]
    exact hT.2.2.2.1 t' ht'
  · rw [ho 17 (by decide)]
    exact hT.2.2.2.2 t'
  · obtain ⟨l1, l2, l3, l4, l5⟩ := hL
    have h56 := ho 56 (by decide)
    refine ⟨by rw [ho 19 (by decide), h13]; exact l1, by rw [h13]; exact l2, by rw [h13]; exact l3, fun x hx => ?_, fun f hf => ?_⟩
    · rw [h13] at hx
      exact r_c_le hT.2.1 hple (fun f hf => ⟨by rw [ho 50 (by decide)], (hF.2.2.2.2 f hf).2.2.2.1.2⟩) (by omega) (fun k h1 h2 => ho k (by omega)) (l4 x hx)
    · rw [ho 24 (by decide), ho 23 (by decide), h13, s_cn_eq h56, h56]
      obtain ⟨m1, m2, m3⟩ := l5 f hf
      refine ⟨m1, m2, fun x hx hxf => ?_⟩
      rw [s_cn_eq h56]
      exact m3 x hx hxf
theorem r_V_ex {X : g_M → Int → Int → Prop} (hX : r_X X) {M M2 : g_M} (hP : r_P M) (hV : r_V X M) (h : p_ex M M2) (h0 : M2 0 = M 0) (h17 : M2 45 17 = M 45 17) (h18 : M2 45 18 = M 45 18) : r_V X M2 := by
  obtain ⟨a, b, c⟩ := hV
  refine ⟨by rw [h0, h18]; exact a, by rw [h0, h17]; exact b, fun h9 => ?_⟩
  rw [h0] at h9 ⊢
  rw [h18]
  exact hX M M2 _ _ hP h (c h9)
theorem r_R_cg {M M2 : g_M} (h : r_R M) (h1 : M2 34 11 = M 34 11) (h2 : M2 34 14 = M 34 14) (h3 : M2 45 34 = M 45 34) (h4 : M2 45 42 = M 45 42) (h5 : M2 44 = M 44) (h6 : M2 76 = M 76) : r_R M2 := by
  unfold r_R
  rw [h1, h2, h3, h4, h5, h6]
  exact h
theorem r_I_fr {X : g_M → Int → Int → Prop} (hX : r_X X) {M M2 : g_M} (hI : r_I X M) (h : r_fr M M2) : r_I X M2 :=
  ⟨r_P_fr hI.1 h, r_V_ex hX hI.1 hI.2.1 h.ex (h.1 0 (by decide)) (h.2.2.2 17 (by decide) (by decide) (by decide) (by decide) (by decide) (by decide)) (h.2.2.2 18 (by decide) (by decide) (by decide) (by decide) (by decide) (by decide)),
   r_R_cg hI.2.2 h.2.1 h.2.2.1 (h.2.2.2 34 (by decide) (by decide) (by decide) (by decide) (by decide) (by decide)) (h.2.2.2 42 (by decide) (by decide) (by decide) (by decide) (by decide) (by decide)) (h.1 44 (by decide)) (h.1 76 (by decide))⟩
theorem r_fr_44 (M : g_M) (z : Int) : r_fr M (g_up M 45 44 z) := by
  refine ⟨fun k hk => g_up_ne (by omega), rfl, rfl, fun y _ _ _ _ _ h6 => ?_⟩
  simp [g_up, h6]
theorem r_fr_77 (M : g_M) (i : Nat) (z : Int) : r_fr M (g_up M 77 i z) := by
  refine ⟨fun k hk => g_up_ne (by omega), rfl, rfl, fun y _ _ _ _ _ h6 => rfl⟩
theorem r_fr_75 (M : g_M) (i : Nat) (z : Int) : r_fr M (g_up M 75 i z) := by
  refine ⟨fun k hk => g_up_ne (by omega), rfl, rfl, fun y _ _ _ _ _ h6 => rfl⟩
theorem r_fr_e4 {M M2 : g_M} (h : q_e4 M M2) : r_fr M M2 := by
  refine ⟨fun k hk => by funext b; exact h k b (by omega) (by omega) (by omega) (by omega), h 34 11 (by decide) (by decide) (by decide) (by decide), h 34 14 (by decide) (by decide) (by decide) (by decide), fun y h1 _ _ _ _ _ => h 45 y (by decide) (by decide) (by decide) (by omega)⟩
/-- what the contracts ask of heights and sizes -/
theorem r_B {M : g_M} (h : r_P M) : j_B (M 45 8) (M 54) (M 55) ∧ j_B (M 9 9) (M 14) (M 15) := by
  have hT := h.2.2.1
  have hb : ∀ t : Nat, (t : Int) < M 45 8 → 0 ≤ M 54 t ∧ M 54 t ≤ 6 ∧ 1 ≤ M 55 t ∧ M 55 t ≤ 40 := by
    intro t ht
    obtain ⟨a1, a2, a3, a4, a5, a6, a7⟩ := hT.2.2.1 t ht
    obtain ⟨b1, b2, b3, b4, b5, b6, b7⟩ := hT.2.1.2.2 t ht
    have hlen := q_pl_len hT.2.1 t ht
    rw [q_pl_eq hT.2.1 ht, List.length_cons] at hlen
    refine ⟨?_, a6, by omega, b6⟩
    rcases a1 with h | h | h <;> omega
  refine ⟨⟨hT.2.1.2.1, hb⟩, by rw [hT.1]; exact hT.2.1.2.1, fun t ht => ?_⟩
  rw [hT.1] at ht
  obtain ⟨a1, a2, a3, a4, a5, a6, a7⟩ := hT.2.2.1 t ht
  rw [a4, a5]
  exact hb t ht
theorem r_fit {M : g_M} (h : r_P M) {x y z : Int} {w : Nat} (hw : w ≤ 3) : j_fit (M 9 9) (M 14) (M 15) x y z w ↔ j_fit (M 45 8) (M 54) (M 55) x y z w := by
  have hT := h.2.2.1
  unfold j_fit
  rw [hT.1]
  constructor
  · intro ⟨h1, h2, h3⟩
    have hin : ∀ i : Nat, i < w → 0 ≤ j_pk x y z i ∧ j_pk x y z i < M 45 8 := fun i hi => j_pk_in h1 hw hi
    rw [j_h_cg (h' := M 54) w (fun i hi => (hT.2.2.1 _ (by have := hin i hi; omega)).2.2.2.1)] at h2
    rw [j_s_cg (h' := M 55) w (fun i hi => (hT.2.2.1 _ (by have := hin i hi; omega)).2.2.2.2.1)] at h3
    exact ⟨h1, h2, h3⟩
  · intro ⟨h1, h2, h3⟩
    have hin : ∀ i : Nat, i < w → 0 ≤ j_pk x y z i ∧ j_pk x y z i < M 45 8 := fun i hi => j_pk_in h1 hw hi
    rw [← j_h_cg (h := M 14) w (fun i hi => (hT.2.2.1 _ (by have := hin i hi; omega)).2.2.2.1)] at h2
    rw [← j_s_cg (h := M 15) w (fun i hi => (hT.2.2.1 _ (by have := hin i hi; omega)).2.2.2.2.1)] at h3
    exact ⟨h1, h2, h3⟩
