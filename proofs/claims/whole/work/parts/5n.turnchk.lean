theorem t_check {M : g_M} (hI : r_I w_X M) (a1 a2 a3 a4 a5 : Int) : ∃ c s : Nat, c ≤ 1 ∧ s ≤ 6 ∧ l_SR 6 a1 a2 a3 a4 a5 M (r_I w_X) c s := by
  have hP := hI.1
  have hc0 := hP.1.2.2.1
  have hf0 := hP.2.1.2.2.1
  have hl0 := hP.2.2.2.2.1
  obtain ⟨m, hm⟩ : ∃ m : Nat, M 45 0 = m := ⟨(M 45 0).toNat, by omega⟩
  obtain ⟨m2, hm2⟩ : ∃ m : Nat, M 45 4 = m := ⟨(M 45 4).toNat, by omega⟩
  obtain ⟨mm, hmm⟩ : ∃ m : Nat, M 45 13 = m := ⟨(M 45 13).toNat, by omega⟩
  have key : ∀ (M1 : g_M) (v g : Int), h0 M M1 → M1 0 8 = v → M1 0 9 = g → w_X M v g → ∀ (M2 : g_M) (v' g' : Int), m_f M1 M2 → M2 45 18 = g' → M2 45 17 = (if v' = 0 then 1 else 0) → w_X M1 v' g' → v = v' ∧ r_I w_X M2 := by
    intro M1 v g h1 h8 h9 hX M2 v' g' h2 h18 h17 hX'
    have hP1 := r_P_f0 hP h1.f0
    have hX1 := w_X_r M M1 v g hP h1.f0.ex hX
    obtain ⟨ev, eg⟩ := w_X_un hX1 hX'
    subst ev
    subst eg
    refine ⟨rfl, r_P_f0 hP1 h2.f0, ⟨?_, ?_, fun _ => ?_⟩, ?_⟩
    · rw [h2 0 9 (by decide) (by decide), h9, h18]
    · rw [h2 0 8 (by decide) (by decide), h8, h17]
      by_cases hv : v = 0
      · exact Or.inl ⟨hv, if_pos hv⟩
      · exact Or.inr ⟨hv, if_neg hv⟩
    · rw [h2 0 8 (by decide) (by decide), h8, h18]
      exact w_X_r M1 M2 v g hP1 h2.f0.ex hX1
    · exact r_R_cg hI.2.2 ((h2 34 11 (by decide) (by decide)).trans (h1 34 11 (by decide) (by decide))) ((h2 34 14 (by decide) (by decide)).trans (h1 34 14 (by decide) (by decide))) ((h2 45 34 (by decide) (by decide)).trans (h1 45 34 (by decide) (by decide))) ((h2 45 42 (by decide) (by decide)).trans (h1 45 42 (by decide) (by decide))) (funext fun b => (h2 44 b (by decide) (by omega)).trans (h1 44 b (by decide) (by decide))) (funext fun b => (h2 76 b (by decide) (by omega)).trans (h1 76 b (by decide) (by decide)))
  by_cases hv : M 0 8 = -1
  · refine ⟨0, 0, by decide, by decide, Or.inr (Or.inr (Or.inr (Or.inr (Or.inr (Or.inr (Or.inl ⟨rfl, ⟨rfl, rfl⟩, _, c_Fu_check 1835 M m m2 mm hP hm hm2 hmm hv, ?_⟩))))))⟩
    rintro M1 v1 ⟨v, g, rfl, h1, h8, h9, hX⟩
    refine ⟨v, rfl, _, c_Mo_check 2039 M1 m m2 mm (r_P_f0 hP h1.f0) (by rw [h1.f0.2.1]; exact hm) (by rw [h1.f0.2.2.1]; exact hm2) (by rw [h1.f0.2.2.2.2]; exact hmm), ?_⟩
    rintro M2 v2 ⟨v', g', rfl, h2, h18, h17, hX'⟩
    exact ⟨v', rfl, key M1 v g h1 h8 h9 hX M2 v' g' h2 h18 h17 hX'⟩
  · refine ⟨0, 0, by decide, by decide, Or.inr (Or.inr (Or.inr (Or.inr (Or.inr (Or.inr (Or.inl ⟨rfl, ⟨rfl, rfl⟩, _, conR_of (c_Fu_check_k 2047 M (M 0 8) rfl hv), ?_⟩))))))⟩
    rintro M1 v1 ⟨e8, rfl⟩
    replace e8 := e8.symm
    subst e8
    refine ⟨M 0 8, rfl, _, c_Mo_check 2039 M m m2 mm hP hm hm2 hmm, ?_⟩
    rintro M2 v2 ⟨v', g', rfl, h2, h18, h17, hX'⟩
    exact ⟨v', rfl, key M (M 0 8) (M 45 18) (h0.rf M) rfl hI.2.1.1 (hI.2.1.2.2 hv) M2 v' g' h2 h18 h17 hX'⟩
