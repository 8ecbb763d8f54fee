theorem t_clause {X : g_M → Int → Int → Prop} (hX : r_X X) {M : g_M} (hI : r_I X M) (a1 a2 a3 a4 a5 : Int) : ∃ c s : Nat, c ≤ 1 ∧ s ≤ 6 ∧ l_SR 5 a1 a2 a3 a4 a5 M (r_I X) c s := by
  obtain ⟨c1, c2, c3⟩ := hI.1.2.1
  have c8 := c3.2.1
  have hT := hI.1.2.2.1
  have hT2 := hT.2.1.2.1
  obtain ⟨l1, l2, l3, l4, l5⟩ := hI.1.2.2.2
  obtain ⟨m, hm⟩ : ∃ m : Nat, M 45 13 = m := ⟨(M 45 13).toNat, by omega⟩
  have hm24 : m ≤ 24 := by omega
  have hnt : M 9 9 ≤ 100 := by rw [hT.1]; exact hT2
  by_cases hh : 0 ≤ a1 ∧ a1 < M 45 4
  · obtain ⟨f, rfl⟩ : ∃ f : Nat, a1 = f := ⟨a1.toNat, by omega⟩
    obtain ⟨-, -, d3, d4, -⟩ := c3.2.2 f hh.2
    obtain ⟨w, hw⟩ : ∃ w : Nat, M 50 f = w := ⟨(M 50 f).toNat, by omega⟩
    have hw3 : w ≤ 3 := by omega
    have hw2 : M 7 f = w := by rw [d3, hw]
    have hf2 : (f : Int) < M 5 4 := by rw [c1]; exact hh.2
    have hf6 : f < 6 := by omega
    obtain ⟨m1, m2, -⟩ := l5 f hf6
    rw [hm, Int.toNat_natCast] at m1
    by_cases hb : 0 ≤ a5 ∧ a5 < M 45 8
    · obtain ⟨b, rfl⟩ : ∃ b : Nat, a5 = b := ⟨a5.toNat, by omega⟩
      have ew := w_wf_q hT.2.1 hT.1 (fun t ht => ⟨(hT.2.2.1 t ht).2.2.2.2.2.2, (hT.2.2.1 t ht).2.2.2.1, (hT.2.2.1 t ht).2.2.2.2.1⟩) a2 a3 a4 w b hb.2
      by_cases hq : q_cls M w a2 a3 a4 b = true
      · have hwf : w_wf M w a2 a3 a4 (b : Int) = true := by rw [ew]; exact hq
        by_cases hfu : s_cn M (f : Int) m = 6 ∨ m = 24
        · refine ⟨1, 6, by decide, by decide, Or.inr (Or.inr (Or.inr (Or.inr (Or.inr (Or.inl ⟨rfl, _, conLR_of (cw_clause_2 2046 M M (f : Int) a2 a3 a4 (b : Int) (c_Fu_clause_x2 2040 M f w a2 a3 a4 (b : Int) hf6 hf2 hw2 hw3 hnt hwf (by omega))), ?_⟩)))))⟩
          rintro M1 v1 ⟨e8, rfl⟩
          replace e8 := e8.symm
          subst e8
          refine ⟨2, rfl, _, c_Mo_clause_x2 2043 M f w b m a2 a3 a4 hT.2.1 hf6 hh.2 hw hw3 hb.2 hm hm24 hq hfu, ?_⟩
          rintro M2 v2 ⟨rfl, Mx, hx, rfl⟩
          exact ⟨0, rfl, by simp [g_up], fun h9 => absurd h9 (by decide), r_I_fr hX hI ((r_fr_e4 hx).tr (r_fr_44 _ 2))⟩
        · obtain ⟨c, hc⟩ : ∃ c : Nat, M 24 f = c := ⟨(M 24 f).toNat, by have := (s_cn_le M (f : Int) m).1; omega⟩
          have ek : ∀ k : Nat, 45 ≤ k → k < 77 → (g_up (g_up (g_up (g_up (a_P (g_up (g_up (g_up M 0 8 (-1)) 20 m (f : Int)) 22 m (b : Int)) m a2 a3 a4 w) 23 (6 * f + c) (m : Int)) 24 f ((c : Int) + 1)) 19 7 ((m : Int) + 1)) 77 0 ((m : Int) + 1)) k = M k := by
            intro k k1 k2
            rw [g_up_ne (by omega), g_up_ne (by omega), g_up_ne (by omega), g_up_ne (by omega)]
            funext y
            rw [a_P_ne _ _ _ _ _ _ _ _ (by omega), g_up_ne (by omega), g_up_ne (by omega), g_up_ne (by omega)]
          have ekr := fun k (hk : 46 ≤ k ∧ k < 59) => ek k (by omega) (by omega)
          refine ⟨0, 0, by decide, by decide, Or.inr (Or.inr (Or.inr (Or.inr (Or.inr (Or.inl ⟨rfl, _, conLR_of (cw_clause_r 2046 M _ (f : Int) a2 a3 a4 (b : Int) ((m : Int) + 1) (c_Fu_clause 2042 M f w c m a2 a3 a4 (b : Int) hf6 hf2 hw2 hw3 hnt hwf (by rw [l1, hm]) hc (by omega))), ?_⟩)))))⟩
          rintro M1 v1 ⟨e8, rfl⟩
          replace e8 := e8.symm
          subst e8
          refine ⟨0, rfl, _, c_Mo_clause 2043 _ f w b m a2 a3 a4 (q_T_cg ekr (by rw [ek 45 (by decide) (by decide)]) hT.2.1) hf6 (by rw [ek 45 (by decide) (by decide)]; exact hh.2) (by rw [ek 50 (by decide) (by decide)]; exact hw) hw3 (by rw [ek 45 (by decide) (by decide)]; exact hb.2) (by rw [ek 45 (by decide) (by decide)]; exact hm) hm24 (by rw [q_cls_cg ekr (ek 64 (by decide) (by decide)) (by rw [ek 45 (by decide) (by decide)])]; exact hq) (by rw [s_cn_eq (ek 56 (by decide) (by decide))]; exact hfu), ?_⟩
          rintro M2 v2 ⟨rfl, Mx, hx, rfl⟩
          exact ⟨(m : Int) + 1, rfl, by simp [g_up], fun _ => by simp only [g_up]; rw [if_neg (by omega), if_neg (by omega), if_neg (by omega), if_neg (by omega), if_neg (by omega), if_neg (by omega), if_neg (by omega), if_neg (by omega), hx 77 0 (by decide) (by decide) (by decide) (by decide)]; simp [g_up], r_I_cl hI hm (by omega) hh.2 hw hb.2 hq hc (by omega) hx rfl⟩
      · refine ⟨1, 6, by decide, by decide, Or.inr (Or.inr (Or.inr (Or.inr (Or.inr (Or.inl ⟨rfl, _, conLR_of (cw_clause_1 2046 M M (f : Int) a2 a3 a4 (b : Int) (c_Fu_clause_x1 2040 M f w a2 a3 a4 (b : Int) hf6 hf2 hw2 hw3 hnt (by rw [ew]; exact hq))), ?_⟩)))))⟩
        rintro M1 v1 ⟨e8, rfl⟩
        replace e8 := e8.symm
        subst e8
        refine ⟨1, rfl, _, c_Mo_clause_x1 2043 M f w b m a2 a3 a4 hT.2.1 hf6 hh.2 hw hw3 hb.2 hm hm24 hq, ?_⟩
        rintro M2 v2 ⟨rfl, Mx, hx, rfl⟩
        exact ⟨0, rfl, by simp [g_up], fun h9 => absurd h9 (by decide), r_I_fr hX hI ((r_fr_e4 hx).tr (r_fr_44 _ 1))⟩
    · have hwf : ¬ w_wf M w a2 a3 a4 a5 = true := by
        unfold w_wf
        cases w_b M a2 a3 a4 w with
        | none => simp
        | some v =>
          rw [decide_eq_true_iff]
          intro h9
          exact hb ⟨h9.1.1, by rw [← hT.1]; exact h9.1.2⟩
      refine ⟨1, 6, by decide, by decide, Or.inr (Or.inr (Or.inr (Or.inr (Or.inr (Or.inl ⟨rfl, _, conLR_of (cw_clause_1 2046 M M (f : Int) a2 a3 a4 a5 (c_Fu_clause_x1 2040 M f w a2 a3 a4 a5 hf6 hf2 hw2 hw3 hnt hwf)), ?_⟩)))))⟩
      rintro M1 v1 ⟨e8, rfl⟩
      replace e8 := e8.symm
      subst e8
      refine ⟨1, rfl, _, conR_of (c_Mo_clause_x0 2045 M m (f : Int) a2 a3 a4 a5 (Or.inr hb) hm hm24), ?_⟩
      rintro M2 v2 ⟨rfl, rfl⟩
      exact ⟨0, rfl, by simp [g_up], fun h9 => absurd h9 (by decide), r_I_fr hX hI (r_fr_44 M 1)⟩
  · refine ⟨1, 6, by decide, by decide, Or.inr (Or.inr (Or.inr (Or.inr (Or.inr (Or.inl ⟨rfl, _, conLR_of (cw_clause_1 2046 M M a1 a2 a3 a4 a5 (c_Fu_clause_x0 2040 M a1 a2 a3 a4 a5 (by rw [c1]; exact hh))), ?_⟩)))))⟩
    rintro M1 v1 ⟨e8, rfl⟩
    replace e8 := e8.symm
    subst e8
    refine ⟨1, rfl, _, conR_of (c_Mo_clause_x0 2045 M m a1 a2 a3 a4 a5 (Or.inl hh) hm hm24), ?_⟩
    rintro M2 v2 ⟨rfl, rfl⟩
    exact ⟨0, rfl, by simp [g_up], fun h9 => absurd h9 (by decide), r_I_fr hX hI (r_fr_44 M 1)⟩
