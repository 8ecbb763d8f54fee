theorem t_run {X : g_M → Int → Int → Prop} (hX : r_X X) {M : g_M} (hI : r_I X M) (a1 a2 a3 a4 a5 : Int) : ∃ c s : Nat, c ≤ 1 ∧ s ≤ 6 ∧ l_SR 10 a1 a2 a3 a4 a5 M (r_I X) c s := by
  have hP := hI.1
  obtain ⟨c1, c2, c3⟩ := hP.2.1
  have c8 := c3.2.1
  have fr3 : ∀ (x y z k : Int), r_fr M (g_up (g_up (g_up (g_up M 75 0 x) 75 1 y) 75 2 z) 45 44 k) := fun x y z k => (((r_fr_75 M 0 x).tr (r_fr_75 _ 1 y)).tr (r_fr_75 _ 2 z)).tr (r_fr_44 _ k)
  rcases hI.2.1.2.1 with ⟨g8, g17⟩ | ⟨g8, g17⟩
  · by_cases hh : 0 ≤ a1 ∧ a1 < M 45 4
    · obtain ⟨f, rfl⟩ : ∃ h : Nat, a1 = h := ⟨a1.toNat, by omega⟩
      obtain ⟨-, -, d3, d4, d5⟩ := c3.2.2 f hh.2
      obtain ⟨w, hw⟩ : ∃ w : Nat, M 50 f = w := ⟨(M 50 f).toNat, by omega⟩
      have hw3 : w ≤ 3 := by omega
      have hw7 : M 7 f = w := by rw [d3, hw]
      have hf6 : f < 6 := by omega
      have hpl : ∀ i : Nat, i < w → M 8 (3 * f + i) = M 51 (3 * f + i) := fun i hi => (d5 i (by omega)).1
      by_cases hall : ∀ q : Nat, q < w → z_val M (j_pk a2 a3 a4 q) (M 51 (3 * f + q))
      · refine ⟨0, 0, by decide, by decide, Or.inr (Or.inr (Or.inr (Or.inr (Or.inr (Or.inr (Or.inr (Or.inr (Or.inr (Or.inr (Or.inl ⟨rfl, _, cw_run_R 2046 M (f : Int) a2 a3 a4 _ ?_ (c_Fu_run 1939 M f w a2 a3 a4 hP g8 hh.2 hf6 hw hw7 hw3 hpl hall), ?_⟩))))))))))⟩
        · rintro M1 v ⟨st, v', -, h1, -⟩
          exact ⟨_, h1⟩
        · rintro M1' v1 ⟨M1, r, ⟨st, v, hO, hr, h11, h14, h60, h44, hc⟩, rfl, rfl⟩
          have hc2 : ∀ k b : Nat, k < 34 ∨ 44 < k → k ≠ 77 → (g_up M1 77 0 r) k b = M k b := fun k b hk h7 => by rw [g_up_ne h7]; exact hc k b hk
          have hcf : ∀ k : Nat, k < 34 ∨ 44 < k → k ≠ 77 → (g_up M1 77 0 r) k = M k := fun k hk h7 => funext fun b => hc2 k b hk h7
          have f0 : r_f0 M (g_up M1 77 0 r) := ⟨fun k hk => hcf k (by omega) (by omega), hc2 45 0 (by decide) (by decide), hc2 45 4 (by decide) (by decide), hc2 45 8 (by decide) (by decide), hc2 45 13 (by decide) (by decide)⟩
          have hP1 := r_P_f0 hP f0
          refine ⟨0, rfl, _, c_Mo_run 2041 (g_up M1 77 0 r) f w a2 a3 a4 hP1 (by rw [hc2 45 17 (by decide) (by decide)]; exact g17) (by rw [f0.2.2.1]; exact hh.2) hf6 (by rw [hcf 50 (by decide) (by decide)]; exact hw) hw3, ?_⟩
          have hz : ∀ t y : Int, z_val (g_up M1 77 0 r) t y ↔ z_val M t y := fun t y => z_val_cg (M := M) (M2 := g_up M1 77 0 r) (fun k hk => hcf k (by omega) (by omega)) f0.2.2.2.1 t y
          have hall1 : ∀ q : Nat, q < w → z_val (g_up M1 77 0 r) (j_pk a2 a3 a4 q) ((g_up M1 77 0 r) 51 (3 * f + q)) := fun q hq => by
            rw [hc2 51 _ (by decide) (by decide)]
            exact (hz _ _).mpr (hall q hq)
          rintro M2 v2 (⟨hno, -⟩ | ⟨-, h2, hq, st', v', hO', e34, e42, -, rfl, e76⟩)
          · exact absurd hall1 hno
          · have es : u_s0 (g_up M1 77 0 r) f w a2 a3 a4 = u_s0 M f w a2 a3 a4 := by
              unfold u_s0
              rw [u_ar_fn f0]
            rw [es, u_O_fn f0] at hO'
            obtain ⟨es1, es2⟩ := u_O_un hO hO'
            subst es1
            subst es2
            have er : r = ((u_av v).length : Nat) := Sum.inl.inj (Option.some.inj hr)
            refine ⟨_, rfl, h2, fun _ => ?_, r_P_f0 hP1 hq.f0, r_V_ex hX hP hI.2.1 (f0.tr hq.f0).ex ?_ ?_ ?_, ?_, ?_, ?_, ?_⟩
            · rw [hq 77 0 (by decide) (by decide)]
              show (if (77 : Nat) = 77 ∧ (0 : Nat) = 0 then r else M1 77 0) = _
              rw [if_pos ⟨rfl, rfl⟩]
              exact er
            · rw [hq.fn (by decide) (by decide)]
              exact hcf 0 (by decide) (by decide)
            · rw [hq 45 17 (by decide) (by decide)]
              exact hc2 45 17 (by decide) (by decide)
            · rw [hq 45 18 (by decide) (by decide)]
              exact hc2 45 18 (by decide) (by decide)
            · rw [hq 34 11 (by decide) (by decide), g_up_ne (by decide), h11, e34]
            · rw [hq 34 14 (by decide) (by decide), g_up_ne (by decide), h14, e42]
            · rw [e42]; omega
            · intro i hi
              rw [e42] at hi
              have hi' : i < (u_av v).length := by omega
              have hg := List.getElem?_eq_getElem hi'
              rw [e76 i _ hg, hq 44 i (by decide) (by omega), g_up_ne (by decide), h44 i _ hg]
      · refine ⟨1, 6, by decide, by decide, Or.inr (Or.inr (Or.inr (Or.inr (Or.inr (Or.inr (Or.inr (Or.inr (Or.inr (Or.inr (Or.inl ⟨rfl, _, conLR_of (cw_run_2 2046 M M (f : Int) a2 a3 a4 (c_Fu_run_x2 1941 M f w a2 a3 a4 g8 hP hf6 (by rw [c1]; exact hh.2) hw7 hw3 hpl hall)), ?_⟩))))))))))⟩
        rintro M1 v1 ⟨e8, rfl⟩
        replace e8 := e8.symm
        subst e8
        refine ⟨2, rfl, _, c_Mo_run 2041 M f w a2 a3 a4 hP g17 hh.2 hf6 hw hw3, ?_⟩
        rintro M2 v2 (⟨-, rfl, h2, hq, e34, e42, e76⟩ | ⟨hyes, -⟩)
        · refine ⟨0, rfl, h2, fun h9 => absurd h9 (by decide), r_P_f0 hP hq.f0, r_V_ex hX hP hI.2.1 hq.f0.ex (hq.fn (by decide) (by decide)) (hq 45 17 (by decide) (by decide)) (hq 45 18 (by decide) (by decide)), ?_⟩
          exact r_R_cg hI.2.2 (hq 34 11 (by decide) (by decide)) (hq 34 14 (by decide) (by decide)) e34 e42 (hq.fn (by decide) (by decide)) e76
        · exact absurd hyes hall
    · refine ⟨1, 6, by decide, by decide, Or.inr (Or.inr (Or.inr (Or.inr (Or.inr (Or.inr (Or.inr (Or.inr (Or.inr (Or.inr (Or.inl ⟨rfl, _, conLR_of (cw_run_2 2046 M M a1 a2 a3 a4 (c_Fu_run_x1 2040 M a1 a2 a3 a4 g8 (by rw [c1]; exact hh))), ?_⟩))))))))))⟩
      rintro M1 v1 ⟨e8, rfl⟩
      replace e8 := e8.symm
      subst e8
      refine ⟨2, rfl, _, conR_of (c_Mo_run_x1 2046 M a1 a2 a3 a4 g17 hh), ?_⟩
      rintro M2 v2 ⟨rfl, rfl⟩
      exact ⟨0, rfl, by simp [g_up], fun h9 => absurd h9 (by decide), r_I_fr hX hI (fr3 a2 a3 a4 2)⟩
  · refine ⟨1, 6, by decide, by decide, Or.inr (Or.inr (Or.inr (Or.inr (Or.inr (Or.inr (Or.inr (Or.inr (Or.inr (Or.inr (Or.inl ⟨rfl, _, conLR_of (cw_run_1 2046 M M a1 a2 a3 a4 (c_Fu_run_x0 2040 M a1 a2 a3 a4 g8)), ?_⟩))))))))))⟩
    rintro M1 v1 ⟨e8, rfl⟩
    replace e8 := e8.symm
    subst e8
    refine ⟨1, rfl, _, conR_of (c_Mo_run_x0 2046 M a1 a2 a3 a4 g17), ?_⟩
    rintro M2 v2 ⟨rfl, rfl⟩
    exact ⟨0, rfl, by simp [g_up], fun h9 => absurd h9 (by decide), r_I_fr hX hI (fr3 a2 a3 a4 1)⟩
