theorem k_c_in {M : g_M} (hP : r_P M) {b k x : Nat} (hb : (b : Int) < M 45 8) (hk : (k_c M b)[k]? = some x) : (x : Int) < M 45 8 ∧ k < 40 ∧ ∃ h w : Nat, h < 6 ∧ M 52 x = 16 + (h : Int) ∧ M 12 x = w ∧ w ≤ 3 ∧ M 50 h = w := by
  have hT := hP.2.2.1.2.1
  have hm := List.mem_of_getElem? hk
  have hm2 := List.mem_filter.mp hm
  have h1 := q_pl_in hT b hb x hm2.1
  have h16 := of_decide_eq_true hm2.2
  have hx : (x : Int) < M 45 8 := by omega
  have hl : k < (k_c M b).length := (List.getElem?_eq_some_iff.mp hk).1
  have hl2 : (k_c M b).length ≤ (q_pl M b).length := List.length_filter_le _ _
  have hl3 := q_pl_len hT b hb
  have hl4 := (hT.2.2 b hb).2.2.2.2.2.1
  refine ⟨hx, by omega, ?_⟩
  rcases r_hd hP hx with ⟨v, v1, v2, -⟩ | ⟨h, w, v1, v2, v3, -⟩ | ⟨h, w, v1, v2, v3, v4, v5, v6, v7, v8⟩
  · omega
  · omega
  · exact ⟨h, w, v1, v3, v6, v7, v8⟩
theorem t_arc {X : g_M → Int → Int → Prop} (hX : r_X X) {M : g_M} (hI : r_I X M) (a1 a2 a3 a4 a5 : Int) (h31 : a2 ≤ 2147483647) : ∃ c s : Nat, c ≤ 1 ∧ s ≤ 6 ∧ l_SR 8 a1 a2 a3 a4 a5 M (r_I X) c s := by
  have hP := hI.1
  have hT := hP.2.2.1.2.1
  obtain ⟨l1, l2, l3, l4, l5⟩ := hP.2.2.2
  by_cases hc : 0 ≤ a1 ∧ a1 < M 45 13
  · obtain ⟨c, rfl⟩ : ∃ c : Nat, a1 = c := ⟨a1.toNat, by omega⟩
    obtain ⟨e1, e2, e3, e4, e5, e6, e7, -, -⟩ := l4 c hc.2
    obtain ⟨b, hb⟩ : ∃ b : Nat, M 58 c = b := ⟨(M 58 c).toNat, by omega⟩
    have hbt : (b : Int) < M 45 8 := by omega
    obtain ⟨f, hf⟩ : ∃ f : Nat, M 56 c = f := ⟨(M 56 c).toNat, by omega⟩
    have hfn : (f : Int) < M 45 4 := by omega
    have hf6 : f < 6 := by have := hP.2.1.2.2.2.1; omega
    obtain ⟨-, -, g3, g4, -⟩ := hP.2.1.2.2.2.2 f hfn
    obtain ⟨wf, hwf⟩ : ∃ wf : Nat, M 50 f = wf := ⟨(M 50 f).toNat, by omega⟩
    have ek : ∀ k, k ≠ 31 → k ≠ 30 → e_c M (k_c M b) k = M k := fun k h1 h2 => e_c_ne h1 h2
    have hT1 : q_T (e_c M (k_c M b)) := q_T_cg (e_c_46 M _) (by rw [ek 45 (by decide) (by decide)]) hT
    have hcm : (c : Int) < M 19 7 := by omega
    have hfr := e_c_fr (M := M) (k_c M b)
    by_cases hk : a2 < 0 ∨ ((k_c M b).length : Int) ≤ a2
    · have hcl := cw_arc_1 2046 M _ (c : Int) a2 a3 a4 (c_Fu_arc_x1 1842 M c b a2 a3 a4 hP (by omega) hcm (by omega) hbt hk)
      refine ⟨1, 6, by decide, by decide, Or.inr (Or.inr (Or.inr (Or.inr (Or.inr (Or.inr (Or.inr (Or.inr (Or.inl ⟨rfl, _, conLR_of hcl, ?_⟩))))))))⟩
      rintro M1 v1 ⟨e8, rfl⟩
      replace e8 := e8.symm
      subst e8
      by_cases hk0 : a2 < 0
      · refine ⟨1, rfl, _, conR_of (c_Mo_arc_x0 2046 _ (c : Int) a2 a3 a4 (Or.inr hk0)), ?_⟩
        rintro M2 v2 ⟨rfl, rfl⟩
        exact ⟨0, rfl, by simp [g_up], fun h9 => absurd h9 (by decide), r_I_fr hX hI (hfr.tr (r_fr_44 _ 1))⟩
      · obtain ⟨k, rfl⟩ : ∃ k : Nat, a2 = k := ⟨a2.toNat, by omega⟩
        have hq : q_call (e_c M (k_c M b) 52) (q_pl (e_c M (k_c M b)) b) k = -1 := by
          rw [ek 52 (by decide) (by decide), q_pl_cg (e_c_46 M _), q_call_f]
          have : ((q_pl M b).filter (fun x => decide (16 ≤ M 52 x)))[k]? = none := List.getElem?_eq_none (by show (k_c M b).length ≤ k; omega)
          rw [this]
        refine ⟨1, rfl, _, c_Mo_arc_x1 2042 _ c b k a3 a4 hT1 (by omega) (by rw [ek 45 (by decide) (by decide)]; exact hc.2) (by rw [ek 58 (by decide) (by decide)]; exact hb) (by rw [ek 45 (by decide) (by decide)]; exact hbt) (by omega) hq, ?_⟩
        rintro M2 v2 ⟨rfl, hq2⟩
        exact ⟨0, rfl, by rw [hq2 45 44 (by decide) (by decide) (by decide)]; simp [g_up], fun h9 => absurd h9 (by decide), r_I_fr hX hI ((hfr.tr (r_fr_44 _ 1)).tr (r_fr_q hq2))⟩
    · obtain ⟨k, rfl⟩ : ∃ k : Nat, a2 = k := ⟨a2.toNat, by omega⟩
      obtain ⟨x, hx⟩ : ∃ x, (k_c M b)[k]? = some x := ⟨_, List.getElem?_eq_getElem (by omega)⟩
      obtain ⟨x1, x2, g, wg, x3, x4, x5, x6, x7⟩ := k_c_in hP hbt hx
      have hnt := hT.2.1
      have hq : q_call (e_c M (k_c M b) 52) (q_pl (e_c M (k_c M b)) b) k = x := by
        rw [ek 52 (by decide) (by decide), q_pl_cg (e_c_46 M _), q_call_f]
        have : ((q_pl M b).filter (fun x => decide (16 ≤ M 52 x)))[k]? = some x := hx
        rw [this]
      by_cases hij : 0 ≤ a3 ∧ a3 < wf ∧ 0 ≤ a4 ∧ a4 < wg
      · obtain ⟨i, rfl⟩ : ∃ i : Nat, a3 = i := ⟨a3.toNat, by omega⟩
        obtain ⟨j, rfl⟩ : ∃ j : Nat, a4 = j := ⟨a4.toNat, by omega⟩
        have hwff : M 50 (M 56 c).toNat = wf := by rw [hf]; exact hwf
        obtain ⟨p1, p2, p3, p4, p5, p6⟩ := e7 i (by omega)
        obtain ⟨p, hp⟩ : ∃ p : Nat, M 57 (3 * c + i) = p := ⟨(M 57 (3 * c + i)).toNat, by omega⟩
        rw [hp, Int.toNat_natCast] at p4 p6
        obtain ⟨w1, w2, w3, w4⟩ := r_w hP x1
        obtain ⟨y1, y2⟩ := w4 j (by omega)
        obtain ⟨y, hy⟩ : ∃ y : Nat, (M 53 (3 * x + j)).toNat = y := ⟨_, rfl⟩
        rw [hy] at y1 y2
        have hy53 : M 53 (3 * x + j) = y := by
          have := (hP.2.2.1.2.2.1 x x1).2.2.1 j (by omega)
          omega
        have hcl := cw_arc_r 2046 M _ (c : Int) (k : Int) (i : Int) (j : Int) (z_arc M p y) (c_Fu_arc 1842 M c b k x f wf wg i j p y hP (by omega) hcm (by omega) hbt hx x2 (by omega) hf6 (by omega) (by omega) (by omega) x5 x6 (by omega) (by omega) (by omega) y1 (by omega) (by omega) p6)
        refine ⟨0, 0, by decide, by decide, Or.inr (Or.inr (Or.inr (Or.inr (Or.inr (Or.inr (Or.inr (Or.inr (Or.inl ⟨rfl, _, conLR_of hcl, ?_⟩))))))))⟩
        rintro M1 v1 ⟨e8, rfl⟩
        have hfr1 : r_fr M M1 := by rw [e8]; exact hfr.tr (r_fr_77 _ 0 _)
        have ek1 : ∀ k : Nat, 45 ≤ k → k < 77 → M1 k = M k := by
          intro k k1 k2
          rw [e8, g_up_ne (by omega), ek k (by omega) (by omega)]
        have h77 : M1 77 0 = z_arc M p y := by rw [e8]; simp [g_up]
        have e46 : ∀ k : Nat, 46 ≤ k ∧ k < 59 → M1 k = M k := fun k hk => ek1 k (by omega) (by omega)
        have hq1 : q_call (M1 52) (q_pl M1 b) k = x := by
          rw [ek1 52 (by decide) (by decide), q_pl_cg e46, ← q_pl_cg (e_c_46 M (k_c M b)), ← ek 52 (by decide) (by decide)]
          exact hq
        refine ⟨0, rfl, _, c_Mo_arc 2042 M1 c b k x f wf g wg i j p y (r_P_fr hP hfr1) (by omega) (by rw [ek1 45 (by decide) (by decide)]; exact hc.2) (by rw [ek1 58 (by decide) (by decide)]; exact hb) (by rw [ek1 45 (by decide) (by decide)]; exact hbt) (by omega) hq1 (by omega) (by rw [ek1 56 (by decide) (by decide)]; exact hf) hf6 (by rw [ek1 50 (by decide) (by decide)]; exact hwf) (by rw [ek1 52 (by decide) (by decide)]; exact x4) x3 (by rw [ek1 50 (by decide) (by decide)]; exact x7) (by omega) (by omega) (by omega) x6 (by rw [ek1 57 (by decide) (by decide)]; exact hp) (by rw [ek1 53 (by decide) (by decide)]; exact hy53) (by rw [ek1 45 (by decide) (by decide)]; omega) (by rw [ek1 45 (by decide) (by decide)]; omega) (by rw [ek1 54 (by decide) (by decide)]; exact p4), ?_⟩
        rintro M2 v2 ⟨rfl, hq2⟩
        refine ⟨_, rfl, by rw [hq2 45 44 (by decide) (by decide) (by decide)]; simp [g_up], fun _ => ?_, r_I_fr hX hI ((hfr1.tr (r_fr_44 _ 0)).tr (r_fr_q hq2))⟩
        rw [hq2 77 0 (by decide) (by decide) (by decide), g_up_ne (by decide), h77, z_arc_cg e46]
      · have hcl := cw_arc_1 2046 M _ (c : Int) (k : Int) a3 a4 (c_Fu_arc_x2 1842 M c b k x f wf wg a3 a4 hP (by omega) hcm (by omega) hbt hx x2 (by omega) hf6 (by omega) (by omega) (by omega) x5 x6 hij)
        refine ⟨1, 6, by decide, by decide, Or.inr (Or.inr (Or.inr (Or.inr (Or.inr (Or.inr (Or.inr (Or.inr (Or.inl ⟨rfl, _, conLR_of hcl, ?_⟩))))))))⟩
        rintro M1 v1 ⟨e8, rfl⟩
        replace e8 := e8.symm
        subst e8
        refine ⟨1, rfl, _, c_Mo_arc_x2 2042 _ c b k x f wf g wg a3 a4 hT1 (by omega) (by rw [ek 45 (by decide) (by decide)]; exact hc.2) (by rw [ek 58 (by decide) (by decide)]; exact hb) (by rw [ek 45 (by decide) (by decide)]; exact hbt) (by omega) hq (by omega) (by rw [ek 56 (by decide) (by decide)]; exact hf) hf6 (by rw [ek 50 (by decide) (by decide)]; exact hwf) (by rw [ek 52 (by decide) (by decide)]; exact x4) x3 (by rw [ek 50 (by decide) (by decide)]; exact x7) hij, ?_⟩
        rintro M2 v2 ⟨rfl, hq2⟩
        exact ⟨0, rfl, by rw [hq2 45 44 (by decide) (by decide) (by decide)]; simp [g_up], fun h9 => absurd h9 (by decide), r_I_fr hX hI ((hfr.tr (r_fr_44 _ 1)).tr (r_fr_q hq2))⟩
  · have hcl := cw_arc_1 2046 M M a1 a2 a3 a4 (c_Fu_arc_x0 2040 M a1 a2 a3 a4 (by rw [l1]; exact hc))
    refine ⟨1, 6, by decide, by decide, Or.inr (Or.inr (Or.inr (Or.inr (Or.inr (Or.inr (Or.inr (Or.inr (Or.inl ⟨rfl, _, conLR_of hcl, ?_⟩))))))))⟩
    rintro M1 v1 ⟨e8, rfl⟩
    replace e8 := e8.symm
    subst e8
    refine ⟨1, rfl, _, conR_of (c_Mo_arc_x0 2046 M a1 a2 a3 a4 (Or.inl hc)), ?_⟩
    rintro M2 v2 ⟨rfl, rfl⟩
    exact ⟨0, rfl, by simp [g_up], fun h9 => absurd h9 (by decide), r_I_fr hX hI (r_fr_44 M 1)⟩
