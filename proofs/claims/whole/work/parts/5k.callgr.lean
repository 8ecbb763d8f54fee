def o_dd (M : g_M) (c u p : Nat) : Nat := (o_p M c u (p / 3) (p % 3)).toNat
theorem o_dd_le (M : g_M) (c u p : Nat) : o_dd M c u p ≤ 3 := by
  have := o_p_in M c u (p / 3) (p % 3)
  unfold o_dd
  omega
theorem o_g_v (M : g_M) (c u : Nat) : o_v (o_g M c u) = o_4 (o_dd M c u) 9 := by
  refine o_4_cg 9 fun p hp => ?_
  unfold o_d o_g o_dd
  rw [o_k_S _ _ _ _ hp, o_k_A _ _ _ _ hp]
  simp only [decide_eq_true_iff]
  rcases o_p_in M c u (p / 3) (p % 3) with h | h | h
  · rw [h]; decide
  · rw [h]; decide
  · rw [h]; decide
theorem c_Mo_callGraphs (d : Nat) (M : g_M) (M0 : g_M) (m : Nat) (hP : r_P M) (hf0 : f61 M M0) (hm : M 45 13 = m) : ConR y_Mo_callGraphs w_Mo_callGraphs (g_rm (d + 6)) LX M0 [g_r 45] LX (fun M2 v2 => v2 = none ∧ ∃ l : List Nat, f61 M M2 ∧ o_M M M2 l ∧ (∀ x ∈ l, o_G M x) ∧ (l.length < 201 → ∀ q u : Nat, q < m → u ∈ k_c M (M 58 q).toNat → o_g M q u ∈ l)) := by
  refine con_ofR (av := [g_r 45]) (ls0 := [some (g_r 45), none, none, none, none, none, none, none]) (by decide) rfl (Nat.le_of_ble_eq_true rfl) (g_hls (av := [g_r 45]) (k := 7)) (fun _ h9 => List.mem_cons_of_mem _ h9) ?_
  have hm24 : m ≤ 24 := by have := hP.2.2.2.2.2.1; omega
  have hT := hP.2.2.1.2.1
  refine ev_aload_n (i := 0) d_Mo_callGraphs_0 rfl rfl rfl ?_
  refine ev_iconst d_Mo_callGraphs_1 rfl ⟨by decide, by decide⟩ ?_
  refine ev_putI d_Mo_callGraphs_2 rfl lk_Mo_192 fp_Mo_18 (Or.inl rfl) lx_45 rfl ?_
  refine ev_iconst d_Mo_callGraphs_5 rfl ⟨by decide, by decide⟩ ?_
  refine ev_istore_n (i := 1) d_Mo_callGraphs_6 rfl rfl (by decide) rfl ?_
  refine ev_wh (fun n ls1 M1 => ∃ (c : Nat) (l : List Nat), c ≤ m ∧ n = m - c ∧ ls1 = [some (g_r 45), some (g_i (c : Int)), none, none, none, none, none, none] ∧ f61 M M1 ∧ o_M M M1 l ∧ (∀ x ∈ l, o_G M x) ∧ (l.length < 201 → ∀ q u : Nat, q < c → u ∈ k_c M (M 58 q).toNat → o_g M q u ∈ l)) ?_ (n := m) (⟨0, [], Nat.zero_le _, rfl, rfl, fun k b h1 h2 => by simp only [g_up]; rw [if_neg (by omega)]; exact hf0 k b h1 h2, ⟨by decide, List.nodup_nil, fun x hx => by simp at hx, by simp [g_up], fun i x hx => by simp at hx⟩, fun x hx => by simp at hx, fun _ q u hq => by omega⟩)
  intro n ls1 M1 hP0 ih
  obtain ⟨c, l, hc, hn, rfl, hf1, hM1, hG1, hv1⟩ := hP0
  refine ev_iload_n (i := 1) d_Mo_callGraphs_7 rfl rfl rfl ?_
  refine ev_aload_n (i := 0) d_Mo_callGraphs_8 rfl rfl rfl ?_
  refine ev_getI (z := (m : Int)) d_Mo_callGraphs_9 rfl lk_Mo_166 lx_45 rfl ((hf1 45 13 (by decide) (by decide)).trans hm) ?_
  refine ev_icmp_ge (tgt := 146) d_Mo_callGraphs_12 (by decide) rfl (fun hz => ?_) (fun hz => ?_)
  · exact ev_retVR d_Mo_callGraphs_146 (⟨rfl, l, hf1, hM1, hG1, fun h9 q u hq => hv1 h9 q u (by omega)⟩)
  · have hcm : (c : Int) < M 45 13 := by omega
    obtain ⟨f, w, b, c24, hf56, hf6, hfn, hf20, hw50, hw7, hw3, hbb, hb22, hbt, h49, hpat⟩ := r_cn hP hcm
    have hcv : ∀ k u : Nat, (k_c M b)[k]? = some u → q_call (M 52) (q_pl M b) k = u := fun k u hk => by
      rw [q_call_f]
      have h9 : ((q_pl M b).filter (fun x => decide (16 ≤ M 52 x)))[k]? = some u := hk
      rw [h9]
    have hcn : ∀ k, (k_c M b)[k]? = none → q_call (M 52) (q_pl M b) k = -1 := fun k hk => by
      rw [q_call_f]
      have h9 : ((q_pl M b).filter (fun x => decide (16 ≤ M 52 x)))[k]? = none := hk
      rw [h9]
    refine ev_iconst d_Mo_callGraphs_15 rfl ⟨by decide, by decide⟩ ?_
    refine ev_istore_n (i := 2) d_Mo_callGraphs_16 rfl rfl (by decide) rfl ?_
    refine ev_aload_n (i := 0) d_Mo_callGraphs_17 rfl rfl rfl ?_
    refine ev_iload_n (i := 1) d_Mo_callGraphs_18 rfl rfl rfl ?_
    refine ev_iconst d_Mo_callGraphs_19 rfl ⟨by decide, by decide⟩ ?_
    refine ev_callVR (As := [g_i (c : Int), g_i 0]) d_Mo_callGraphs_20 rfl cl_Mo_198 ((c_Mo_callOf (d + 3) M1 c b 0 (q_T_cg hf1.f0.e46 hf1.f0.2.2.2.1 hT) c24 (by rw [hf1.f0.e46 58 (by decide)]; exact hbb) (by rw [hf1.f0.2.2.2.1]; exact hbt) (by decide))) (g_hR (by decide)) g_h0 lx_45 rfl rfl (Nat.le_of_ble_eq_true rfl) rfl rfl (fun M3 v9 g9 => ?_)
    obtain ⟨rfl, hq3⟩ := g9
    rw [hf1.f0.e46 52 (by decide), q_pl_cg hf1.f0.e46]
    refine ev_istore_n (i := 3) d_Mo_callGraphs_23 rfl rfl (by decide) rfl ?_
    refine ev_wh (fun n2 ls2 M4 => ∃ (k : Nat) (l4 : List Nat), k ≤ (k_c M b).length ∧ n2 = (k_c M b).length - k ∧ ls2 = [some (g_r 45), some (g_i (c : Int)), some (g_i (k : Int)), some (g_i (q_call (M 52) (q_pl M b) k)), none, none, none, none] ∧ f61 M M4 ∧ o_M M M4 l4 ∧ (∀ x ∈ l4, o_G M x) ∧ (l4.length < 201 → ∀ s u : Nat, s < k → (k_c M b)[s]? = some u → o_g M c u ∈ l4) ∧ (l4.length < 201 → ∀ q u : Nat, q < c → u ∈ k_c M (M 58 q).toNat → o_g M q u ∈ l4)) ?_ (n := (k_c M b).length) (⟨0, l, Nat.zero_le _, rfl, rfl, hf1.tr hq3.f61, o_M_q hM1 hq3, hG1, fun _ s u hs => by omega, hv1⟩)
    intro n2 ls2 M4 hP2 ih2
    obtain ⟨k, l4, hk, hn2, rfl, hf4, hM4, hG4, hv4, hw4⟩ := hP2
    refine ev_iload_n (i := 3) d_Mo_callGraphs_24 rfl rfl rfl ?_
    refine ev_if_lt (tgt := 140) d_Mo_callGraphs_25 (by decide) rfl (fun hz2 => ?_) (fun hz2 => ?_)
    · refine ev_iinc (z := (c : Int) + 1) d_Mo_callGraphs_140 rfl rfl (by decide) (g_w_id (by unfold g_rg; omega)) rfl ?_
      refine ev_goto (tgt := 7) d_Mo_callGraphs_143 (by decide) ?_
      refine ev_le (ih (m - (c + 1)) [some (g_r 45), some (g_i ((c + 1 : Nat) : Int)), none, none, none, none, none, none] M4 (by omega) ⟨c + 1, l4, by omega, rfl, rfl, hf4, hM4, hG4, fun h9 q u hq hu => ?_⟩) rfl ⟨rfl, rfl, trivial⟩
      by_cases hqc : q = c
      · subst hqc
        rw [hbb, Int.toNat_natCast] at hu
        obtain ⟨s, hs⟩ := List.getElem?_of_mem hu
        refine hv4 h9 s u ?_ hs
        have h8 := (List.getElem?_eq_some_iff.mp hs).1
        refine Nat.lt_of_not_le fun h7 => ?_
        have h6 : (k_c M b)[k]? = none ∨ ∃ u9, (k_c M b)[k]? = some u9 := by cases (k_c M b)[k]? with | none => exact Or.inl rfl | some u9 => exact Or.inr ⟨u9, rfl⟩
        rcases h6 with h6 | ⟨u9, h6⟩
        · have := List.getElem?_eq_none_iff.mp h6; omega
        · rw [hcv k u9 h6] at hz2; omega
      · exact hw4 h9 q u (by omega) hu
    · obtain ⟨u, hu⟩ : ∃ u, (k_c M b)[k]? = some u := by
        match hq9 : (k_c M b)[k]? with
        | none => rw [hcn k hq9] at hz2; exact absurd (by decide) hz2
        | some u => exact ⟨u, rfl⟩
      rw [hcv k u hu]
      obtain ⟨ut, hk40, g, wu, hg6, hu52, hu12, hwu3, hgw⟩ := k_c_in hP hbt hu
      have hGu : o_G M (o_g M c u) := o_G_of hcm hbb (List.mem_of_getElem? hu)
      have hnt := hT.2.1
      have hu100 : u < 100 := by omega
      have hug : (M 52 u - 16).toNat = g := by omega
      have hP4 := r_P_f0 hP hf4.f0
      obtain ⟨w1, w2, w3, w4⟩ := r_w hP ut
      have hpu : ∀ i j, wu ≤ j → o_p M c u i j = 0 := fun i j hj => by
        unfold o_p
        rw [if_neg (fun h9 => by have := h9.2; rw [hug, hgw] at this; omega)]
      have hpw2 : ∀ i j, w ≤ i → o_p M c u i j = 0 := fun i j hj => by
        unfold o_p
        rw [if_neg (fun h9 => by have := h9.1; rw [hf56, Int.toNat_natCast, hw50] at this; omega)]
      have hklen := (List.getElem?_eq_some_iff.mp hu).1
      have hof : o_f (o_g M c u) = f := by unfold o_g; rw [o_k_f _ _ _ _ (by omega), hf56, Int.toNat_natCast]
      have hot : o_t (o_g M c u) = g := by unfold o_g; rw [o_k_t _ _ _ _ (by omega), hug]
      refine ev_aload_n (i := 0) d_Mo_callGraphs_28 rfl rfl rfl ?_
      refine ev_getR d_Mo_callGraphs_29 rfl lk_Mo_28 lx_45 rfl ?_
      refine ev_iload_n (i := 3) d_Mo_callGraphs_32 rfl rfl rfl ?_
      refine ev_iaload (z := 16 + (g : Int)) d_Mo_callGraphs_33 rfl lx_52 (by omega) (by omega) (((hf4 52 _ (by decide) (by omega)).trans hu52)) ?_
      refine ev_bipush d_Mo_callGraphs_34 rfl (by decide +kernel) ⟨by decide, by decide⟩ ?_
      refine ev_isub (z := (g : Int)) d_Mo_callGraphs_36 rfl (by rw [g_w_id (by unfold g_rg; omega)]; omega) ?_
      refine ev_istore (i := 4) d_Mo_callGraphs_37 rfl (by decide) rfl ?_
      refine ev_iconst d_Mo_callGraphs_39 rfl ⟨by decide, by decide⟩ ?_
      refine ev_istore (i := 5) d_Mo_callGraphs_40 rfl (by decide) rfl ?_
      refine ev_iconst d_Mo_callGraphs_42 rfl ⟨by decide, by decide⟩ ?_
      refine ev_istore (i := 6) d_Mo_callGraphs_43 rfl (by decide) rfl ?_
      refine ev_wh (fun n3 ls3 M5 => ∃ i : Nat, i ≤ w ∧ n3 = w - i ∧ ls3 = [some (g_r 45), some (g_i (c : Int)), some (g_i (k : Int)), some (g_i (u : Int)), some (g_i (g : Int)), some (g_i ((o_4 (o_dd M c u) (3 * i) : Nat) : Int)), some (g_i ((i : Nat) : Int)), none] ∧ q_eq M4 M5) ?_ (n := w) (⟨0, Nat.zero_le _, rfl, rfl, q_eq.rf M4⟩)
      intro n3 ls3 M5 hP3 ih3
      obtain ⟨i, hi, hn3, rfl, hq5⟩ := hP3
      refine ev_iload (i := 6) d_Mo_callGraphs_45 rfl rfl ?_
      refine ev_aload_n (i := 0) d_Mo_callGraphs_47 rfl rfl rfl ?_
      refine ev_getR d_Mo_callGraphs_48 rfl lk_Mo_22 lx_45 rfl ?_
      refine ev_aload_n (i := 0) d_Mo_callGraphs_51 rfl rfl rfl ?_
      refine ev_getR d_Mo_callGraphs_52 rfl lk_Mo_40 lx_45 rfl ?_
      refine ev_iload_n (i := 1) d_Mo_callGraphs_55 rfl rfl rfl ?_
      refine ev_iaload (z := (f : Int)) d_Mo_callGraphs_56 rfl lx_56 (by omega) (by omega) (((hq5 56 _ (by decide) (by decide) (by omega)).trans (hf4 56 _ (by decide) (by omega))).trans hf56) ?_
      refine ev_iaload (z := (w : Int)) d_Mo_callGraphs_57 rfl lx_50 (by omega) (by omega) (((hq5 50 _ (by decide) (by decide) (by omega)).trans (hf4 50 _ (by decide) (by omega))).trans hw50) ?_
      refine ev_icmp_ge (tgt := 113) d_Mo_callGraphs_58 (by decide) rfl (fun hz3 => ?_) (fun hz3 => ?_)
      · have eiw : i = w := by omega
        have hov : o_v (o_g M c u) = o_4 (o_dd M c u) (3 * i) := by
          rw [o_g_v]
          have h9 := o_4_gap (d := o_dd M c u) (3 * i) (9 - 3 * i) (fun p h1 h2 => by unfold o_dd; rw [hpw2 _ _ (by omega)]; rfl)
          rw [show 3 * i + (9 - 3 * i) = 9 by omega] at h9
          exact h9
        refine ev_aload_n (i := 0) d_Mo_callGraphs_113 rfl rfl rfl ?_
        refine ev_aload_n (i := 0) d_Mo_callGraphs_114 rfl rfl rfl ?_
        refine ev_getR d_Mo_callGraphs_115 rfl lk_Mo_40 lx_45 rfl ?_
        refine ev_iload_n (i := 1) d_Mo_callGraphs_118 rfl rfl rfl ?_
        refine ev_iaload (z := (f : Int)) d_Mo_callGraphs_119 rfl lx_56 (by omega) (by omega) (((hq5 56 _ (by decide) (by decide) (by omega)).trans (hf4 56 _ (by decide) (by omega))).trans hf56) ?_
        refine ev_iload (i := 4) d_Mo_callGraphs_120 rfl rfl ?_
        refine ev_iload (i := 5) d_Mo_callGraphs_122 rfl rfl ?_
        refine ev_callVR (As := [g_i ((f : Int)), g_i (g : Int), g_i ((o_4 (o_dd M c u) (3 * i) : Nat) : Int)]) d_Mo_callGraphs_124 rfl cl_Mo_205 (by rw [show (f : Int) = ((o_f (o_g M c u) : Nat) : Int) by rw [hof], show (g : Int) = ((o_t (o_g M c u) : Nat) : Int) by rw [hot], show ((o_4 (o_dd M c u) (3 * i) : Nat) : Int) = ((o_v (o_g M c u) : Nat) : Int) by rw [hov]]; exact c_Mo_addGraph (d + 5) M M5 (o_g M c u) l4 hP (o_M_q hM4 hq5) (o_R_0 hGu)) (g_hR (by decide)) g_h0 lx_45 rfl rfl (Nat.le_of_ble_eq_true rfl) rfl rfl (fun M8 v9 g9 => ?_)
        obtain ⟨rfl, hf8, e8, hM8, he8, hx8⟩ := g9
        have hf8b : f61 M M8 := (hf4.tr hq5.f61).tr hf8
        refine ev_iinc (z := ((k + 1 : Nat) : Int)) d_Mo_callGraphs_127 rfl rfl (by decide) (by rw [g_w_id (by unfold g_rg; omega)]; omega) rfl ?_
        refine ev_aload_n (i := 0) d_Mo_callGraphs_130 rfl rfl rfl ?_
        refine ev_iload_n (i := 1) d_Mo_callGraphs_131 rfl rfl rfl ?_
        refine ev_iload_n (i := 2) d_Mo_callGraphs_132 rfl rfl rfl ?_
        refine ev_callVR (As := [g_i (c : Int), g_i (((k + 1 : Nat) : Int))]) d_Mo_callGraphs_133 rfl cl_Mo_198 ((c_Mo_callOf (d + 3) M8 c b (k + 1) (q_T_cg hf8b.f0.e46 hf8b.f0.2.2.2.1 hT) c24 (by rw [hf8b.f0.e46 58 (by decide)]; exact hbb) (by rw [hf8b.f0.2.2.2.1]; exact hbt) (by omega))) (g_hR (by decide)) g_h0 lx_45 rfl rfl (Nat.le_of_ble_eq_true rfl) rfl rfl (fun M9 v9 g9 => ?_)
        obtain ⟨rfl, hq9⟩ := g9
        rw [hf8b.f0.e46 52 (by decide), q_pl_cg hf8b.f0.e46]
        refine ev_istore_n (i := 3) d_Mo_callGraphs_136 rfl rfl (by decide) rfl ?_
        refine ev_goto (tgt := 24) d_Mo_callGraphs_137 (by decide) ?_
        have hsub : ∀ y ∈ l4, y ∈ l4 ++ e8 := fun y hy => List.mem_append_left _ hy
        have hlen : (l4 ++ e8).length < 201 → l4.length < 201 := fun h9 => by rw [List.length_append] at h9; omega
        refine ev_le (ih2 ((k_c M b).length - (k + 1)) [some (g_r 45), some (g_i (c : Int)), some (g_i ((k + 1 : Nat) : Int)), some (g_i (q_call (M 52) (q_pl M b) (k + 1))), none, none, none, none] M9 (by omega) ⟨k + 1, l4 ++ e8, by omega, rfl, rfl, ((hf4.tr hq5.f61).tr hf8).tr hq9.f61, o_M_q hM8 hq9, fun y hy => (List.mem_append.mp hy).elim (hG4 y) (fun h9 => by rw [he8 y h9]; exact hGu), fun h9 s u9 hs hsu => ?_, fun h9 q u9 hq hu9 => hsub _ (hw4 (hlen h9) q u9 hq hu9)⟩) rfl ⟨rfl, rfl, rfl, rfl, trivial⟩
        by_cases hsk : s = k
        · subst hsk
          have eu : u9 = u := by rw [hu] at hsu; simpa using hsu.symm
          rw [eu]
          exact hx8.resolve_right (by omega)
        · exact hsub _ (hv4 (hlen h9) s u9 (by omega) hsu)
      · refine ev_iconst d_Mo_callGraphs_61 rfl ⟨by decide, by decide⟩ ?_
        refine ev_istore (i := 7) d_Mo_callGraphs_62 rfl (by decide) rfl ?_
        refine ev_wh (fun n4 ls4 M6 => ∃ j : Nat, j ≤ wu ∧ n4 = wu - j ∧ ls4 = [some (g_r 45), some (g_i (c : Int)), some (g_i (k : Int)), some (g_i (u : Int)), some (g_i (g : Int)), some (g_i ((o_4 (o_dd M c u) (3 * i + j) : Nat) : Int)), some (g_i ((i : Nat) : Int)), some (g_i ((j : Nat) : Int))] ∧ q_eq M4 M6) ?_ (n := wu) (⟨0, Nat.zero_le _, rfl, rfl, hq5⟩)
        intro n4 ls4 M6 hP4 ih4
        obtain ⟨j, hj, hn4, rfl, hq6⟩ := hP4
        refine ev_iload (i := 7) d_Mo_callGraphs_64 rfl rfl ?_
        refine ev_aload_n (i := 0) d_Mo_callGraphs_66 rfl rfl rfl ?_
        refine ev_getR d_Mo_callGraphs_67 rfl lk_Mo_22 lx_45 rfl ?_
        refine ev_iload (i := 4) d_Mo_callGraphs_70 rfl rfl ?_
        refine ev_iaload (z := (wu : Int)) d_Mo_callGraphs_72 rfl lx_50 (by omega) (by omega) (((hq6 50 _ (by decide) (by decide) (by omega)).trans (hf4 50 _ (by decide) (by omega))).trans hgw) ?_
        refine ev_icmp_ge (tgt := 107) d_Mo_callGraphs_73 (by decide) rfl (fun hz4 => ?_) (fun hz4 => ?_)
        · refine ev_iinc (z := ((i : Nat) : Int) + 1) d_Mo_callGraphs_107 rfl rfl (by decide) (g_w_id (by unfold g_rg; omega)) rfl ?_
          refine ev_goto (tgt := 45) d_Mo_callGraphs_110 (by decide) ?_
          have ej : j = wu := by omega
          subst ej
          exact ev_le (ih3 (w - (i + 1)) [some (g_r 45), some (g_i (c : Int)), some (g_i (k : Int)), some (g_i (u : Int)), some (g_i (g : Int)), some (g_i ((o_4 (o_dd M c u) (3 * (i + 1)) : Nat) : Int)), some (g_i ((i + 1 : Nat) : Int)), none] M6 (by omega) ⟨i + 1, by omega, rfl, rfl, hq6⟩) rfl ⟨rfl, rfl, rfl, rfl, rfl, congrArg (fun z => some (some (g_i z))) (by have h9 := o_4_gap (d := o_dd M c u) (3 * i + j) (3 - j) (fun p h1 h2 => by unfold o_dd; rw [hpu _ _ (by omega)]; rfl); rw [show 3 * i + j + (3 - j) = 3 * (i + 1) by omega] at h9; rw [h9]), rfl, trivial⟩
        · obtain ⟨p, hp1, hp21, hpt, hp54, hp55, hp16, hpn, hpl, -⟩ := hpat i (by omega)
          have hwj := w4 j (by omega)
          have hw53 := (hP.2.2.1.2.2.1 u ut).2.2.1 j (by omega)
          obtain ⟨y, hy53⟩ : ∃ y : Nat, M 53 (3 * u + j) = y := ⟨(M 53 (3 * u + j)).toNat, by omega⟩
          have hyt : (y : Int) < M 45 8 := by omega
          have hop : o_p M c u i j = z_arc M p y := by
            unfold o_p
            rw [if_pos ⟨by rw [hf56, Int.toNat_natCast, hw50]; omega, by rw [hug, hgw]; omega⟩, hp1, hy53, Int.toNat_natCast, Int.toNat_natCast]
          have hoin := o_p_in M c u i j
          have hdl := o_dd_le M c u (3 * i + j)
          have h4l := o_4_lt (o_dd_le M c u) (3 * i + j)
          have h4p : 4 ^ (3 * i + j) ≤ 4 ^ 8 := Nat.pow_le_pow_right (by decide) (by omega)
          have h4m := Nat.mul_le_mul hdl h4p
          refine ev_iload (i := 5) d_Mo_callGraphs_76 rfl rfl ?_
          refine ev_aload_n (i := 0) d_Mo_callGraphs_78 rfl rfl rfl ?_
          refine ev_iload_n (i := 1) d_Mo_callGraphs_79 rfl rfl rfl ?_
          refine ev_iload_n (i := 3) d_Mo_callGraphs_80 rfl rfl rfl ?_
          refine ev_iload (i := 6) d_Mo_callGraphs_81 rfl rfl ?_
          refine ev_iload (i := 7) d_Mo_callGraphs_83 rfl rfl ?_
          refine ev_callVR (As := [g_i (c : Int), g_i (u : Int), g_i ((i : Nat) : Int), g_i ((j : Nat) : Int)]) d_Mo_callGraphs_85 rfl cl_Mo_201 (c_Mo_arcOf (d + 1) M4 M6 c u i j p y hP4 hq6 c24 hu100 (by omega) (by omega) (by rw [hf4.f0.e46 57 (by decide)]; exact hp1) (by rw [hf4.f0.e46 53 (by decide)]; exact hy53) (by rw [hf4.f0.2.2.2.1]; exact hyt) (by rw [hf4.f0.2.2.2.1]; exact hpt) (by rw [hf4.f0.e46 54 (by decide)]; exact hp54)) (g_hR (by decide)) g_h0 lx_45 rfl rfl (Nat.le_of_ble_eq_true rfl) rfl rfl (fun M7 v9 g9 => ?_)
          obtain ⟨rfl, hq7⟩ := g9
          rw [z_arc_cg hf4.f0.e46, ← hop, show o_p M c u i j = ((o_dd M c u (3 * i + j) : Nat) : Int) from (by unfold o_dd; rw [show (3 * i + j) / 3 = i by omega, show (3 * i + j) % 3 = j by omega]; omega)]
          refine ev_iconst d_Mo_callGraphs_88 rfl ⟨by decide, by decide⟩ ?_
          refine ev_iconst d_Mo_callGraphs_89 rfl ⟨by decide, by decide⟩ ?_
          refine ev_iload (i := 6) d_Mo_callGraphs_90 rfl rfl ?_
          refine ev_imul (z := 3 * (i : Int)) d_Mo_callGraphs_92 rfl (g_w_id (by unfold g_rg; omega)) ?_
          refine ev_iload (i := 7) d_Mo_callGraphs_93 rfl rfl ?_
          refine ev_iadd (z := 3 * (i : Int) + (j : Int)) d_Mo_callGraphs_95 rfl (g_w_id (by unfold g_rg; omega)) ?_
          refine ev_imul (z := ((2 * (3 * i + j) : Nat) : Int)) d_Mo_callGraphs_96 rfl (by rw [g_w_id (by unfold g_rg; omega)]; omega) ?_
          refine ev_ishl (z := ((o_dd M c u (3 * i + j) * 4 ^ (3 * i + j) : Nat) : Int)) d_Mo_callGraphs_97 rfl (by rw [g_b_shl (by omega) (by rw [o_4p]; omega), o_4p]) ?_
          refine ev_ior (z := ((o_4 (o_dd M c u) (3 * i + (j + 1)) : Nat) : Int)) d_Mo_callGraphs_98 rfl (by rw [g_b_or (by omega) (by omega), o_4_or (o_dd_le M c u)]; rfl) ?_
          refine ev_istore (i := 5) d_Mo_callGraphs_99 rfl (by decide) rfl ?_
          refine ev_iinc (z := ((j : Nat) : Int) + 1) d_Mo_callGraphs_101 rfl rfl (by decide) (g_w_id (by unfold g_rg; omega)) rfl ?_
          refine ev_goto (tgt := 64) d_Mo_callGraphs_104 (by decide) ?_
          exact ev_le (ih4 (wu - (j + 1)) [some (g_r 45), some (g_i (c : Int)), some (g_i (k : Int)), some (g_i (u : Int)), some (g_i (g : Int)), some (g_i ((o_4 (o_dd M c u) (3 * i + (j + 1)) : Nat) : Int)), some (g_i ((i : Nat) : Int)), some (g_i ((j + 1 : Nat) : Int))] M7 (by omega) ⟨j + 1, by omega, rfl, rfl, hq7⟩) rfl ⟨rfl, rfl, rfl, rfl, rfl, rfl, rfl, rfl, trivial⟩
