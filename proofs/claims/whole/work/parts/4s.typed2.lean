theorem c_Ty_isPatternOfType_u {M : g_M} (hP : r_P M) (t d : Nat) (y : Int) (M0 : g_M) (he : e26 M M0) (ht : (t : Int) < M 45 8) (hnd : (v_l M t).Nodup) (hno : ∀ u ∈ q_pl M t, M 52 u < 16) : ConR y_Ty_isPatternOfType w_Ty_isPatternOfType (g_rm (d + 101)) LX M0 [g_r 25, g_i (t : Int), g_i y] LX
    (fun M2 v2 => ∃ r : Int, v2 = some (g_i r) ∧ (r = 0 ∨ r = 1) ∧ e26 M M2 ∧ (r = 1 → q_t (zv M (M2 26)) t y = true ∧ ∀ v : Nat, v ∉ v_l M t → M2 26 v = M0 26 v) ∧ (r = 0 → ∀ V : Nat → Int, ¬ q_t (zv M V) t y = true)) := by
  have hnt := hP.2.2.1.2.1.2.1
  have h := c_Ty_isPatternOfType hP t (d + (100 - t)) y M0 he ht hnd hno
  rw [show d + (100 - t) + t + 1 = d + 101 by omega] at h
  exact h
theorem r_fr_26 {M M1 : g_M} (h : e26 M M1) : r_fr M M1 := ⟨fun k hk => h.fn (by omega), h 34 11 (by decide), h 34 14 (by decide), fun y _ _ _ _ _ _ => h 45 y (by decide)⟩
theorem c_Ty_isOfType_e {M : g_M} (hP : r_P M) (t d : Nat) (y : Int) (M1 : g_M) (he : e26 M M1) (ht : (t : Int) < M 45 8) : Con y_Ty_isOfType w_Ty_isOfType (g_rm (d + 101)) LX M1 [g_r 25, g_i (t : Int), g_i y] LX M1 (some (g_i (if q_t (zv M (M1 26)) t y = true then 1 else 0))) := by
  refine (c_Ty_isOfType_u (r_P_fr hP (r_fr_26 he)) t d y (by rw [he.fn (k := 45) (by decide)]; exact ht)).eqr ?_
  rw [q_t_cg (M := zv M (M1 26)) (M2 := z_V M1) (fun k hk => ?_)]
  by_cases h65 : k = 65
  · subst h65
    rfl
  · rw [z_V_ne h65, he.fn (by omega)]
    show _ = (if k = 65 then _ else M k)
    rw [if_neg h65]
/-- what is known of a clause, in numbers -/
theorem r_cn {M : g_M} (hP : r_P M) {c : Nat} (hc : (c : Int) < M 45 13) : ∃ f w b : Nat, c < 24 ∧ M 56 c = f ∧ f < 6 ∧ (f : Int) < M 45 4 ∧ M 20 c = f ∧ M 50 f = w ∧ M 7 f = w ∧ w ≤ 3 ∧ M 58 c = b ∧ M 22 c = b ∧ (b : Int) < M 45 8 ∧ M 6 f = M 49 f ∧
    ∀ i : Nat, i < w → ∃ p : Nat, M 57 (3 * c + i) = p ∧ M 21 (3 * c + i) = p ∧ (p : Int) < M 45 8 ∧ M 54 p ≤ 2 ∧ M 55 p ≤ 8 ∧ (∀ u ∈ q_pl M p, M 52 u < 16) ∧ (v_l M p).Nodup ∧ M 8 (3 * f + i) = M 51 (3 * f + i) ∧ 0 ≤ M 51 (3 * f + i) ∧ M 51 (3 * f + i) < 3 := by
  obtain ⟨l1, l2, l3, l4, -⟩ := hP.2.2.2
  obtain ⟨c1, c2, c3, c4, c5, c6, c7, c8, c9⟩ := l4 c hc
  have hf6 := hP.2.1.2.2.2.1
  obtain ⟨f, hf⟩ : ∃ f : Nat, M 56 c = f := ⟨(M 56 c).toNat, by omega⟩
  have hfn : (f : Int) < M 45 4 := by omega
  obtain ⟨s1, s2, s3, s4, s5⟩ := hP.2.1.2.2.2.2 f hfn
  rw [hf, Int.toNat_natCast] at c7 c8
  refine ⟨f, (M 50 f).toNat, (M 58 c).toNat, by omega, hf, by omega, hfn, by omega, by omega, by omega, by omega, by omega, by omega, by omega, s1, fun i hi => ?_⟩
  obtain ⟨d1, d2, d3, d4, d5, d6⟩ := c7 i (by omega)
  obtain ⟨p, hp⟩ : ∃ p : Nat, M 57 (3 * c + i) = p := ⟨(M 57 (3 * c + i)).toNat, by omega⟩
  rw [hp, Int.toNat_natCast] at d4 d5 d6
  refine ⟨p, hp, by omega, by omega, d4, d5, d6, ?_, s5 i (by omega)⟩
  have e : v_p M (M 57 (3 * c)) (M 57 (3 * c + 1)) (M 57 (3 * c + 2)) (M 50 f).toNat = (List.range (M 50 f).toNat).flatMap (fun i => v_l M (j_pk (M 57 (3 * c)) (M 57 (3 * c + 1)) (M 57 (3 * c + 2)) i).toNat) := by
    rw [v_p_fl, List.flatMap_map]
  rw [e] at c8
  have := (z_fl_dj _ c8).1 i hi
  rwa [j_pk_57 M c i (by omega), hp, Int.toNat_natCast] at this
theorem c_Ty_isTyped (d : Nat) (M : g_M) (M0 : g_M) (c : Nat) (hP : r_P M) (he : e26 M M0) (hc : (c : Int) < M 45 13) : ConR y_Ty_isTyped w_Ty_isTyped (g_rm (d + 102)) LX M0 [g_r 25, g_i (c : Int)] LX (fun M2 v2 => ∃ r : Int, v2 = some (g_i r) ∧ (r = 0 ∨ r = 1) ∧ e26 M M2 ∧ (r = 1 ↔ z_tc M c)) := by
  refine con_ofR (av := [g_r 25, g_i (c : Int)]) (ls0 := [some (g_r 25), some (g_i (c : Int)), none, none]) (by decide) rfl (Nat.le_of_ble_eq_true rfl) (g_hls (av := [g_r 25, g_i (c : Int)]) (k := 2)) (fun _ h9 => List.mem_cons_of_mem _ h9) ?_
  obtain ⟨f, w, b, c24, hf56, hf6, hfn, hf20, hw50, hw7, hw3, hbb, hb22, hbt, h49, hpat⟩ := r_cn hP hc
  have hff : M 50 (M 56 c).toNat = w := by rw [hf56]; exact hw50
  refine ev_aload_n (i := 0) d_Ty_isTyped_0 rfl rfl rfl ?_
  refine ev_getR d_Ty_isTyped_1 rfl lk_Ty_22 lx_25 rfl ?_
  refine ev_iload_n (i := 1) d_Ty_isTyped_4 rfl rfl rfl ?_
  refine ev_callV (As := [g_i (c : Int)]) d_Ty_isTyped_5 rfl cl_Ty_56 ((c_Cl_owner (d + 101) M0 c c24).eqr (b := (f : Int)) (by rw [he.fn (k := 20) (by decide)]; exact hf20)) (g_hR (by decide)) g_h0 lx_19 rfl rfl (Nat.le_of_ble_eq_true rfl) rfl rfl ?_
  refine ev_istore_n (i := 2) d_Ty_isTyped_8 rfl rfl (by decide) rfl ?_
  refine ev_iconst d_Ty_isTyped_9 rfl ⟨by decide, by decide⟩ ?_
  refine ev_istore_n (i := 3) d_Ty_isTyped_10 rfl rfl (by decide) rfl ?_
  refine ev_wh (fun n ls1 M1 => ∃ i : Nat, i ≤ w ∧ n = w - i ∧ ls1 = [some (g_r 25), some (g_i (c : Int)), some (g_i (f : Int)), some (g_i (i : Int))] ∧ e26 M M1 ∧ ∀ j : Nat, j < i → q_t (zv M (M1 26)) (M 57 (3 * c + j)).toNat (M 51 (3 * (M 56 c).toNat + j)) = true) ?_ (n := w) (⟨0, Nat.zero_le _, rfl, rfl, he, fun j hj => by omega⟩)
  intro n ls1 M1 hP0 ih
  obtain ⟨i, hi, hn, rfl, he1, hv⟩ := hP0
  refine ev_iload_n (i := 3) d_Ty_isTyped_11 rfl rfl rfl ?_
  refine ev_aload_n (i := 0) d_Ty_isTyped_12 rfl rfl rfl ?_
  refine ev_getR d_Ty_isTyped_13 rfl lk_Ty_15 lx_25 rfl ?_
  refine ev_iload_n (i := 2) d_Ty_isTyped_16 rfl rfl rfl ?_
  refine ev_callV (As := [g_i (f : Int)]) d_Ty_isTyped_17 rfl cl_Ty_59 ((c_Sg_width_f (d + 101) M1 f hf6).eqr (b := (w : Int)) (by rw [he1.fn (k := 7) (by decide)]; exact hw7)) (g_hR (by decide)) g_h0 lx_5 rfl rfl (Nat.le_of_ble_eq_true rfl) rfl rfl ?_
  refine ev_icmp_ge (tgt := 56) d_Ty_isTyped_20 (by decide) rfl (fun hz => ?_) (fun hz => ?_)
  · refine ev_aload_n (i := 0) d_Ty_isTyped_56 rfl rfl rfl ?_
    refine ev_aload_n (i := 0) d_Ty_isTyped_57 rfl rfl rfl ?_
    refine ev_getR d_Ty_isTyped_58 rfl lk_Ty_22 lx_25 rfl ?_
    refine ev_iload_n (i := 1) d_Ty_isTyped_61 rfl rfl rfl ?_
    refine ev_callV (As := [g_i (c : Int)]) d_Ty_isTyped_62 rfl cl_Ty_73 ((c_Cl_body (d + 101) M1 c c24).eqr (b := (b : Int)) (by rw [he1.fn (k := 22) (by decide)]; exact hb22)) (g_hR (by decide)) g_h0 lx_19 rfl rfl (Nat.le_of_ble_eq_true rfl) rfl rfl ?_
    refine ev_aload_n (i := 0) d_Ty_isTyped_65 rfl rfl rfl ?_
    refine ev_getR d_Ty_isTyped_66 rfl lk_Ty_15 lx_25 rfl ?_
    refine ev_iload_n (i := 2) d_Ty_isTyped_69 rfl rfl rfl ?_
    refine ev_callV (As := [g_i (f : Int)]) d_Ty_isTyped_70 rfl cl_Ty_46 ((c_Sg_type_f (d + 101) M1 f hf6).eqr (b := (M 49 f)) ((he1 6 _ (by decide)).trans h49)) (g_hR (by decide)) g_h0 lx_5 rfl rfl (Nat.le_of_ble_eq_true rfl) rfl rfl ?_
    refine ev_callV (As := [g_i (b : Int), g_i (M 49 f)]) d_Ty_isTyped_73 rfl cl_Ty_76 (c_Ty_isOfType_e hP b d (M 49 f) M1 he1 hbt) (g_hR (by decide)) g_h0 lx_25 rfl rfl (Nat.le_of_ble_eq_true rfl) rfl rfl ?_
    exact ev_retIR d_Ty_isTyped_76 (⟨_, rfl, by split <;> simp, he1, by have e : i = w := (by omega); subst e; rw [← zt_end hP hc (V := M1 26) (fun j hj => hv j (by rw [hff] at hj; omega)), hbb, hf56, Int.toNat_natCast, Int.toNat_natCast]; split <;> simp_all⟩) (Or.inr ⟨rfl, by split <;> simp⟩)
  · obtain ⟨p, hp1, hp21, hpt, hp54, hp55, hp16, hpn, hpl, -⟩ := hpat i (by omega)
    refine ev_aload_n (i := 0) d_Ty_isTyped_23 rfl rfl rfl ?_
    refine ev_aload_n (i := 0) d_Ty_isTyped_24 rfl rfl rfl ?_
    refine ev_getR d_Ty_isTyped_25 rfl lk_Ty_22 lx_25 rfl ?_
    refine ev_iload_n (i := 1) d_Ty_isTyped_28 rfl rfl rfl ?_
    refine ev_iload_n (i := 3) d_Ty_isTyped_29 rfl rfl rfl ?_
    refine ev_callV (As := [g_i (c : Int), g_i (i : Int)]) d_Ty_isTyped_30 rfl cl_Ty_62 ((c_Cl_pattern (d + 101) M1 c i c24 (by omega)).eqr (b := (p : Int)) (by rw [he1.fn (k := 21) (by decide)]; exact hp21)) (g_hR (by decide)) g_h0 lx_19 rfl rfl (Nat.le_of_ble_eq_true rfl) rfl rfl ?_
    refine ev_aload_n (i := 0) d_Ty_isTyped_33 rfl rfl rfl ?_
    refine ev_getR d_Ty_isTyped_34 rfl lk_Ty_15 lx_25 rfl ?_
    refine ev_iload_n (i := 2) d_Ty_isTyped_37 rfl rfl rfl ?_
    refine ev_iload_n (i := 3) d_Ty_isTyped_38 rfl rfl rfl ?_
    refine ev_callV (As := [g_i (f : Int), g_i (i : Int)]) d_Ty_isTyped_39 rfl cl_Ty_66 ((c_Sg_placeType_f (d + 101) M1 f i hf6 (by omega)).eqr (b := (M 51 (3 * f + i))) ((he1 8 _ (by decide)).trans hpl)) (g_hR (by decide)) g_h0 lx_5 rfl rfl (Nat.le_of_ble_eq_true rfl) rfl rfl ?_
    refine ev_callVR (As := [g_i (p : Int), g_i (M 51 (3 * f + i))]) d_Ty_isTyped_42 rfl cl_Ty_69 (c_Ty_isPatternOfType_u hP p d (M 51 (3 * f + i)) M1 he1 hpt hpn hp16) (g_hR (by decide)) g_h0 lx_25 rfl rfl (Nat.le_of_ble_eq_true rfl) rfl rfl (fun M3 v9 g9 => ?_)
    obtain ⟨r3, rfl, hr3, he3, hJ, hN⟩ := g9
    refine ev_if_ne (tgt := 50) d_Ty_isTyped_45 (by decide) rfl (fun c2 => ?_) (fun c2 => ?_)
    · refine ev_iinc (z := (i : Int) + 1) d_Ty_isTyped_50 rfl rfl (by decide) (g_w_id (by unfold g_rg; omega)) rfl ?_
      refine ev_goto (tgt := 11) d_Ty_isTyped_53 (by decide) ?_
      refine ev_le (ih (w - (i + 1)) [some (g_r 25), some (g_i (c : Int)), some (g_i (f : Int)), some (g_i ((i + 1 : Nat) : Int))] M3 (by omega) ⟨i + 1, by omega, rfl, rfl, he3, fun j hj => ?_⟩) rfl ⟨rfl, rfl, rfl, rfl, trivial⟩
      obtain ⟨j1, j2⟩ := hJ (by omega)
      by_cases hji : j = i
      · subst hji; rw [hp1, hf56, Int.toNat_natCast, Int.toNat_natCast]; exact j1
      · exact zt_keep hP hc (by rw [hff]; omega) hv (by rw [hp1, Int.toNat_natCast]; exact j2) j (by omega)
    · refine ev_iconst d_Ty_isTyped_48 rfl ⟨by decide, by decide⟩ ?_
      exact ev_retIR d_Ty_isTyped_49 (⟨0, rfl, Or.inl rfl, he3, ⟨fun h9 => absurd h9 (by decide), fun h9 => absurd h9 (zt_no (k := i) (by rw [hff]; omega) (by rw [hp1, hf56, Int.toNat_natCast, Int.toNat_natCast]; exact hN c2))⟩⟩) (Or.inr ⟨rfl, by omega⟩)
theorem c_Ty_allTyped (d : Nat) (M : g_M) (m : Nat) (hP : r_P M) (hm : M 19 7 = m) (hm2 : M 45 13 = m) : ConR y_Ty_allTyped w_Ty_allTyped (g_rm (d + 103)) LX M [g_r 25] LX (fun M2 v2 => ∃ r : Int, v2 = some (g_i r) ∧ (r = 0 ∨ r = 1) ∧ e26 M M2 ∧ (r = 1 ↔ ∀ c : Nat, c < m → z_tc M c)) := by
  refine con_ofR (av := [g_r 25]) (ls0 := [some (g_r 25), none]) (by decide) rfl (Nat.le_of_ble_eq_true rfl) (g_hls (av := [g_r 25]) (k := 1)) (fun _ h9 => List.mem_cons_of_mem _ h9) ?_
  have hm24 : m ≤ 24 := by have := hP.2.2.2.2.2.1; omega
  refine ev_iconst d_Ty_allTyped_0 rfl ⟨by decide, by decide⟩ ?_
  refine ev_istore_n (i := 1) d_Ty_allTyped_1 rfl rfl (by decide) rfl ?_
  refine ev_wh (fun n ls1 M1 => ∃ c : Nat, c ≤ m ∧ n = m - c ∧ ls1 = [some (g_r 25), some (g_i (c : Int))] ∧ e26 M M1 ∧ ∀ j : Nat, j < c → z_tc M j) ?_ (n := m) (⟨0, Nat.zero_le _, rfl, rfl, e26.rf M, fun j hj => by omega⟩)
  intro n ls1 M1 hP0 ih
  obtain ⟨c, hc, hn, rfl, he1, hv⟩ := hP0
  refine ev_iload_n (i := 1) d_Ty_allTyped_2 rfl rfl rfl ?_
  refine ev_aload_n (i := 0) d_Ty_allTyped_3 rfl rfl rfl ?_
  refine ev_getR d_Ty_allTyped_4 rfl lk_Ty_22 lx_25 rfl ?_
  refine ev_callV (As := []) d_Ty_allTyped_7 rfl cl_Ty_49 ((c_Cl_howMany (d + 102) M1).eqr (b := (m : Int)) ((he1 19 _ (by decide)).trans hm)) (g_hR (by decide)) g_h0 lx_19 rfl rfl (Nat.le_of_ble_eq_true rfl) rfl rfl ?_
  refine ev_icmp_ge (tgt := 29) d_Ty_allTyped_10 (by decide) rfl (fun hz => ?_) (fun hz => ?_)
  · refine ev_iconst d_Ty_allTyped_29 rfl ⟨by decide, by decide⟩ ?_
    exact ev_retIR d_Ty_allTyped_30 (⟨1, rfl, Or.inr rfl, he1, ⟨fun _ j hj => hv j (by omega), fun _ => rfl⟩⟩) (Or.inr ⟨rfl, by omega⟩)
  · refine ev_aload_n (i := 0) d_Ty_allTyped_13 rfl rfl rfl ?_
    refine ev_iload_n (i := 1) d_Ty_allTyped_14 rfl rfl rfl ?_
    refine ev_callVR (As := [g_i (c : Int)]) d_Ty_allTyped_15 rfl cl_Ty_52 (c_Ty_isTyped (d + 0) M M1 c hP he1 (by omega)) (g_hR (by decide)) g_h0 lx_25 rfl rfl (Nat.le_of_ble_eq_true rfl) rfl rfl (fun M3 v9 g9 => ?_)
    obtain ⟨r3, rfl, hr3, he3, hiff⟩ := g9
    refine ev_if_ne (tgt := 23) d_Ty_allTyped_18 (by decide) rfl (fun c2 => ?_) (fun c2 => ?_)
    · refine ev_iinc (z := (c : Int) + 1) d_Ty_allTyped_23 rfl rfl (by decide) (g_w_id (by unfold g_rg; omega)) rfl ?_
      refine ev_goto (tgt := 2) d_Ty_allTyped_26 (by decide) ?_
      exact ev_le (ih (m - (c + 1)) [some (g_r 25), some (g_i ((c + 1 : Nat) : Int))] M3 (by omega) ⟨c + 1, by omega, rfl, rfl, he3, fun j hj => by by_cases hjc : j = c; exact hjc ▸ hiff.mp (by omega); exact hv j (by omega)⟩) rfl ⟨rfl, rfl, trivial⟩
    · refine ev_iconst d_Ty_allTyped_21 rfl ⟨by decide, by decide⟩ ?_
      exact ev_retIR d_Ty_allTyped_22 (⟨0, rfl, Or.inl rfl, he3, ⟨fun h9 => absurd h9 (by decide), fun h9 => absurd (hiff.mpr (h9 c (by omega))) (by omega)⟩⟩) (Or.inr ⟨rfl, by omega⟩)
