theorem c_Mo_isTyped_e (d : Nat) {M M1 : g_M} (hT : q_T M) (he : e65 M M1) (t : Nat) (u : Int) (ht : (t : Int) < M 45 8) : ConR y_Mo_isTyped w_Mo_isTyped (g_rm (d + 2)) LX M1 [g_r 45, g_i (t : Int), g_i u, g_i 0] LX (fun M2 v2 => v2 = some (g_i (if q_t (zv M (M1 65)) t u = true then 1 else 0)) ∧ e65 M M2) := by
  have h8 : M1 45 8 = M 45 8 := he 45 8 (by decide) (by decide) (by decide) (by decide)
  refine (c_Mo_isTyped_0 d M1 t u (q_T_cg he.e46 h8 hT) (by rw [h8]; exact ht)).mono (fun M2 v2 h => ⟨?_, he.tr h.2.e65⟩)
  rw [h.1, q_t_cg (M := zv M (M1 65)) (M2 := M1) (fun k hk => ?_)]
  by_cases h65 : k = 65
  · subst h65
    rfl
  · rw [he.fn (by omega) (by omega) h65 (by omega)]
    show _ = (if k = 65 then _ else M k)
    rw [if_neg h65]
theorem c_Mo_allTyped (d : Nat) (M : g_M) (m : Nat) (hP : r_P M) (hm : M 45 13 = m) : ConR y_Mo_allTyped w_Mo_allTyped (g_rm (d + 3)) LX M [g_r 45] LX (fun M2 v2 => ∃ r : Int, v2 = some (g_i r) ∧ (r = 0 ∨ r = 1) ∧ e65 M M2 ∧ (r = 1 ↔ ∀ c : Nat, c < m → z_tc M c)) := by
  refine con_ofR (av := [g_r 45]) (ls0 := [some (g_r 45), none, none, none]) (by decide) rfl (Nat.le_of_ble_eq_true rfl) (g_hls (av := [g_r 45]) (k := 3)) (fun _ h9 => List.mem_cons_of_mem _ h9) ?_
  have hm24 : m ≤ 24 := by have := hP.2.2.2.2.2.1; omega
  refine ev_iconst d_Mo_allTyped_0 rfl ⟨by decide, by decide⟩ ?_
  refine ev_istore_n (i := 1) d_Mo_allTyped_1 rfl rfl (by decide) rfl ?_
  refine ev_wh (fun n ls1 M1 => ∃ c : Nat, c ≤ m ∧ n = m - c ∧ ls1 = [some (g_r 45), some (g_i (c : Int)), none, none] ∧ e65 M M1 ∧ ∀ j : Nat, j < c → z_tc M j) ?_ (n := m) (⟨0, Nat.zero_le _, rfl, rfl, e65.rf M, fun j hj => by omega⟩)
  intro n ls1 M1 hP0 ih
  obtain ⟨c, hc, hn, rfl, he1, hv⟩ := hP0
  refine ev_iload_n (i := 1) d_Mo_allTyped_2 rfl rfl rfl ?_
  refine ev_aload_n (i := 0) d_Mo_allTyped_3 rfl rfl rfl ?_
  refine ev_getI (z := (m : Int)) d_Mo_allTyped_4 rfl lk_Mo_166 lx_45 rfl ((he1 45 13 (by decide) (by decide) (by decide) (by decide)).trans hm) ?_
  refine ev_icmp_ge (tgt := 93) d_Mo_allTyped_7 (by decide) rfl (fun hz => ?_) (fun hz => ?_)
  · refine ev_iconst d_Mo_allTyped_93 rfl ⟨by decide, by decide⟩ ?_
    exact ev_retIR d_Mo_allTyped_94 (⟨1, rfl, Or.inr rfl, he1, ⟨fun _ j hj => hv j (by omega), fun _ => rfl⟩⟩) (Or.inr ⟨rfl, by omega⟩)
  · have hcm : (c : Int) < M 45 13 := by omega
    obtain ⟨f, w, b, c24, hf56, hf6, hfn, hf20, hw50, hw7, hw3, hbb, hb22, hbt, h49, hpat⟩ := r_cn hP hcm
    have hff : M 50 (M 56 c).toNat = w := by rw [hf56]; exact hw50
    refine ev_aload_n (i := 0) d_Mo_allTyped_10 rfl rfl rfl ?_
    refine ev_getR d_Mo_allTyped_11 rfl lk_Mo_40 lx_45 rfl ?_
    refine ev_iload_n (i := 1) d_Mo_allTyped_14 rfl rfl rfl ?_
    refine ev_iaload (z := (f : Int)) d_Mo_allTyped_15 rfl lx_56 (by omega) (by omega) ((he1 56 _ (by decide) (by decide) (by decide) (by omega)).trans hf56) ?_
    refine ev_istore_n (i := 2) d_Mo_allTyped_16 rfl rfl (by decide) rfl ?_
    refine ev_iconst d_Mo_allTyped_17 rfl ⟨by decide, by decide⟩ ?_
    refine ev_istore_n (i := 3) d_Mo_allTyped_18 rfl rfl (by decide) rfl ?_
    refine ev_wh (fun n2 ls2 M2 => ∃ k : Nat, k ≤ w ∧ n2 = w - k ∧ ls2 = [some (g_r 45), some (g_i (c : Int)), some (g_i (f : Int)), some (g_i (k : Int))] ∧ e65 M M2 ∧ ∀ j : Nat, j < k → q_t (zv M (M2 65)) (M 57 (3 * c + j)).toNat (M 51 (3 * (M 56 c).toNat + j)) = true) ?_ (n := w) (⟨0, Nat.zero_le _, rfl, rfl, he1, fun j hj => by omega⟩)
    intro n2 ls2 M2 hP2 ih2
    obtain ⟨k, hk, hn2, rfl, he2, hv2⟩ := hP2
    refine ev_iload_n (i := 3) d_Mo_allTyped_19 rfl rfl rfl ?_
    refine ev_aload_n (i := 0) d_Mo_allTyped_20 rfl rfl rfl ?_
    refine ev_getR d_Mo_allTyped_21 rfl lk_Mo_22 lx_45 rfl ?_
    refine ev_iload_n (i := 2) d_Mo_allTyped_24 rfl rfl rfl ?_
    refine ev_iaload (z := (w : Int)) d_Mo_allTyped_25 rfl lx_50 (by omega) (by omega) ((he2 50 _ (by decide) (by decide) (by decide) (by omega)).trans hw50) ?_
    refine ev_icmp_ge (tgt := 65) d_Mo_allTyped_26 (by decide) rfl (fun hz2 => ?_) (fun hz2 => ?_)
    · refine ev_aload_n (i := 0) d_Mo_allTyped_65 rfl rfl rfl ?_
      refine ev_aload_n (i := 0) d_Mo_allTyped_66 rfl rfl rfl ?_
      refine ev_getR d_Mo_allTyped_67 rfl lk_Mo_46 lx_45 rfl ?_
      refine ev_iload_n (i := 1) d_Mo_allTyped_70 rfl rfl rfl ?_
      refine ev_iaload (z := (b : Int)) d_Mo_allTyped_71 rfl lx_58 (by omega) (by omega) ((he2 58 _ (by decide) (by decide) (by decide) (by omega)).trans hbb) ?_
      refine ev_aload_n (i := 0) d_Mo_allTyped_72 rfl rfl rfl ?_
      refine ev_getR d_Mo_allTyped_73 rfl lk_Mo_19 lx_45 rfl ?_
      refine ev_iload_n (i := 2) d_Mo_allTyped_76 rfl rfl rfl ?_
      refine ev_iaload (z := M 49 f) d_Mo_allTyped_77 rfl lx_49 (by omega) (by omega) (he2 49 _ (by decide) (by decide) (by decide) (by omega)) ?_
      refine ev_iconst d_Mo_allTyped_78 rfl ⟨by decide, by decide⟩ ?_
      refine ev_callVR (As := [g_i ((b : Int)), g_i (M 49 f), g_i 0]) d_Mo_allTyped_79 rfl cl_Mo_169 (c_Mo_isTyped_e (d + 0) hP.2.2.1.2.1 he2 b (M 49 f) hbt) (g_hR (by decide)) g_h0 lx_45 rfl rfl (Nat.le_of_ble_eq_true rfl) rfl rfl (fun M4 v9 g9 => ?_)
      obtain ⟨rfl, he4⟩ := g9
      refine ev_bne (tgt := 87) d_Mo_allTyped_82 (by decide) rfl (fun c5 => ?_) (fun c5 => ?_)
      · refine ev_iinc (z := (c : Int) + 1) d_Mo_allTyped_87 rfl rfl (by decide) (g_w_id (by unfold g_rg; omega)) rfl ?_
        refine ev_goto (tgt := 2) d_Mo_allTyped_90 (by decide) ?_
        exact ev_le (ih (m - (c + 1)) [some (g_r 45), some (g_i ((c + 1 : Nat) : Int)), none, none] M4 (by omega) ⟨c + 1, by omega, rfl, rfl, he4, fun j hj => by by_cases hjc : j = c; exact hjc ▸ (zt_end hP hcm (V := M2 65) (fun j hj => hv2 j (by rw [hff] at hj; omega))).mp (by rw [hbb, hf56, Int.toNat_natCast, Int.toNat_natCast]; exact c5); exact hv j (by omega)⟩) rfl ⟨rfl, rfl, trivial⟩
      · refine ev_iconst d_Mo_allTyped_85 rfl ⟨by decide, by decide⟩ ?_
        exact ev_retIR d_Mo_allTyped_86 (⟨0, rfl, Or.inl rfl, he4, ⟨fun h9 => absurd h9 (by decide), fun h9 => absurd ((zt_end hP hcm (V := M2 65) (fun j hj => hv2 j (by rw [hff] at hj; omega))).mpr (h9 c (by omega))) (by rw [hbb, hf56, Int.toNat_natCast, Int.toNat_natCast]; exact c5)⟩⟩) (Or.inr ⟨rfl, by omega⟩)
    · obtain ⟨p, hp1, hp21, hpt, hp54, hp55, hp16, hpn, hpl, -⟩ := hpat k (by omega)
      refine ev_aload_n (i := 0) d_Mo_allTyped_29 rfl rfl rfl ?_
      refine ev_aload_n (i := 0) d_Mo_allTyped_30 rfl rfl rfl ?_
      refine ev_getR d_Mo_allTyped_31 rfl lk_Mo_43 lx_45 rfl ?_
      refine ev_iconst d_Mo_allTyped_34 rfl ⟨by decide, by decide⟩ ?_
      refine ev_iload_n (i := 1) d_Mo_allTyped_35 rfl rfl rfl ?_
      refine ev_imul (z := 3 * (c : Int)) d_Mo_allTyped_36 rfl (g_w_id (by unfold g_rg; omega)) ?_
      refine ev_iload_n (i := 3) d_Mo_allTyped_37 rfl rfl rfl ?_
      refine ev_iadd (z := 3 * (c : Int) + (k : Int)) d_Mo_allTyped_38 rfl (g_w_id (by unfold g_rg; omega)) ?_
      refine ev_iaload (z := (p : Int)) d_Mo_allTyped_39 rfl lx_57 (by omega) (by omega) (by rw [show (3 * (c : Int) + (k : Int)).toNat = 3 * c + k by omega]; exact (he2 57 _ (by decide) (by decide) (by decide) (by omega)).trans hp1) ?_
      refine ev_aload_n (i := 0) d_Mo_allTyped_40 rfl rfl rfl ?_
      refine ev_getR d_Mo_allTyped_41 rfl lk_Mo_25 lx_45 rfl ?_
      refine ev_iconst d_Mo_allTyped_44 rfl ⟨by decide, by decide⟩ ?_
      refine ev_iload_n (i := 2) d_Mo_allTyped_45 rfl rfl rfl ?_
      refine ev_imul (z := 3 * (f : Int)) d_Mo_allTyped_46 rfl (g_w_id (by unfold g_rg; omega)) ?_
      refine ev_iload_n (i := 3) d_Mo_allTyped_47 rfl rfl rfl ?_
      refine ev_iadd (z := 3 * (f : Int) + (k : Int)) d_Mo_allTyped_48 rfl (g_w_id (by unfold g_rg; omega)) ?_
      refine ev_iaload (z := M 51 (3 * f + k)) d_Mo_allTyped_49 rfl lx_51 (by omega) (by omega) (by rw [show (3 * (f : Int) + (k : Int)).toNat = 3 * f + k by omega]; exact he2 51 _ (by decide) (by decide) (by decide) (by omega)) ?_
      refine ev_iconst d_Mo_allTyped_50 rfl ⟨by decide, by decide⟩ ?_
      refine ev_callVR (As := [g_i ((p : Int)), g_i (M 51 (3 * f + k)), g_i 1]) d_Mo_allTyped_51 rfl cl_Mo_169 (c_Mo_isTyped_1 (d + 0) M M2 p (M 51 (3 * f + k)) hP.2.2.1.2.1 he2 hpt hpn) (g_hR (by decide)) g_h0 lx_45 rfl rfl (Nat.le_of_ble_eq_true rfl) rfl rfl (fun M3 v9 g9 => ?_)
      obtain ⟨r3, rfl, hr3, he3, hJ, hN⟩ := g9
      refine ev_if_ne (tgt := 59) d_Mo_allTyped_54 (by decide) rfl (fun c2 => ?_) (fun c2 => ?_)
      · refine ev_iinc (z := (k : Int) + 1) d_Mo_allTyped_59 rfl rfl (by decide) (g_w_id (by unfold g_rg; omega)) rfl ?_
        refine ev_goto (tgt := 19) d_Mo_allTyped_62 (by decide) ?_
        refine ev_le (ih2 (w - (k + 1)) [some (g_r 45), some (g_i (c : Int)), some (g_i (f : Int)), some (g_i ((k + 1 : Nat) : Int))] M3 (by omega) ⟨k + 1, by omega, rfl, rfl, he3, fun j hj => ?_⟩) rfl ⟨rfl, rfl, rfl, rfl, trivial⟩
        obtain ⟨j1, j2⟩ := hJ (by omega)
        by_cases hjk : j = k
        · subst hjk; rw [hp1, hf56, Int.toNat_natCast, Int.toNat_natCast]; exact j1
        · exact zt_keep hP hcm (by rw [hff]; omega) hv2 (by rw [hp1, Int.toNat_natCast]; exact j2) j (by omega)
      · refine ev_iconst d_Mo_allTyped_57 rfl ⟨by decide, by decide⟩ ?_
        exact ev_retIR d_Mo_allTyped_58 (⟨0, rfl, Or.inl rfl, he3, ⟨fun h9 => absurd h9 (by decide), fun h9 => absurd (h9 c (by omega)) (zt_no (k := k) (by rw [hff]; omega) (by rw [hp1, hf56, Int.toNat_natCast, Int.toNat_natCast]; exact hN c2))⟩⟩) (Or.inr ⟨rfl, by omega⟩)
