theorem o_D_0 {M M1 : g_M} (h6 : M1 30 6 = 0) (h7 : M1 30 7 = 0) (ht : ∀ q : Nat, q < 512 → M1 33 q = -1) : o_D M M1 [] :=
  ⟨⟨Nat.zero_le _, List.nodup_nil, fun x hx => by simp at hx, fun i x hx => by simp at hx, by rw [h6]; rfl, ⟨[], rfl, fun q hq h9 => absurd (ht q hq) h9⟩, fun q hq => Or.inl (ht q hq), fun x hx => by simp at hx⟩, fun x hx => by simp at hx, Or.inl h7⟩
theorem o_G_of {M : g_M} {c b u : Nat} (hc : (c : Int) < M 45 13) (hb : M 58 c = b) (hu : u ∈ k_c M b) : o_G M (o_g M c u) := ⟨c, u, hc, by rw [hb, Int.toNat_natCast]; exact hu, rfl⟩
theorem c_En_makeGraphs (d : Nat) (M : g_M) (m : Nat) (hP : r_P M) (hm19 : M 19 7 = m) (hm : M 45 13 = m) : ConR y_En_makeGraphs w_En_makeGraphs (g_rm (d + 205)) LX M [g_r 30] LX (fun M2 v2 => ∃ r : Int, v2 = some (g_i r) ∧ g3 M M2 ∧ ∃ l : List Nat, o_D M M2 l ∧ (M2 30 7 = 0 → ∀ x, o_R M x → x ∈ l) ∧ l.length ≤ 200 ∧ ((M2 30 7 = 0 ∧ r = l.length) ∨ (M2 30 7 = 1 ∧ r = 201))) := by
  refine con_ofR (av := [g_r 30]) (ls0 := [some (g_r 30), none, none]) (by decide) rfl (Nat.le_of_ble_eq_true rfl) (g_hls (av := [g_r 30]) (k := 2)) (fun _ h9 => List.mem_cons_of_mem _ h9) ?_
  have hm24 : m ≤ 24 := by have := hP.2.2.2.2.2.1; omega
  refine ev_aload_n (i := 0) d_En_makeGraphs_0 rfl rfl rfl ?_
  refine ev_iconst d_En_makeGraphs_1 rfl ⟨by decide, by decide⟩ ?_
  refine ev_putI d_En_makeGraphs_2 rfl lk_En_79 fp_En_6 (Or.inl rfl) lx_30 rfl ?_
  refine ev_aload_n (i := 0) d_En_makeGraphs_5 rfl rfl rfl ?_
  refine ev_iconst d_En_makeGraphs_6 rfl ⟨by decide, by decide⟩ ?_
  refine ev_putI d_En_makeGraphs_7 rfl lk_En_82 fp_En_7 (Or.inr ⟨rfl, by omega⟩) lx_30 rfl ?_
  refine ev_iconst d_En_makeGraphs_10 rfl ⟨by decide, by decide⟩ ?_
  refine ev_istore_n (i := 1) d_En_makeGraphs_11 rfl rfl (by decide) rfl ?_
  refine ev_wh (fun n ls1 M1 => ∃ q : Nat, q ≤ 512 ∧ n = 512 - q ∧ ls1 = [some (g_r 30), some (g_i (q : Int)), none] ∧ g3 M M1 ∧ M1 30 6 = 0 ∧ M1 30 7 = 0 ∧ ∀ j : Nat, j < q → M1 33 j = -1) ?_ (n := 512) (⟨0, Nat.zero_le _, rfl, rfl, fun k b hk => by simp only [g_up]; rw [if_neg (by omega), if_neg (by omega)], by simp [g_up], by simp [g_up], fun j hj => by omega⟩)
  intro n ls1 M1 hP0 ih
  obtain ⟨q, hq, hn, rfl, hg1, h16, h17, h133⟩ := hP0
  refine ev_iload_n (i := 1) d_En_makeGraphs_12 rfl rfl rfl ?_
  refine ev_sipush d_En_makeGraphs_13 rfl (by decide +kernel) ⟨by decide, by decide⟩ ?_
  refine ev_icmp_ge (tgt := 32) d_En_makeGraphs_16 (by decide) rfl (fun hz0 => ?_) (fun hz0 => ?_)
  · refine ev_iconst d_En_makeGraphs_32 rfl ⟨by decide, by decide⟩ ?_
    refine ev_istore_n (i := 1) d_En_makeGraphs_33 rfl rfl (by decide) rfl ?_
    refine ev_wh (fun n2 ls2 M2 => ∃ (c : Nat) (l : List Nat), c ≤ m ∧ n2 = m - c ∧ ls2 = [some (g_r 30), some (g_i (c : Int)), none] ∧ g3 M M2 ∧ o_D M M2 l ∧ (∀ x ∈ l, o_G M x) ∧ (M2 30 7 = 0 → ∀ q u : Nat, q < c → u ∈ k_c M (M 58 q).toNat → o_g M q u ∈ l)) ?_ (n := m) (⟨0, [], Nat.zero_le _, rfl, rfl, hg1, o_D_0 h16 h17 (fun q9 hq9 => h133 q9 (by omega)), fun x hx => by simp at hx, fun _ q u hq => by omega⟩)
    clear ih
    intro n2 ls2 M2 hP2 ih2
    obtain ⟨c, l, hc, hn2, rfl, hg2, hD2, hG2, hv2⟩ := hP2
    refine ev_iload_n (i := 1) d_En_makeGraphs_34 rfl rfl rfl ?_
    refine ev_aload_n (i := 0) d_En_makeGraphs_35 rfl rfl rfl ?_
    refine ev_getR d_En_makeGraphs_36 rfl lk_En_19 lx_30 rfl ?_
    refine ev_callV (As := []) d_En_makeGraphs_39 rfl cl_En_86 ((c_Cl_howMany (d + 204) M2).eqr (b := (m : Int)) ((hg2 19 _ (by decide)).trans hm19)) (g_hR (by decide)) g_h0 lx_19 rfl rfl (Nat.le_of_ble_eq_true rfl) rfl rfl ?_
    refine ev_icmp_ge (tgt := 94) d_En_makeGraphs_42 (by decide) rfl (fun hz => ?_) (fun hz => ?_)
    · refine ev_aload_n (i := 0) d_En_makeGraphs_94 rfl rfl rfl ?_
      refine ev_aload_n (i := 0) d_En_makeGraphs_95 rfl rfl rfl ?_
      refine ev_getI (z := (l.length : Int)) d_En_makeGraphs_96 rfl lk_En_79 lx_30 rfl (o_D_n hD2) ?_
      refine ev_callVR (As := [g_i ((l.length : Int))]) d_En_makeGraphs_99 rfl cl_En_96 (c_En_addCompositions (d + 202) M M2 l.length l hP hg2 hD2 rfl) (g_hR (by decide)) g_h0 lx_30 rfl rfl (Nat.le_of_ble_eq_true rfl) rfl rfl (fun M6 v9 g9 => ?_)
      obtain ⟨rfl, hg6, e6, hD6, hv6, hm6⟩ := g9
      have hall : M6 30 7 = 0 → ∀ x, o_R M x → x ∈ l ++ e6 := fun h9 => by
        rcases hD2.2.2 with h8 | h8
        · have ecm : c = m := by first | omega | exact absurd h8 c3
          refine o_R_min (fun x hx => ?_) (fun x z hx hz ht => ?_)
          · obtain ⟨c9, u9, h1, h2, rfl⟩ := hx
            exact List.mem_append_left _ (hv2 h8 c9 u9 (by omega) h2)
          · obtain ⟨s9, hs9⟩ := List.getElem?_of_mem hx
            obtain ⟨c9, u9, h1, h2, rfl⟩ := hz
            exact hv6 h9 s9 x _ hs9 (hv2 h8 c9 u9 (by omega) h2) ht
        · have := hm6 h8.1
          omega
      refine ev_aload_n (i := 0) d_En_makeGraphs_102 rfl rfl rfl ?_
      refine ev_getI (z := M6 30 7) d_En_makeGraphs_103 rfl lk_En_82 lx_30 rfl (rfl) ?_
      refine ev_if_eq (tgt := 115) d_En_makeGraphs_106 (by decide) rfl (fun c7 => ?_) (fun c7 => ?_)
      · refine ev_aload_n (i := 0) d_En_makeGraphs_115 rfl rfl rfl ?_
        refine ev_getI (z := ((l ++ e6).length : Int)) d_En_makeGraphs_116 rfl lk_En_79 lx_30 rfl (o_D_n hD6) ?_
        exact ev_retIR d_En_makeGraphs_119 (⟨_, rfl, hg6, l ++ e6, hD6, hall, by have h9 := hD6.1.1; omega, Or.inl ⟨c7, rfl⟩⟩) (Or.inl rfl)
      · refine ev_sipush d_En_makeGraphs_109 rfl (by decide +kernel) ⟨by decide, by decide⟩ ?_
        refine ev_goto (tgt := 119) d_En_makeGraphs_112 (by decide) ?_
        exact ev_retIR d_En_makeGraphs_119 (⟨201, rfl, hg6, l ++ e6, hD6, hall, by have h9 := hD6.2.2.resolve_left (fun g9 => c7 (by rw [g9])); omega, by rcases hD6.2.2 with h9 | h9; exact absurd h9 c7; exact Or.inr ⟨h9.1, rfl⟩⟩) (Or.inl rfl)
    · refine ev_aload_n (i := 0) d_En_makeGraphs_45 rfl rfl rfl ?_
      refine ev_getI (z := M2 30 7) d_En_makeGraphs_46 rfl lk_En_82 lx_30 rfl (rfl) ?_
      refine ev_if_ne (tgt := 94) d_En_makeGraphs_49 (by decide) rfl (fun c3 => ?_) (fun c3 => ?_)
      · refine ev_aload_n (i := 0) d_En_makeGraphs_94 rfl rfl rfl ?_
        refine ev_aload_n (i := 0) d_En_makeGraphs_95 rfl rfl rfl ?_
        refine ev_getI (z := (l.length : Int)) d_En_makeGraphs_96 rfl lk_En_79 lx_30 rfl (o_D_n hD2) ?_
        refine ev_callVR (As := [g_i ((l.length : Int))]) d_En_makeGraphs_99 rfl cl_En_96 (c_En_addCompositions (d + 202) M M2 l.length l hP hg2 hD2 rfl) (g_hR (by decide)) g_h0 lx_30 rfl rfl (Nat.le_of_ble_eq_true rfl) rfl rfl (fun M6 v9 g9 => ?_)
        obtain ⟨rfl, hg6, e6, hD6, hv6, hm6⟩ := g9
        have hall : M6 30 7 = 0 → ∀ x, o_R M x → x ∈ l ++ e6 := fun h9 => by
          rcases hD2.2.2 with h8 | h8
          · have ecm : c = m := by first | omega | exact absurd h8 c3
            refine o_R_min (fun x hx => ?_) (fun x z hx hz ht => ?_)
            · obtain ⟨c9, u9, h1, h2, rfl⟩ := hx
              exact List.mem_append_left _ (hv2 h8 c9 u9 (by omega) h2)
            · obtain ⟨s9, hs9⟩ := List.getElem?_of_mem hx
              obtain ⟨c9, u9, h1, h2, rfl⟩ := hz
              exact hv6 h9 s9 x _ hs9 (hv2 h8 c9 u9 (by omega) h2) ht
          · have := hm6 h8.1
            omega
        refine ev_aload_n (i := 0) d_En_makeGraphs_102 rfl rfl rfl ?_
        refine ev_getI (z := M6 30 7) d_En_makeGraphs_103 rfl lk_En_82 lx_30 rfl (rfl) ?_
        refine ev_if_eq (tgt := 115) d_En_makeGraphs_106 (by decide) rfl (fun c7 => ?_) (fun c7 => ?_)
        · refine ev_aload_n (i := 0) d_En_makeGraphs_115 rfl rfl rfl ?_
          refine ev_getI (z := ((l ++ e6).length : Int)) d_En_makeGraphs_116 rfl lk_En_79 lx_30 rfl (o_D_n hD6) ?_
          exact ev_retIR d_En_makeGraphs_119 (⟨_, rfl, hg6, l ++ e6, hD6, hall, by have h9 := hD6.1.1; omega, Or.inl ⟨c7, rfl⟩⟩) (Or.inl rfl)
        · refine ev_sipush d_En_makeGraphs_109 rfl (by decide +kernel) ⟨by decide, by decide⟩ ?_
          refine ev_goto (tgt := 119) d_En_makeGraphs_112 (by decide) ?_
          exact ev_retIR d_En_makeGraphs_119 (⟨201, rfl, hg6, l ++ e6, hD6, hall, by have h9 := hD6.2.2.resolve_left (fun g9 => c7 (by rw [g9])); omega, by rcases hD6.2.2 with h9 | h9; exact absurd h9 c7; exact Or.inr ⟨h9.1, rfl⟩⟩) (Or.inl rfl)
      · have hcm : (c : Int) < M 45 13 := by omega
        obtain ⟨f9, w9, b, c24, -, -, -, -, -, -, -, hbb, hb22, hbt, -, -⟩ := r_cn hP hcm
        have hkc : k_c M2 b = k_c M b := k_c_cg hg2.e46 b
        refine ev_aload_n (i := 0) d_En_makeGraphs_52 rfl rfl rfl ?_
        refine ev_iload_n (i := 1) d_En_makeGraphs_53 rfl rfl rfl ?_
        refine ev_callV (As := [g_i (c : Int)]) d_En_makeGraphs_54 rfl cl_En_33 (c_En_collectCalls (d + 102) M2 c b (r_P_fr hP hg2.fr) c24 ((hg2 22 _ (by decide)).trans hb22) (by rw [hg2.fn (k := 45) (by decide)]; exact hbt)) (g_hR (by decide)) g_h0 lx_30 rfl rfl (Nat.le_of_ble_eq_true rfl) rfl rfl ?_
        refine ev_iconst d_En_makeGraphs_57 rfl ⟨by decide, by decide⟩ ?_
        refine ev_istore_n (i := 2) d_En_makeGraphs_58 rfl rfl (by decide) rfl ?_
        refine ev_wh (fun n3 ls3 M4 => ∃ (k : Nat) (l4 : List Nat), k ≤ (k_c M b).length ∧ n3 = (k_c M b).length - k ∧ ls3 = [some (g_r 30), some (g_i (c : Int)), some (g_i (k : Int))] ∧ g3 M M4 ∧ o_D M M4 l4 ∧ (∀ x ∈ l4, o_G M x) ∧ M4 30 4 = ((k_c M b).length : Nat) ∧ (∀ s u : Nat, (k_c M b)[s]? = some u → M4 31 s = u) ∧ (M4 30 7 = 0 → ∀ s u : Nat, s < k → (k_c M b)[s]? = some u → o_g M c u ∈ l4) ∧ (M4 30 7 = 0 → ∀ q u : Nat, q < c → u ∈ k_c M (M 58 q).toNat → o_g M q u ∈ l4)) ?_ (n := (k_c M b).length) (⟨0, l, Nat.zero_le _, rfl, rfl, hg2.tr (g3_ec M2 _), o_D_cg (e_c_ne (by decide) (by decide) |> fun h => h) (e_c_ne (by decide) (by decide)) (by unfold e_c; rw [if_neg (by omega), if_neg (by omega)]) (by unfold e_c; rw [if_neg (by omega), if_neg (by omega)]) hD2, hG2, by rw [e_c_n, ← hkc], fun s u hs => e_c_at M2 (by rw [hkc]; exact hs), fun _ s u hs => by omega, fun h9 => hv2 (by have h8 : (e_c M2 (k_c M2 b)) 30 7 = M2 30 7 := (by unfold e_c; rw [if_neg (by omega), if_neg (by omega)]); rw [h8] at h9; exact h9)⟩)
        intro n3 ls3 M4 hP3 ih3
        obtain ⟨k, l4, hk, hn3, rfl, hg4, hD4, hG4, h44, h431, hv4, hw4⟩ := hP3
        refine ev_iload_n (i := 2) d_En_makeGraphs_59 rfl rfl rfl ?_
        refine ev_aload_n (i := 0) d_En_makeGraphs_60 rfl rfl rfl ?_
        refine ev_getI (z := ((k_c M b).length : Int)) d_En_makeGraphs_61 rfl lk_En_37 lx_30 rfl (h44) ?_
        refine ev_icmp_ge (tgt := 88) d_En_makeGraphs_64 (by decide) rfl (fun hz2 => ?_) (fun hz2 => ?_)
        · refine ev_iinc (z := (c : Int) + 1) d_En_makeGraphs_88 rfl rfl (by decide) (g_w_id (by unfold g_rg; omega)) rfl ?_
          refine ev_goto (tgt := 34) d_En_makeGraphs_91 (by decide) ?_
          have ekl : k = (k_c M b).length := by omega
          refine ev_le (ih2 (m - (c + 1)) [some (g_r 30), some (g_i ((c + 1 : Nat) : Int)), none] M4 (by omega) ⟨c + 1, l4, by omega, rfl, rfl, hg4, hD4, hG4, fun h9 q u hq hu => ?_⟩) rfl ⟨rfl, rfl, trivial⟩
          by_cases hqc : q = c
          · subst hqc
            rw [hbb, Int.toNat_natCast] at hu
            obtain ⟨s, hs⟩ := List.getElem?_of_mem hu
            have := (List.getElem?_eq_some_iff.mp hs).1
            exact hv4 h9 s u (by omega) hs
          · exact hw4 h9 q u (by omega) hu
        · obtain ⟨u, hu⟩ : ∃ u, (k_c M b)[k]? = some u := ⟨_, List.getElem?_eq_getElem (by omega)⟩
          have hGu : o_G M (o_g M c u) := o_G_of hcm hbb (List.mem_of_getElem? hu)
          obtain ⟨-, hk40, -⟩ := k_c_in hP hbt hu
          refine ev_aload_n (i := 0) d_En_makeGraphs_67 rfl rfl rfl ?_
          refine ev_aload_n (i := 0) d_En_makeGraphs_68 rfl rfl rfl ?_
          refine ev_iload_n (i := 1) d_En_makeGraphs_69 rfl rfl rfl ?_
          refine ev_aload_n (i := 0) d_En_makeGraphs_70 rfl rfl rfl ?_
          refine ev_getR d_En_makeGraphs_71 rfl lk_En_23 lx_30 rfl ?_
          refine ev_iload_n (i := 2) d_En_makeGraphs_74 rfl rfl rfl ?_
          refine ev_iaload (z := (u : Int)) d_En_makeGraphs_75 rfl lx_31 (by omega) (by omega) (h431 k u hu) ?_
          refine ev_callVR (As := [g_i (c : Int), g_i ((u : Int))]) d_En_makeGraphs_76 rfl cl_En_90 (c_En_graphOf (d + 0) M4 c u (r_P_fr hP hg4.fr) (by rw [hg4.fn (k := 45) (by decide)]; exact hcm) (by rw [k_c_cg hg4.e46, hg4.fn (k := 58) (by decide), hbb, Int.toNat_natCast]; exact List.mem_of_getElem? hu)) (g_hR (by decide)) g_h0 lx_30 rfl rfl (Nat.le_of_ble_eq_true rfl) rfl rfl (fun M9 v9 g9 => ?_)
          obtain ⟨e9, rfl⟩ := g9
          rw [e9, o_g_cg hg4.e46]
          refine ev_callVR (As := [g_i ((o_g M c u : Nat) : Int)]) d_En_makeGraphs_79 rfl cl_En_93 (c_En_addGraph_D (d + 204) hP hD4 (o_R_0 hGu)) (g_hR (by decide)) g_h0 lx_30 rfl rfl (Nat.le_of_ble_eq_true rfl) rfl rfl (fun M5 v9 g9 => ?_)
          obtain ⟨rfl, hf5, e5, hD5, he5, hx5, hmono⟩ := g9
          refine ev_iinc (z := (k : Int) + 1) d_En_makeGraphs_82 rfl rfl (by decide) (g_w_id (by unfold g_rg; omega)) rfl ?_
          refine ev_goto (tgt := 59) d_En_makeGraphs_85 (by decide) ?_
          have h70 : M5 30 7 = 0 → M4 30 7 = 0 := fun h9 => by rcases hD4.2.2 with h8 | h8; exact h8; (have := hmono h8.1; omega)
          have hsub : ∀ y ∈ l4, y ∈ l4 ++ e5 := fun y hy => List.mem_append_left _ hy
          refine ev_le (ih3 ((k_c M b).length - (k + 1)) [some (g_r 30), some (g_i (c : Int)), some (g_i ((k + 1 : Nat) : Int))] M5 (by omega) ⟨k + 1, l4 ++ e5, by omega, rfl, rfl, hg4.tr hf5.g3, hD5, fun y hy => (List.mem_append.mp hy).elim (hG4 y) (fun h9 => by rw [he5 y h9]; exact hGu), (hf5 30 4 (by decide) (by decide) (by decide)).trans h44, fun s u hs => (hf5 31 s (by decide) (by decide) (by omega)).trans (h431 s u hs), fun h9 s u9 hs hsu => ?_, fun h9 q u9 hq hu9 => hsub _ (hw4 (h70 h9) q u9 hq hu9)⟩) rfl ⟨rfl, rfl, rfl, trivial⟩
          by_cases hsk : s = k
          · subst hsk
            have eu : u9 = u := by rw [hu] at hsu; simpa using hsu.symm
            rw [eu]
            exact hx5.resolve_right (by omega)
          · exact hsub _ (hv4 (h70 h9) s u9 (by omega) hsu)
  · refine ev_aload_n (i := 0) d_En_makeGraphs_19 rfl rfl rfl ?_
    refine ev_getR d_En_makeGraphs_20 rfl lk_En_30 lx_30 rfl ?_
    refine ev_iload_n (i := 1) d_En_makeGraphs_23 rfl rfl rfl ?_
    refine ev_iconst d_En_makeGraphs_24 rfl ⟨by decide, by decide⟩ ?_
    refine ev_iastore d_En_makeGraphs_25 rfl lx_33 (by omega) (by omega) ?_
    rw [show Int.toNat ((q : Int)) = q by rfl]
    refine ev_iinc (z := (q : Int) + 1) d_En_makeGraphs_26 rfl rfl (by decide) (g_w_id (by unfold g_rg; omega)) rfl ?_
    refine ev_goto (tgt := 12) d_En_makeGraphs_29 (by decide) ?_
    refine ev_le (ih (512 - (q + 1)) [some (g_r 30), some (g_i ((q + 1 : Nat) : Int)), none] (g_up M1 33 q (-1)) (by omega) ⟨q + 1, by omega, rfl, rfl, fun k b hk => by simp only [g_up]; rw [if_neg (by omega)]; exact hg1 k b hk, h16, h17, fun j hj => ?_⟩) rfl ⟨rfl, rfl, trivial⟩
    simp only [g_up, true_and]
    by_cases hjq : j = q
    · rw [if_pos hjq]
    · rw [if_neg hjq]; exact h133 j (by omega)
