/-- all but the class's graphs -/
def g3 (M M1 : g_M) : Prop := ∀ k b : Nat, k < 30 ∨ 33 < k → M1 k b = M k b
theorem g3.rf (M : g_M) : g3 M M := fun _ _ _ => rfl
theorem g3.tr {M M1 M2 : g_M} (h : g3 M M1) (h2 : g3 M1 M2) : g3 M M2 := fun k b hk => (h2 k b hk).trans (h k b hk)
theorem g3.fn {M M1 : g_M} (h : g3 M M1) {k : Nat} (hk : k < 30 ∨ 33 < k) : M1 k = M k := funext fun b => h k b hk
theorem f30.g3 {M M1 : g_M} (h : f30 M M1) : g3 M M1 := fun k b hk => h k b (by omega) (by omega) (by omega)
theorem g3.fr {M M1 : g_M} (h : g3 M M1) : r_fr M M1 := ⟨fun k hk => h.fn (by omega), h 34 11 (by decide), h 34 14 (by decide), fun y _ _ _ _ _ _ => h 45 y (by decide)⟩
theorem g3.e46 {M M1 : g_M} (h : g3 M M1) : ∀ k : Nat, 46 ≤ k ∧ k < 59 → M1 k = M k := fun k hk => h.fn (by omega)
theorem g3_ec (M : g_M) (l : List Nat) : g3 M (e_c M l) := fun k b hk => by rw [e_c_ne (by omega) (by omega)]
theorem o_B_cg {M1 M2 : g_M} {l : List Nat} (h2 : M2 32 = M1 32) (h3 : M2 33 = M1 33) (h6 : M2 30 6 = M1 30 6) (h : o_B M1 l) : o_B M2 l := by
  unfold o_B at h ⊢
  rw [h2, h3, h6]
  exact h
theorem o_D_cg {M M1 M2 : g_M} {l : List Nat} (h2 : M2 32 = M1 32) (h3 : M2 33 = M1 33) (h6 : M2 30 6 = M1 30 6) (h7 : M2 30 7 = M1 30 7) (h : o_D M M1 l) : o_D M M2 l := by
  obtain ⟨a, b, c⟩ := h
  exact ⟨o_B_cg h2 h3 h6 a, b, by rw [h7]; exact c⟩
theorem o_D_at {M M1 : g_M} {l : List Nat} (h : o_D M M1 l) {i x : Nat} (hx : l[i]? = some x) : M1 32 i = x := h.1.2.2.2.1 i x hx
theorem o_D_n {M M1 : g_M} {l : List Nat} (h : o_D M M1 l) : M1 30 6 = l.length := h.1.2.2.2.2.1
theorem o_g_cg {M M2 : g_M} (h : ∀ k : Nat, 46 ≤ k ∧ k < 59 → M2 k = M k) (c u : Nat) : o_g M2 c u = o_g M c u := by
  unfold o_g o_p
  simp only [z_arc_cg h, h 50 (by decide), h 52 (by decide), h 53 (by decide), h 56 (by decide), h 57 (by decide)]
theorem c_En_addGraph_D (d : Nat) {M M1 : g_M} {l : List Nat} {x : Nat} (hP : r_P M) (hD : o_D M M1 l) (hx : o_R M x) : ConR y_En_addGraph w_En_addGraph (g_rm d) LX M1 [g_r 30, g_i (x : Int)] LX (fun M2 v2 => v2 = none ∧ f30 M1 M2 ∧ ∃ e : List Nat, o_D M M2 (l ++ e) ∧ (∀ y ∈ e, y = x) ∧ (x ∈ l ++ e ∨ M2 30 7 = 1) ∧ (M1 30 7 = 1 → M2 30 7 = 1)) := by
  refine (c_En_addGraph d M1 x l hD.1 (o_R_ok hP hx).1).mono (fun M2 v2 h => ?_)
  obtain ⟨h1, h2, h3⟩ := h
  refine ⟨h1, h2, ?_⟩
  rcases h3 with ⟨h4, rfl⟩ | ⟨h4, h5, rfl⟩ | ⟨h4, h5, h6, h7⟩
  · exact ⟨[], by rw [List.append_nil]; exact hD, fun y hy => by simp at hy, Or.inl (by rw [List.append_nil]; exact h4), id⟩
  · refine ⟨[], ?_, fun y hy => by simp at hy, Or.inr (by simp [g_up]), fun _ => by simp [g_up]⟩
    rw [List.append_nil]
    exact ⟨o_B_cg rfl rfl rfl hD.1, hD.2.1, Or.inr ⟨by simp [g_up], h5, x, hx, h4⟩⟩
  · refine ⟨[x], ⟨h6, fun y hy => (List.mem_append.mp hy).elim (hD.2.1 y) (fun h9 => by rw [List.mem_singleton.mp h9]; exact hx), ?_⟩, fun y hy => List.mem_singleton.mp hy, Or.inl (List.mem_append_right _ List.mem_cons_self), fun h9 => by rw [h7]; exact h9⟩
    rw [h7]
    rcases hD.2.2 with h9 | h9
    · exact Or.inl h9
    · omega
theorem c_En_addCompositions (d : Nat) (M : g_M) (M0 : g_M) (n0 : Nat) (l0 : List Nat) (hP : r_P M) (hg0 : g3 M M0) (hD0 : o_D M M0 l0) (hn0 : n0 = l0.length) : ConR y_En_addCompositions w_En_addCompositions (g_rm (d + 2)) LX M0 [g_r 30, g_i (n0 : Int)] LX (fun M2 v2 => v2 = none ∧ g3 M M2 ∧ ∃ e : List Nat, o_D M M2 (l0 ++ e) ∧ (M2 30 7 = 0 → ∀ (q x z : Nat), (l0 ++ e)[q]? = some x → z ∈ l0 → o_t x = o_f z → o_c x z ∈ l0 ++ e) ∧ (M0 30 7 = 1 → M2 30 7 = 1)) := by
  refine con_ofR (av := [g_r 30, g_i (n0 : Int)]) (ls0 := [some (g_r 30), some (g_i (n0 : Int)), none, none]) (by decide) rfl (Nat.le_of_ble_eq_true rfl) (g_hls (av := [g_r 30, g_i (n0 : Int)]) (k := 2)) (fun _ h9 => List.mem_cons_of_mem _ h9) ?_
  have hn200 : n0 ≤ 200 := by have := hD0.1.1; omega
  refine ev_iconst d_En_addCompositions_0 rfl ⟨by decide, by decide⟩ ?_
  refine ev_istore_n (i := 2) d_En_addCompositions_1 rfl rfl (by decide) rfl ?_
  refine ev_wh (fun n ls1 M1 => ∃ (i : Nat) (e : List Nat), i ≤ 200 ∧ n = 200 - i ∧ ls1 = [some (g_r 30), some (g_i (n0 : Int)), some (g_i (i : Int)), none] ∧ (M0 30 7 = 1 → M1 30 7 = 1) ∧ g3 M M1 ∧ o_D M M1 (l0 ++ e) ∧ (M1 30 7 = 0 → ∀ (q : Nat) (x z : Nat), q < i → (l0 ++ e)[q]? = some x → z ∈ l0 → o_t x = o_f z → o_c x z ∈ l0 ++ e)) ?_ (n := 200) (⟨0, [], Nat.zero_le _, rfl, rfl, id, hg0, by rw [List.append_nil]; exact hD0, fun _ q x z hq => by omega⟩)
  intro n ls1 M1 hP0 ih
  obtain ⟨i, e, hi, hn, rfl, hmm1, hg1, hD1, hv1⟩ := hP0
  have hlen1 := hD1.1.1
  refine ev_iload_n (i := 2) d_En_addCompositions_2 rfl rfl rfl ?_
  refine ev_sipush d_En_addCompositions_3 rfl (by decide +kernel) ⟨by decide, by decide⟩ ?_
  refine ev_icmp_ge (tgt := 83) d_En_addCompositions_6 (by decide) rfl (fun c0 => ?_) (fun c0 => ?_)
  · exact ev_retVR d_En_addCompositions_83 (⟨rfl, hg1, e, hD1, fun h9 q x z hqx hz ht => by first | (exact hv1 h9 q x z (by have := (List.getElem?_eq_some_iff.mp hqx).1; omega) hqx hz ht) | exact absurd h9 c2, hmm1⟩)
  · refine ev_iload_n (i := 2) d_En_addCompositions_9 rfl rfl rfl ?_
    refine ev_aload_n (i := 0) d_En_addCompositions_10 rfl rfl rfl ?_
    refine ev_getI (z := ((l0 ++ e).length : Int)) d_En_addCompositions_11 rfl lk_En_79 lx_30 rfl (o_D_n hD1) ?_
    refine ev_icmp_ge (tgt := 83) d_En_addCompositions_14 (by decide) rfl (fun c1 => ?_) (fun c1 => ?_)
    · exact ev_retVR d_En_addCompositions_83 (⟨rfl, hg1, e, hD1, fun h9 q x z hqx hz ht => by first | (exact hv1 h9 q x z (by have := (List.getElem?_eq_some_iff.mp hqx).1; omega) hqx hz ht) | exact absurd h9 c2, hmm1⟩)
    · refine ev_aload_n (i := 0) d_En_addCompositions_17 rfl rfl rfl ?_
      refine ev_getI (z := M1 30 7) d_En_addCompositions_18 rfl lk_En_82 lx_30 rfl (rfl) ?_
      refine ev_if_ne (tgt := 83) d_En_addCompositions_21 (by decide) rfl (fun c2 => ?_) (fun c2 => ?_)
      · exact ev_retVR d_En_addCompositions_83 (⟨rfl, hg1, e, hD1, fun h9 q x z hqx hz ht => by first | (exact hv1 h9 q x z (by have := (List.getElem?_eq_some_iff.mp hqx).1; omega) hqx hz ht) | exact absurd h9 c2, hmm1⟩)
      · obtain ⟨xi, hxi⟩ : ∃ xi, (l0 ++ e)[i]? = some xi := ⟨_, List.getElem?_eq_getElem (by omega)⟩
        refine ev_iconst d_En_addCompositions_24 rfl ⟨by decide, by decide⟩ ?_
        refine ev_istore_n (i := 3) d_En_addCompositions_25 rfl rfl (by decide) rfl ?_
        refine ev_wh (fun n2 ls2 M2 => ∃ (j : Nat) (e2 : List Nat), j ≤ n0 ∧ n2 = n0 - j ∧ ls2 = [some (g_r 30), some (g_i (n0 : Int)), some (g_i (i : Int)), some (g_i (j : Int))] ∧ (M0 30 7 = 1 → M2 30 7 = 1) ∧ g3 M M2 ∧ o_D M M2 (l0 ++ e2) ∧ (l0 ++ e2)[i]? = some xi ∧ (M2 30 7 = 0 → ∀ s z : Nat, s < j → l0[s]? = some z → o_t xi = o_f z → o_c xi z ∈ l0 ++ e2) ∧ (M2 30 7 = 0 → ∀ (q : Nat) (x z : Nat), q < i → (l0 ++ e2)[q]? = some x → z ∈ l0 → o_t x = o_f z → o_c x z ∈ l0 ++ e2)) ?_ (n := n0) (⟨0, e, Nat.zero_le _, rfl, rfl, hmm1, hg1, hD1, hxi, fun _ s z hs => by omega, hv1⟩)
        intro n2 ls2 M2 hP2 ih2
        obtain ⟨j, e2, hj, hn2, rfl, hmm2, hg2, hD2, hxi2, hv2, hw2⟩ := hP2
        refine ev_iload_n (i := 3) d_En_addCompositions_26 rfl rfl rfl ?_
        refine ev_iload_n (i := 1) d_En_addCompositions_27 rfl rfl rfl ?_
        refine ev_icmp_ge (tgt := 77) d_En_addCompositions_28 (by decide) rfl (fun hz2 => ?_) (fun hz2 => ?_)
        · refine ev_iinc (z := (i : Int) + 1) d_En_addCompositions_77 rfl rfl (by decide) (g_w_id (by unfold g_rg; omega)) rfl ?_
          refine ev_goto (tgt := 2) d_En_addCompositions_80 (by decide) ?_
          have ejn : j = n0 := by omega
          subst ejn
          refine ev_le (ih (200 - (i + 1)) [some (g_r 30), some (g_i (j : Int)), some (g_i ((i + 1 : Nat) : Int)), none] M2 (by omega) ⟨i + 1, e2, by omega, rfl, rfl, hmm2, hg2, hD2, fun h9 q x z hq hqx hz ht => ?_⟩) rfl ⟨rfl, rfl, rfl, trivial⟩
          by_cases hqi : q = i
          · subst hqi
            obtain ⟨s9, hs9⟩ := List.getElem?_of_mem hz
            have hs8 := (List.getElem?_eq_some_iff.mp hs9).1
            have ex : x = xi := by rw [hxi2] at hqx; simpa using hqx.symm
            rw [ex] at ht ⊢
            exact hv2 h9 s9 z (by omega) hs9 ht
          · exact hw2 h9 q x z (by omega) hqx hz ht
        · obtain ⟨zj, hzj⟩ : ∃ zj, l0[j]? = some zj := ⟨_, List.getElem?_eq_getElem (by omega)⟩
          have hzj2 : (l0 ++ e2)[j]? = some zj := by rw [List.getElem?_append_left (by omega)]; exact hzj
          have hxiR := hD2.2.1 xi (List.mem_of_getElem? hxi2)
          have hzjR := hD2.2.1 zj (List.mem_of_getElem? hzj2)
          have hxi24 := (o_R_ok hP hxiR).1
          have hzj24 := (o_R_ok hP hzjR).1
          have hlen2 := hD2.1.1
          have hil := (List.getElem?_eq_some_iff.mp hxi2).1
          refine ev_aload_n (i := 0) d_En_addCompositions_31 rfl rfl rfl ?_
          refine ev_getR d_En_addCompositions_32 rfl lk_En_27 lx_30 rfl ?_
          refine ev_iload_n (i := 2) d_En_addCompositions_35 rfl rfl rfl ?_
          refine ev_iaload (z := (xi : Int)) d_En_addCompositions_36 rfl lx_32 (by omega) (by omega) (o_D_at hD2 hxi2) ?_
          refine ev_callS (As := [g_i ((xi : Int))]) d_En_addCompositions_37 rfl cl_En_99 (c_En_to (d + 1) M2 xi hxi24) (g_hR (by decide)) g_h0 rfl rfl (Nat.le_of_ble_eq_true rfl) rfl rfl ?_
          refine ev_aload_n (i := 0) d_En_addCompositions_40 rfl rfl rfl ?_
          refine ev_getR d_En_addCompositions_41 rfl lk_En_27 lx_30 rfl ?_
          refine ev_iload_n (i := 3) d_En_addCompositions_44 rfl rfl rfl ?_
          refine ev_iaload (z := (zj : Int)) d_En_addCompositions_45 rfl lx_32 (by omega) (by omega) (o_D_at hD2 hzj2) ?_
          refine ev_callS (As := [g_i ((zj : Int))]) d_En_addCompositions_46 rfl cl_En_102 (c_En_from (d + 1) M2 zj hzj24) (g_hR (by decide)) g_h0 rfl rfl (Nat.le_of_ble_eq_true rfl) rfl rfl ?_
          refine ev_icmp_ne (tgt := 71) d_En_addCompositions_49 (by decide) rfl (fun c5 => ?_) (fun c5 => ?_)
          · refine ev_iinc (z := (j : Int) + 1) d_En_addCompositions_71 rfl rfl (by decide) (g_w_id (by unfold g_rg; omega)) rfl ?_
            refine ev_goto (tgt := 26) d_En_addCompositions_74 (by decide) ?_
            refine ev_le (ih2 (n0 - (j + 1)) [some (g_r 30), some (g_i (n0 : Int)), some (g_i (i : Int)), some (g_i ((j + 1 : Nat) : Int))] M2 (by omega) ⟨j + 1, e2, by omega, rfl, rfl, hmm2, hg2, hD2, hxi2, fun h9 s z hs hsz ht => ?_, hw2⟩) rfl ⟨rfl, rfl, rfl, rfl, trivial⟩
            by_cases hsj : s = j
            · subst hsj
              have ez : z = zj := by rw [hzj] at hsz; simpa using hsz.symm
              rw [ez] at ht
              exact absurd (by rw [ht]) c5
            · exact hv2 h9 s z (by omega) hsz ht
          · refine ev_aload_n (i := 0) d_En_addCompositions_52 rfl rfl rfl ?_
            refine ev_aload_n (i := 0) d_En_addCompositions_53 rfl rfl rfl ?_
            refine ev_getR d_En_addCompositions_54 rfl lk_En_27 lx_30 rfl ?_
            refine ev_iload_n (i := 2) d_En_addCompositions_57 rfl rfl rfl ?_
            refine ev_iaload (z := (xi : Int)) d_En_addCompositions_58 rfl lx_32 (by omega) (by omega) (o_D_at hD2 hxi2) ?_
            refine ev_aload_n (i := 0) d_En_addCompositions_59 rfl rfl rfl ?_
            refine ev_getR d_En_addCompositions_60 rfl lk_En_27 lx_30 rfl ?_
            refine ev_iload_n (i := 3) d_En_addCompositions_63 rfl rfl rfl ?_
            refine ev_iaload (z := (zj : Int)) d_En_addCompositions_64 rfl lx_32 (by omega) (by omega) (o_D_at hD2 hzj2) ?_
            refine ev_callS (As := [g_i ((xi : Int)), g_i ((zj : Int))]) d_En_addCompositions_65 rfl cl_En_105 (c_En_compose (d + 0) M2 xi zj hxi24 hzj24) (g_hR (by decide)) g_h0 rfl rfl (Nat.le_of_ble_eq_true rfl) rfl rfl ?_
            refine ev_callVR (As := [g_i ((o_c xi zj : Nat) : Int)]) d_En_addCompositions_68 rfl cl_En_93 (c_En_addGraph_D (d + 1) hP hD2 (o_R_c hxiR hzjR (by omega))) (g_hR (by decide)) g_h0 lx_30 rfl rfl (Nat.le_of_ble_eq_true rfl) rfl rfl (fun M3 v9 g9 => ?_)
            obtain ⟨rfl, hf3, e3, hD3, he3, hx3, hmono⟩ := g9
            refine ev_iinc (z := (j : Int) + 1) d_En_addCompositions_71 rfl rfl (by decide) (g_w_id (by unfold g_rg; omega)) rfl ?_
            refine ev_goto (tgt := 26) d_En_addCompositions_74 (by decide) ?_
            have hap : ∀ (q x : Nat), (l0 ++ e2)[q]? = some x → (l0 ++ (e2 ++ e3))[q]? = some x := fun q x hq => by rw [← List.append_assoc, List.getElem?_append_left (List.getElem?_eq_some_iff.mp hq).1]; exact hq
            have hsub : ∀ y ∈ l0 ++ e2, y ∈ l0 ++ (e2 ++ e3) := fun y hy => by rw [← List.append_assoc]; exact List.mem_append_left _ hy
            have h70 : M3 30 7 = 0 → M2 30 7 = 0 := fun h9 => by rcases hD2.2.2 with h8 | h8; exact h8; (have := hmono h8.1; omega)
            refine ev_le (ih2 (n0 - (j + 1)) [some (g_r 30), some (g_i (n0 : Int)), some (g_i (i : Int)), some (g_i ((j + 1 : Nat) : Int))] M3 (by omega) ⟨j + 1, e2 ++ e3, by omega, rfl, rfl, fun h9 => hmono (hmm2 h9), hg2.tr hf3.g3, by rw [← List.append_assoc]; exact hD3, hap i xi hxi2, fun h9 s z hs hsz ht => ?_, fun h9 q x z hq hqx hz ht => ?_⟩) rfl ⟨rfl, rfl, rfl, rfl, trivial⟩
            · by_cases hsj : s = j
              · subst hsj
                have ez : z = zj := by rw [hzj] at hsz; simpa using hsz.symm
                rw [ez, ← List.append_assoc]
                exact hx3.resolve_right (by omega)
              · exact hsub _ (hv2 (h70 h9) s z (by omega) hsz ht)
            · have hql : q < (l0 ++ e2).length := by have := (List.getElem?_eq_some_iff.mp hxi2).1; omega
              rw [← List.append_assoc, List.getElem?_append_left hql] at hqx
              exact hsub _ (hw2 (h70 h9) q x z hq hqx hz ht)
