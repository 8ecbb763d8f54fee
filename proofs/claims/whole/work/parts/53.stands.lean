/-- all but the reference's rows -/
def e67 (M M1 : g_M) : Prop := ∀ k b : Nat, k ≠ 67 → M1 k b = M k b
theorem e67.rf (M : g_M) : e67 M M := fun _ _ _ => rfl
theorem e67.fn {M M1 : g_M} (h : e67 M M1) {k : Nat} (hk : k ≠ 67) : M1 k = M k := funext fun b => h k b hk
theorem e67.up {M M1 : g_M} (h : e67 M M1) (i : Nat) (z : Int) : e67 M (g_up M1 67 i z) := fun k b hk => by rw [g_up_ne hk]; exact h k b hk
/-- a clause's wants against a row, from a slot on -/
def y_st (W R : Nat → Int) (i : Nat) (x : Int) : Prop := (∀ s : Nat, i ≤ s → s < 12 → W s < 0 ∨ R s < 0 ∨ W s = R s) ∧ ((x = -1 ∧ ∀ s : Nat, i ≤ s → s < 12 → W s < 0 ∨ 0 ≤ R s) ∨ ∃ k : Nat, i ≤ k ∧ k < 12 ∧ x = k ∧ 0 ≤ W k ∧ R k < 0 ∧ ∀ s : Nat, i ≤ s → s < k → W s < 0 ∨ 0 ≤ R s)
theorem y_st_0 (W R : Nat → Int) : y_st W R 12 (-1) := ⟨fun s h1 h2 => by omega, Or.inl ⟨rfl, fun s h1 h2 => by omega⟩⟩
theorem y_st_a {W R : Nat → Int} {i : Nat} {x : Int} (hi : i < 12) (h1 : 0 ≤ W i) (h2 : R i < 0) (h : y_st W R (i + 1) x) : y_st W R i (i : Int) := by
  refine ⟨fun s a b => ?_, Or.inr ⟨i, Nat.le_refl _, hi, rfl, h1, h2, fun s a b => by omega⟩⟩
  by_cases hsi : s = i
  · subst hsi; exact Or.inr (Or.inl h2)
  · exact h.1 s (by omega) b
theorem y_st_s {W R : Nat → Int} {i : Nat} {x : Int} (h1 : W i < 0 ∨ (0 ≤ R i ∧ W i = R i)) (h : y_st W R (i + 1) x) : y_st W R i x := by
  refine ⟨fun s a b => ?_, ?_⟩
  · by_cases hsi : s = i
    · subst hsi; rcases h1 with h1 | h1; exact Or.inl h1; exact Or.inr (Or.inr h1.2)
    · exact h.1 s (by omega) b
  · rcases h.2 with ⟨g1, g2⟩ | ⟨k, k1, k2, k3, k4, k5, k6⟩
    · refine Or.inl ⟨g1, fun s a b => ?_⟩
      by_cases hsi : s = i
      · subst hsi; rcases h1 with h1 | h1; exact Or.inl h1; exact Or.inr h1.1
      · exact g2 s (by omega) b
    · refine Or.inr ⟨k, by omega, k2, k3, k4, k5, fun s a b => ?_⟩
      by_cases hsi : s = i
      · subst hsi; rcases h1 with h1 | h1; exact Or.inl h1; exact Or.inr h1.1
      · exact k6 s (by omega) b
theorem c_Mo_wants (d : Nat) (M : g_M) (M1 : g_M) (t j : Nat) (he : e67 M M1) (ht : t < 100) (hj : j < 4) (h0 : 0 ≤ M 52 t) (h16 : M 52 t < 16) (hw : 8 ≤ M 52 t → M 47 (M 52 t - 8).toNat ≤ 3) (hx : 8 ≤ M 52 t → ∀ i : Nat, (i : Int) < M 47 (M 52 t - 8).toNat → ∃ x : Nat, M 53 (3 * t + i) = x ∧ x < 100 ∧ 0 ≤ M 52 x ∧ M 52 x < 22) : Con y_Mo_wants w_Mo_wants (g_rm (d)) LX M1 [g_r 45, g_i (t : Int), g_i (j : Int)] LX M1 (some (g_i (y_w M t j))) := by
  refine con_of (av := [g_r 45, g_i (t : Int), g_i (j : Int)]) (ls0 := [some (g_r 45), some (g_i (t : Int)), some (g_i (j : Int)), none, none]) (by decide) rfl (Nat.le_of_ble_eq_true rfl) (g_hls (av := [g_r 45, g_i (t : Int), g_i (j : Int)]) (k := 2)) (fun _ h9 => List.mem_cons_of_mem _ h9) ?_
  refine ev_aload_n (i := 0) d_Mo_wants_0 rfl rfl rfl ?_
  refine ev_getR d_Mo_wants_1 rfl lk_Mo_28 lx_45 rfl ?_
  refine ev_iload_n (i := 1) d_Mo_wants_4 rfl rfl rfl ?_
  refine ev_iaload (z := M 52 t) d_Mo_wants_5 rfl lx_52 (by omega) (by omega) (he 52 _ (by decide)) ?_
  refine ev_bipush d_Mo_wants_6 rfl (by decide +kernel) ⟨by decide, by decide⟩ ?_
  refine ev_icmp_ge (tgt := 13) d_Mo_wants_8 (by decide) rfl (fun c1 => ?_) (fun c1 => ?_)
  · refine ev_aload_n (i := 0) d_Mo_wants_13 rfl rfl rfl ?_
    refine ev_getR d_Mo_wants_14 rfl lk_Mo_28 lx_45 rfl ?_
    refine ev_iload_n (i := 1) d_Mo_wants_17 rfl rfl rfl ?_
    refine ev_iaload (z := M 52 t) d_Mo_wants_18 rfl lx_52 (by omega) (by omega) (he 52 _ (by decide)) ?_
    refine ev_bipush d_Mo_wants_19 rfl (by decide +kernel) ⟨by decide, by decide⟩ ?_
    refine ev_isub (z := (M 52 t) - 8) d_Mo_wants_21 rfl (g_w_id (by unfold g_rg; omega)) ?_
    refine ev_istore_n (i := 3) d_Mo_wants_22 rfl rfl (by decide) rfl ?_
    refine ev_iload_n (i := 2) d_Mo_wants_23 rfl rfl rfl ?_
    refine ev_if_ne (tgt := 29) d_Mo_wants_24 (by decide) rfl (fun c2 => ?_) (fun c2 => ?_)
    · refine ev_iload_n (i := 2) d_Mo_wants_29 rfl rfl rfl ?_
      refine ev_aload_n (i := 0) d_Mo_wants_30 rfl rfl rfl ?_
      refine ev_getR d_Mo_wants_31 rfl lk_Mo_13 lx_45 rfl ?_
      refine ev_iload_n (i := 3) d_Mo_wants_34 rfl rfl rfl ?_
      refine ev_iaload (z := M 47 (M 52 t - 8).toNat) d_Mo_wants_35 rfl lx_47 (by omega) (by omega) (he 47 _ (by decide)) ?_
      have hw9 := hw (by omega)
      refine ev_icmp_gt (tgt := 54) d_Mo_wants_36 (by decide) rfl (fun c3 => ?_) (fun c3 => ?_)
      · refine ev_iconst d_Mo_wants_54 rfl ⟨by decide, by decide⟩ ?_
        refine ev_istore (i := 4) d_Mo_wants_55 rfl (by decide) rfl ?_
        refine ev_iload (i := 4) d_Mo_wants_57 rfl rfl ?_
        refine ev_if_lt_t (tgt := 74) d_Mo_wants_59 (by decide) (by decide) ?_
        refine ev_iconst d_Mo_wants_74 rfl ⟨by decide, by decide⟩ ?_
        refine ev_goto (tgt := 88) d_Mo_wants_75 (by decide) ?_
        exact ev_retI d_Mo_wants_88 (by unfold y_w; rw [if_neg (by omega), if_neg (by omega), if_neg (by omega)]) rfl (Or.inl rfl)
      · obtain ⟨x, hx53, hx100, hx0, hx22⟩ := hx (by omega) (j - 1) (by omega)
        refine ev_aload_n (i := 0) d_Mo_wants_39 rfl rfl rfl ?_
        refine ev_getR d_Mo_wants_40 rfl lk_Mo_31 lx_45 rfl ?_
        refine ev_iconst d_Mo_wants_43 rfl ⟨by decide, by decide⟩ ?_
        refine ev_iload_n (i := 1) d_Mo_wants_44 rfl rfl rfl ?_
        refine ev_imul (z := 3 * (t : Int)) d_Mo_wants_45 rfl (g_w_id (by unfold g_rg; omega)) ?_
        refine ev_iload_n (i := 2) d_Mo_wants_46 rfl rfl rfl ?_
        refine ev_iadd (z := 3 * (t : Int) + (j : Int)) d_Mo_wants_47 rfl (g_w_id (by unfold g_rg; omega)) ?_
        refine ev_iconst d_Mo_wants_48 rfl ⟨by decide, by decide⟩ ?_
        refine ev_isub (z := ((3 * t + (j - 1) : Nat) : Int)) d_Mo_wants_49 rfl (by rw [g_w_id (by unfold g_rg; omega)]; omega) ?_
        refine ev_iaload (z := (x : Int)) d_Mo_wants_50 rfl lx_53 (by omega) (by omega) (by rw [Int.toNat_natCast]; exact (he 53 _ (by decide)).trans hx53) ?_
        refine ev_goto (tgt := 55) d_Mo_wants_51 (by decide) ?_
        refine ev_istore (i := 4) d_Mo_wants_55 rfl (by decide) rfl ?_
        refine ev_iload (i := 4) d_Mo_wants_57 rfl rfl ?_
        refine ev_if_lt_f (tgt := 74) d_Mo_wants_59 (by decide) rfl (by omega) ?_
        refine ev_aload_n (i := 0) d_Mo_wants_62 rfl rfl rfl ?_
        refine ev_getR d_Mo_wants_63 rfl lk_Mo_28 lx_45 rfl ?_
        refine ev_iload (i := 4) d_Mo_wants_66 rfl rfl ?_
        refine ev_iaload (z := M 52 x) d_Mo_wants_68 rfl lx_52 (by omega) (by omega) (he 52 _ (by decide)) ?_
        refine ev_bipush d_Mo_wants_69 rfl (by decide +kernel) ⟨by decide, by decide⟩ ?_
        refine ev_icmp_ge (tgt := 78) d_Mo_wants_71 (by decide) rfl (fun c4 => ?_) (fun c4 => ?_)
        · refine ev_aload_n (i := 0) d_Mo_wants_78 rfl rfl rfl ?_
          refine ev_getR d_Mo_wants_79 rfl lk_Mo_28 lx_45 rfl ?_
          refine ev_iload (i := 4) d_Mo_wants_82 rfl rfl ?_
          refine ev_iaload (z := M 52 x) d_Mo_wants_84 rfl lx_52 (by omega) (by omega) (he 52 _ (by decide)) ?_
          refine ev_bipush d_Mo_wants_85 rfl (by decide +kernel) ⟨by decide, by decide⟩ ?_
          refine ev_isub (z := (M 52 x) - 8) d_Mo_wants_87 rfl (g_w_id (by unfold g_rg; omega)) ?_
          exact ev_retI d_Mo_wants_88 (by unfold y_w; rw [if_neg (by omega), if_neg (by omega), if_pos (by omega), hx53, Int.toNat_natCast]; rw [if_neg (by omega)]) rfl (Or.inl rfl)
        · refine ev_iconst d_Mo_wants_74 rfl ⟨by decide, by decide⟩ ?_
          refine ev_goto (tgt := 88) d_Mo_wants_75 (by decide) ?_
          exact ev_retI d_Mo_wants_88 (by unfold y_w; rw [if_neg (by omega), if_neg (by omega), if_pos (by omega), hx53, Int.toNat_natCast]; rw [if_pos (by omega)]) rfl (Or.inl rfl)
    · refine ev_iload_n (i := 3) d_Mo_wants_27 rfl rfl rfl ?_
      exact ev_retI d_Mo_wants_28 (by unfold y_w; rw [if_neg (by omega), if_pos (by omega)]) rfl (Or.inl rfl)
  · refine ev_iconst d_Mo_wants_11 rfl ⟨by decide, by decide⟩ ?_
    exact ev_retI d_Mo_wants_12 (by unfold y_w; rw [if_pos (by omega)]) rfl (Or.inl rfl)
theorem c_Mo_typeAt_o (d : Nat) (M : g_M) (M1 : g_M) (f r k : Nat) (he : e67 M M1) (hf : f < 6) (hr : r < 99) (hk : k < 12) (h4 : k % 4 = 0) : Con y_Mo_typeAt w_Mo_typeAt (g_rm (d)) LX M1 [g_r 45, g_i (f : Int), g_i (r : Int), g_i (k : Int)] LX M1 (some (g_i (M 51 (3 * f + k / 4)))) := by
  refine con_of (av := [g_r 45, g_i (f : Int), g_i (r : Int), g_i (k : Int)]) (ls0 := [some (g_r 45), some (g_i (f : Int)), some (g_i (r : Int)), some (g_i (k : Int))]) (by decide) rfl (Nat.le_of_ble_eq_true rfl) (g_hls (av := [g_r 45, g_i (f : Int), g_i (r : Int), g_i (k : Int)]) (k := 0)) (fun _ h9 => List.mem_cons_of_mem _ h9) ?_
  refine ev_iload_n (i := 3) d_Mo_typeAt_0 rfl rfl rfl ?_
  refine ev_iconst d_Mo_typeAt_1 rfl ⟨by decide, by decide⟩ ?_
  refine ev_irem (z := ((k % 4 : Nat) : Int)) d_Mo_typeAt_2 rfl (by decide) (y_rem k hk) ?_
  refine ev_if_ne_f (tgt := 21) d_Mo_typeAt_3 (by decide) rfl (by omega) ?_
  refine ev_aload_n (i := 0) d_Mo_typeAt_6 rfl rfl rfl ?_
  refine ev_getR d_Mo_typeAt_7 rfl lk_Mo_25 lx_45 rfl ?_
  refine ev_iconst d_Mo_typeAt_10 rfl ⟨by decide, by decide⟩ ?_
  refine ev_iload_n (i := 1) d_Mo_typeAt_11 rfl rfl rfl ?_
  refine ev_imul (z := 3 * (f : Int)) d_Mo_typeAt_12 rfl (g_w_id (by unfold g_rg; omega)) ?_
  refine ev_iload_n (i := 3) d_Mo_typeAt_13 rfl rfl rfl ?_
  refine ev_iconst d_Mo_typeAt_14 rfl ⟨by decide, by decide⟩ ?_
  refine ev_idiv (z := ((k / 4 : Nat) : Int)) d_Mo_typeAt_15 rfl (by decide) (y_div k hk) ?_
  refine ev_iadd (z := ((3 * f + k / 4 : Nat) : Int)) d_Mo_typeAt_16 rfl (by rw [g_w_id (by unfold g_rg; omega)]; omega) ?_
  refine ev_iaload (z := M 51 (3 * f + k / 4)) d_Mo_typeAt_17 rfl lx_51 (by omega) (by omega) (by rw [Int.toNat_natCast]; exact he 51 _ (by decide)) ?_
  refine ev_goto (tgt := 49) d_Mo_typeAt_18 (by decide) ?_
  exact ev_retI d_Mo_typeAt_49 (by first | rfl | omega | simp_all) rfl (Or.inl rfl)
theorem c_Mo_typeAt_i (d : Nat) (M : g_M) (M1 : g_M) (f r k q : Nat) (he : e67 M M1) (hr : r < 99) (hk : k < 12) (hq : M1 67 (12 * r + k / 4 * 4) = q) (hq8 : q < 8) (h4 : k % 4 ≠ 0) : Con y_Mo_typeAt w_Mo_typeAt (g_rm (d)) LX M1 [g_r 45, g_i (f : Int), g_i (r : Int), g_i (k : Int)] LX M1 (some (g_i (M 48 (3 * q + (k % 4 - 1))))) := by
  refine con_of (av := [g_r 45, g_i (f : Int), g_i (r : Int), g_i (k : Int)]) (ls0 := [some (g_r 45), some (g_i (f : Int)), some (g_i (r : Int)), some (g_i (k : Int))]) (by decide) rfl (Nat.le_of_ble_eq_true rfl) (g_hls (av := [g_r 45, g_i (f : Int), g_i (r : Int), g_i (k : Int)]) (k := 0)) (fun _ h9 => List.mem_cons_of_mem _ h9) ?_
  refine ev_iload_n (i := 3) d_Mo_typeAt_0 rfl rfl rfl ?_
  refine ev_iconst d_Mo_typeAt_1 rfl ⟨by decide, by decide⟩ ?_
  refine ev_irem (z := ((k % 4 : Nat) : Int)) d_Mo_typeAt_2 rfl (by decide) (y_rem k hk) ?_
  refine ev_if_ne_t (tgt := 21) d_Mo_typeAt_3 (by decide) (by omega) ?_
  refine ev_aload_n (i := 0) d_Mo_typeAt_21 rfl rfl rfl ?_
  refine ev_getR d_Mo_typeAt_22 rfl lk_Mo_16 lx_45 rfl ?_
  refine ev_iconst d_Mo_typeAt_25 rfl ⟨by decide, by decide⟩ ?_
  refine ev_aload_n (i := 0) d_Mo_typeAt_26 rfl rfl rfl ?_
  refine ev_getR d_Mo_typeAt_27 rfl lk_Mo_74 lx_45 rfl ?_
  refine ev_bipush d_Mo_typeAt_30 rfl (by decide +kernel) ⟨by decide, by decide⟩ ?_
  refine ev_iload_n (i := 2) d_Mo_typeAt_32 rfl rfl rfl ?_
  refine ev_imul (z := 12 * (r : Int)) d_Mo_typeAt_33 rfl (g_w_id (by unfold g_rg; omega)) ?_
  refine ev_iload_n (i := 3) d_Mo_typeAt_34 rfl rfl rfl ?_
  refine ev_iconst d_Mo_typeAt_35 rfl ⟨by decide, by decide⟩ ?_
  refine ev_idiv (z := ((k / 4 : Nat) : Int)) d_Mo_typeAt_36 rfl (by decide) (y_div k hk) ?_
  refine ev_iconst d_Mo_typeAt_37 rfl ⟨by decide, by decide⟩ ?_
  refine ev_imul (z := ((k / 4 * 4 : Nat) : Int)) d_Mo_typeAt_38 rfl (by rw [g_w_id (by unfold g_rg; omega)]; omega) ?_
  refine ev_iadd (z := ((12 * r + k / 4 * 4 : Nat) : Int)) d_Mo_typeAt_39 rfl (by rw [g_w_id (by unfold g_rg; omega)]; omega) ?_
  refine ev_iaload (z := (q : Int)) d_Mo_typeAt_40 rfl lx_67 (by omega) (by omega) (by rw [Int.toNat_natCast]; exact hq) ?_
  refine ev_imul (z := 3 * (q : Int)) d_Mo_typeAt_41 rfl (g_w_id (by unfold g_rg; omega)) ?_
  refine ev_iload_n (i := 3) d_Mo_typeAt_42 rfl rfl rfl ?_
  refine ev_iconst d_Mo_typeAt_43 rfl ⟨by decide, by decide⟩ ?_
  refine ev_irem (z := ((k % 4 : Nat) : Int)) d_Mo_typeAt_44 rfl (by decide) (y_rem k hk) ?_
  refine ev_iadd (z := 3 * (q : Int) + ((k % 4 : Nat) : Int)) d_Mo_typeAt_45 rfl (g_w_id (by unfold g_rg; omega)) ?_
  refine ev_iconst d_Mo_typeAt_46 rfl ⟨by decide, by decide⟩ ?_
  refine ev_isub (z := ((3 * q + (k % 4 - 1) : Nat) : Int)) d_Mo_typeAt_47 rfl (by rw [g_w_id (by unfold g_rg; omega)]; omega) ?_
  refine ev_iaload (z := M 48 (3 * q + (k % 4 - 1))) d_Mo_typeAt_48 rfl lx_48 (by omega) (by omega) (by rw [Int.toNat_natCast]; exact he 48 _ (by decide)) ?_
  exact ev_retI d_Mo_typeAt_49 (by first | rfl | omega | simp_all) rfl (Or.inl rfl)
theorem c_Mo_stands (d : Nat) (M : g_M) (M1 : g_M) (c r f w : Nat) (he : e67 M M1) (hc : c < 24) (hr : r < 99) (hf56 : M 56 c = f) (hf6 : f < 6) (hw50 : M 50 f = w) (hw3 : w ≤ 3) (hpat : ∀ i : Nat, i < w → ∃ p : Nat, M 57 (3 * c + i) = p ∧ p < 100) (hwants : ∀ p i j : Nat, i < w → j < 4 → M 57 (3 * c + i) = p → Con y_Mo_wants w_Mo_wants (g_rm (d + 0)) LX M1 [g_r 45, g_i (p : Int), g_i (j : Int)] LX M1 (some (g_i (y_w M p j)))) : ConR y_Mo_stands w_Mo_stands (g_rm (d + 1)) LX M1 [g_r 45, g_i (c : Int), g_i (r : Int)] LX (fun M2 v2 => M2 = M1 ∧ ∃ x : Int, v2 = some (g_i x) ∧ ((x = -2 ∧ ∃ s : Nat, s < 12 ∧ 0 ≤ (y_W M c) s ∧ 0 ≤ (fun q => M1 67 (12 * r + q)) s ∧ (y_W M c) s ≠ (fun q => M1 67 (12 * r + q)) s) ∨ y_st (y_W M c) (fun q => M1 67 (12 * r + q)) 0 x)) := by
  refine con_ofR (av := [g_r 45, g_i (c : Int), g_i (r : Int)]) (ls0 := [some (g_r 45), some (g_i (c : Int)), some (g_i (r : Int)), none, none, none, none]) (by decide) rfl (Nat.le_of_ble_eq_true rfl) (g_hls (av := [g_r 45, g_i (c : Int), g_i (r : Int)]) (k := 4)) (fun _ h9 => List.mem_cons_of_mem _ h9) ?_
  refine ev_iconst d_Mo_stands_0 rfl ⟨by decide, by decide⟩ ?_
  refine ev_istore_n (i := 3) d_Mo_stands_1 rfl rfl (by decide) rfl ?_
  refine ev_bipush d_Mo_stands_2 rfl (by decide +kernel) ⟨by decide, by decide⟩ ?_
  refine ev_istore (i := 4) d_Mo_stands_4 rfl (by decide) rfl ?_
  refine ev_wl (fun n ls1 => ∃ (i : Nat) (x : Int), i ≤ 12 ∧ n = i ∧ ls1 = [some (g_r 45), some (g_i (c : Int)), some (g_i (r : Int)), some (g_i x), some (g_i ((i : Int) - 1)), none, none] ∧ y_st (y_W M c) (fun q => M1 67 (12 * r + q)) i x) ?_ (n := 12) (⟨12, -1, Nat.le_refl _, rfl, rfl, y_st_0 _ _⟩)
  intro n ls1 hP ih
  obtain ⟨i, x, hi, hn, rfl, hst⟩ := hP
  refine ev_iload (i := 4) d_Mo_stands_6 rfl rfl ?_
  refine ev_if_lt (tgt := 113) d_Mo_stands_8 (by decide) rfl (fun hz => ?_) (fun hz => ?_)
  · refine ev_iload_n (i := 3) d_Mo_stands_113 rfl rfl rfl ?_
    exact ev_retIR d_Mo_stands_114 (⟨rfl, x, rfl, Or.inr (by have e : i = 0 := (by omega); subst e; exact hst)⟩) (Or.inl rfl)
  · obtain ⟨k, rfl⟩ : ∃ k, i = k + 1 := ⟨i - 1, by omega⟩
    refine ev_iload (i := 4) d_Mo_stands_11 rfl rfl ?_
    refine ev_iconst d_Mo_stands_13 rfl ⟨by decide, by decide⟩ ?_
    refine ev_idiv (z := ((k / 4 : Nat) : Int)) d_Mo_stands_14 rfl (by decide) (by rw [show (((k + 1 : Nat) : Int) - 1) = (k : Int) by omega]; exact y_div k (by omega)) ?_
    refine ev_aload_n (i := 0) d_Mo_stands_15 rfl rfl rfl ?_
    refine ev_getR d_Mo_stands_16 rfl lk_Mo_22 lx_45 rfl ?_
    refine ev_aload_n (i := 0) d_Mo_stands_19 rfl rfl rfl ?_
    refine ev_getR d_Mo_stands_20 rfl lk_Mo_40 lx_45 rfl ?_
    refine ev_iload_n (i := 1) d_Mo_stands_23 rfl rfl rfl ?_
    refine ev_iaload (z := (f : Int)) d_Mo_stands_24 rfl lx_56 (by omega) (by omega) ((he 56 _ (by decide)).trans (hf56)) ?_
    refine ev_iaload (z := (w : Int)) d_Mo_stands_25 rfl lx_50 (by omega) (by omega) ((he 50 _ (by decide)).trans (hw50)) ?_
    refine ev_icmp_ge (tgt := 53) d_Mo_stands_26 (by decide) rfl (fun c0 => ?_) (fun c0 => ?_)
    · have hWn : y_W M c k = -1 := y_W_n hf56 hw50 (by omega)
      refine ev_iconst d_Mo_stands_53 rfl ⟨by decide, by decide⟩ ?_
      refine ev_istore (i := 5) d_Mo_stands_54 rfl (by decide) rfl ?_
      refine ev_aload_n (i := 0) d_Mo_stands_56 rfl rfl rfl ?_
      refine ev_getR d_Mo_stands_57 rfl lk_Mo_74 lx_45 rfl ?_
      refine ev_bipush d_Mo_stands_60 rfl (by decide +kernel) ⟨by decide, by decide⟩ ?_
      refine ev_iload_n (i := 2) d_Mo_stands_62 rfl rfl rfl ?_
      refine ev_imul (z := 12 * (r : Int)) d_Mo_stands_63 rfl (g_w_id (by unfold g_rg; omega)) ?_
      refine ev_iload (i := 4) d_Mo_stands_64 rfl rfl ?_
      refine ev_iadd (z := ((12 * r + k : Nat) : Int)) d_Mo_stands_66 rfl (by rw [g_w_id (by unfold g_rg; omega)]; omega) ?_
      refine ev_iaload (z := M1 67 (12 * r + k)) d_Mo_stands_67 rfl lx_67 (by omega) (by omega) (by rw [Int.toNat_natCast]) ?_
      refine ev_istore (i := 6) d_Mo_stands_68 rfl (by decide) rfl ?_
      refine ev_iload (i := 5) d_Mo_stands_70 rfl rfl ?_
      refine ev_if_lt_t (tgt := 90) d_Mo_stands_72 (by decide) (by decide) ?_
      refine ev_iload (i := 5) d_Mo_stands_90 rfl rfl ?_
      refine ev_if_lt_t (tgt := 105) d_Mo_stands_92 (by decide) (by decide) ?_
      have hW0 : y_W M c k < 0 := by rw [hWn]; decide
      refine ev_iload_n (i := 3) d_Mo_stands_105 rfl rfl rfl ?_
      refine ev_istore_n (i := 3) d_Mo_stands_106 rfl rfl (by decide) rfl ?_
      refine ev_iinc (z := (k : Int) - 1) d_Mo_stands_107 rfl rfl (by decide) (by rw [g_w_id (by unfold g_rg; omega)]; omega) rfl ?_
      refine ev_goto (tgt := 6) d_Mo_stands_110 (by decide) ?_
      exact ev_le (ih k [some (g_r 45), some (g_i (c : Int)), some (g_i (r : Int)), some (g_i x), some (g_i ((k : Int) - 1)), none, none] (by omega) ⟨k, _, by omega, rfl, rfl, y_st_s (Or.inl hW0) hst⟩) rfl ⟨rfl, rfl, rfl, rfl, congrArg (fun z => some (some (g_i z))) (by omega), trivial⟩
    · obtain ⟨p, hp1, hp100⟩ := hpat (k / 4) (by omega)
      refine ev_aload_n (i := 0) d_Mo_stands_29 rfl rfl rfl ?_
      refine ev_aload_n (i := 0) d_Mo_stands_30 rfl rfl rfl ?_
      refine ev_getR d_Mo_stands_31 rfl lk_Mo_43 lx_45 rfl ?_
      refine ev_iconst d_Mo_stands_34 rfl ⟨by decide, by decide⟩ ?_
      refine ev_iload_n (i := 1) d_Mo_stands_35 rfl rfl rfl ?_
      refine ev_imul (z := 3 * (c : Int)) d_Mo_stands_36 rfl (g_w_id (by unfold g_rg; omega)) ?_
      refine ev_iload (i := 4) d_Mo_stands_37 rfl rfl ?_
      refine ev_iconst d_Mo_stands_39 rfl ⟨by decide, by decide⟩ ?_
      refine ev_idiv (z := ((k / 4 : Nat) : Int)) d_Mo_stands_40 rfl (by decide) (by rw [show (((k + 1 : Nat) : Int) - 1) = (k : Int) by omega]; exact y_div k (by omega)) ?_
      refine ev_iadd (z := ((3 * c + k / 4 : Nat) : Int)) d_Mo_stands_41 rfl (by rw [g_w_id (by unfold g_rg; omega)]; omega) ?_
      refine ev_iaload (z := (p : Int)) d_Mo_stands_42 rfl lx_57 (by omega) (by omega) (by rw [Int.toNat_natCast]; exact (he 57 _ (by decide)).trans hp1) ?_
      refine ev_iload (i := 4) d_Mo_stands_43 rfl rfl ?_
      refine ev_iconst d_Mo_stands_45 rfl ⟨by decide, by decide⟩ ?_
      refine ev_irem (z := ((k % 4 : Nat) : Int)) d_Mo_stands_46 rfl (by decide) (by rw [show (((k + 1 : Nat) : Int) - 1) = (k : Int) by omega]; exact y_rem k (by omega)) ?_
      refine ev_callV (As := [g_i ((p : Int)), g_i (((k % 4 : Nat) : Int))]) d_Mo_stands_47 rfl cl_Mo_173 ((hwants p (k / 4) (k % 4) (by omega) (by omega) hp1).eqr (b := y_W M c k) (by rw [← y_W_y hf56 hw50 (by omega : k / 4 < w) hp1 (by omega : k % 4 < 4), show 4 * (k / 4) + k % 4 = k by omega])) (g_hR (by decide)) g_h0 lx_45 rfl rfl (Nat.le_of_ble_eq_true rfl) rfl rfl ?_
      refine ev_goto (tgt := 54) d_Mo_stands_50 (by decide) ?_
      refine ev_istore (i := 5) d_Mo_stands_54 rfl (by decide) rfl ?_
      refine ev_aload_n (i := 0) d_Mo_stands_56 rfl rfl rfl ?_
      refine ev_getR d_Mo_stands_57 rfl lk_Mo_74 lx_45 rfl ?_
      refine ev_bipush d_Mo_stands_60 rfl (by decide +kernel) ⟨by decide, by decide⟩ ?_
      refine ev_iload_n (i := 2) d_Mo_stands_62 rfl rfl rfl ?_
      refine ev_imul (z := 12 * (r : Int)) d_Mo_stands_63 rfl (g_w_id (by unfold g_rg; omega)) ?_
      refine ev_iload (i := 4) d_Mo_stands_64 rfl rfl ?_
      refine ev_iadd (z := ((12 * r + k : Nat) : Int)) d_Mo_stands_66 rfl (by rw [g_w_id (by unfold g_rg; omega)]; omega) ?_
      refine ev_iaload (z := M1 67 (12 * r + k)) d_Mo_stands_67 rfl lx_67 (by omega) (by omega) (by rw [Int.toNat_natCast]) ?_
      refine ev_istore (i := 6) d_Mo_stands_68 rfl (by decide) rfl ?_
      refine ev_iload (i := 5) d_Mo_stands_70 rfl rfl ?_
      refine ev_if_lt (tgt := 90) d_Mo_stands_72 (by decide) rfl (fun c1 => ?_) (fun c1 => ?_)
      · refine ev_iload (i := 5) d_Mo_stands_90 rfl rfl ?_
        refine ev_if_lt_t (tgt := 105) d_Mo_stands_92 (by decide) (c1) ?_
        have hW0 : y_W M c k < 0 := c1
        refine ev_iload_n (i := 3) d_Mo_stands_105 rfl rfl rfl ?_
        refine ev_istore_n (i := 3) d_Mo_stands_106 rfl rfl (by decide) rfl ?_
        refine ev_iinc (z := (k : Int) - 1) d_Mo_stands_107 rfl rfl (by decide) (by rw [g_w_id (by unfold g_rg; omega)]; omega) rfl ?_
        refine ev_goto (tgt := 6) d_Mo_stands_110 (by decide) ?_
        exact ev_le (ih k [some (g_r 45), some (g_i (c : Int)), some (g_i (r : Int)), some (g_i x), some (g_i ((k : Int) - 1)), none, none] (by omega) ⟨k, _, by omega, rfl, rfl, y_st_s (Or.inl hW0) hst⟩) rfl ⟨rfl, rfl, rfl, rfl, congrArg (fun z => some (some (g_i z))) (by omega), trivial⟩
      · refine ev_iload (i := 6) d_Mo_stands_75 rfl rfl ?_
        refine ev_if_lt (tgt := 90) d_Mo_stands_77 (by decide) rfl (fun c2 => ?_) (fun c2 => ?_)
        · refine ev_iload (i := 5) d_Mo_stands_90 rfl rfl ?_
          refine ev_if_lt_f (tgt := 105) d_Mo_stands_92 (by decide) rfl (c1) ?_
          refine ev_iload (i := 6) d_Mo_stands_95 rfl rfl ?_
          refine ev_if_ge_f (tgt := 105) d_Mo_stands_97 (by decide) rfl (by omega) ?_
          have hR0 : (fun q => M1 67 (12 * r + q)) k < 0 := by show M1 67 (12 * r + k) < 0; omega
          have hW1 : 0 ≤ y_W M c k := by omega
          refine ev_iload (i := 4) d_Mo_stands_100 rfl rfl ?_
          refine ev_goto (tgt := 106) d_Mo_stands_102 (by decide) ?_
          refine ev_istore_n (i := 3) d_Mo_stands_106 rfl rfl (by decide) rfl ?_
          refine ev_iinc (z := (k : Int) - 1) d_Mo_stands_107 rfl rfl (by decide) (by rw [g_w_id (by unfold g_rg; omega)]; omega) rfl ?_
          refine ev_goto (tgt := 6) d_Mo_stands_110 (by decide) ?_
          exact ev_le (ih k [some (g_r 45), some (g_i (c : Int)), some (g_i (r : Int)), some (g_i (k : Int)), some (g_i ((k : Int) - 1)), none, none] (by omega) ⟨k, _, by omega, rfl, rfl, y_st_a (by omega) hW1 hR0 hst⟩) rfl ⟨rfl, rfl, rfl, congrArg (fun z => some (some (g_i z))) (by omega), congrArg (fun z => some (some (g_i z))) (by omega), trivial⟩
        · refine ev_iload (i := 5) d_Mo_stands_80 rfl rfl ?_
          refine ev_iload (i := 6) d_Mo_stands_82 rfl rfl ?_
          refine ev_icmp_eq (tgt := 90) d_Mo_stands_84 (by decide) rfl (fun c3 => ?_) (fun c3 => ?_)
          · refine ev_iload (i := 5) d_Mo_stands_90 rfl rfl ?_
            refine ev_if_lt_f (tgt := 105) d_Mo_stands_92 (by decide) rfl (c1) ?_
            refine ev_iload (i := 6) d_Mo_stands_95 rfl rfl ?_
            refine ev_if_ge_t (tgt := 105) d_Mo_stands_97 (by decide) (by omega) ?_
            have hR1 : 0 ≤ (fun q => M1 67 (12 * r + q)) k := by show 0 ≤ M1 67 (12 * r + k); omega
            have hWR : y_W M c k = (fun q => M1 67 (12 * r + q)) k := c3
            refine ev_iload_n (i := 3) d_Mo_stands_105 rfl rfl rfl ?_
            refine ev_istore_n (i := 3) d_Mo_stands_106 rfl rfl (by decide) rfl ?_
            refine ev_iinc (z := (k : Int) - 1) d_Mo_stands_107 rfl rfl (by decide) (by rw [g_w_id (by unfold g_rg; omega)]; omega) rfl ?_
            refine ev_goto (tgt := 6) d_Mo_stands_110 (by decide) ?_
            exact ev_le (ih k [some (g_r 45), some (g_i (c : Int)), some (g_i (r : Int)), some (g_i x), some (g_i ((k : Int) - 1)), none, none] (by omega) ⟨k, _, by omega, rfl, rfl, y_st_s (Or.inr ⟨hR1, hWR⟩) hst⟩) rfl ⟨rfl, rfl, rfl, rfl, congrArg (fun z => some (some (g_i z))) (by omega), trivial⟩
          · refine ev_bipush d_Mo_stands_87 rfl (by decide +kernel) ⟨by decide, by decide⟩ ?_
            exact ev_retIR d_Mo_stands_89 (⟨rfl, -2, rfl, Or.inl ⟨rfl, k, by omega, by omega, by show 0 ≤ M1 67 (12 * r + k); omega, c3⟩⟩) (Or.inl rfl)
