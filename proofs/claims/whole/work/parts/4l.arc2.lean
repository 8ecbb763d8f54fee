theorem q_in_0 {M : g_M} (hP : r_P M) {y : Nat} (hy : (y : Int) < M 45 8) (h : M 54 y ≤ 0) (t : Nat) : q_in M y t = false := by
  have hT := hP.2.2.1.2.1
  have h52 : M 52 y < 8 := by
    rcases (hP.2.2.1.2.2.1 y hy).1 with h9 | h9 | h9 <;> omega
  have hw : q_w M y = 0 := by
    unfold q_w
    rw [if_pos h52]
  rw [q_in_eq hT hy, hw]
  rfl
/-- the reference's look inside a pattern is the class's -/
theorem z_i_in {M : g_M} (hP : r_P M) {p t : Nat} (hp : (p : Int) < M 45 8) (ht : (t : Int) < M 45 8) (h2 : M 54 p ≤ 2) : (List.range (q_w M p).toNat).any (z_i M t p) = q_in M p t := by
  have hT := hP.2.2.1.2.1
  rw [q_in_eq hT hp]
  obtain ⟨-, -, a3, a4, a5, -⟩ := hT.2.2 p hp
  have key : ∀ k ∈ List.range (q_w M p).toNat, z_i M t p k = (q_a M (M 53 (3 * p + k)).toNat t || q_in M (M 53 (3 * p + k)).toNat t) := by
    intro k hk
    have hk' := List.mem_range.mp hk
    have h1 := a5 k (by omega)
    have hx : (((M 53 (3 * p + k)).toNat : Nat) : Int) < M 45 8 := by omega
    have hh := ((hP.2.2.1.2.2.1 p hp).2.2.1 k (by omega)).2
    obtain ⟨-, -, b3, b4, b5, -⟩ := hT.2.2 _ hx
    unfold z_i
    rw [q_a_sym hT t _ ht hx, q_in_eq hT hx]
    congr 1
    have key2 : ∀ j ∈ List.range (q_w M (M 53 (3 * p + k)).toNat).toNat, q_a M t (M 53 (3 * (M 53 (3 * p + k)).toNat + j)).toNat = (q_a M (M 53 (3 * (M 53 (3 * p + k)).toNat + j)).toNat t || q_in M (M 53 (3 * (M 53 (3 * p + k)).toNat + j)).toNat t) := by
      intro j hj
      have hj' := List.mem_range.mp hj
      have h3 := b5 j (by omega)
      have hy : (((M 53 (3 * (M 53 (3 * p + k)).toNat + j)).toNat : Nat) : Int) < M 45 8 := by omega
      have hh2 := ((hP.2.2.1.2.2.1 _ hx).2.2.1 j (by omega)).2
      rw [q_a_sym hT t _ ht hy, q_in_0 hP hy (by omega), Bool.or_false]
    rw [Bool.eq_iff_iff, List.any_eq_true, List.any_eq_true]
    exact ⟨fun ⟨j, hj, h⟩ => ⟨j, hj, by rw [← key2 j hj]; exact h⟩, fun ⟨j, hj, h⟩ => ⟨j, hj, by rw [key2 j hj]; exact h⟩⟩
  rw [Bool.eq_iff_iff, List.any_eq_true, List.any_eq_true]
  exact ⟨fun ⟨j, hj, h⟩ => ⟨j, hj, by rw [← key j hj]; exact h⟩, fun ⟨j, hj, h⟩ => ⟨j, hj, by rw [key j hj]; exact h⟩⟩
theorem c_Mo_inside_a (d : Nat) {M M1 : g_M} (hP : r_P M) (hq : q_eq M M1) (t p : Nat) (ht : (t : Int) < M 45 8) (hp : (p : Int) < M 45 8) (h2 : M 54 p ≤ 2) : ConR y_Mo_inside w_Mo_inside (g_rm (d + 3)) LX M1 [g_r 45, g_i (t : Int), g_i (p : Int)] LX (fun M2 v2 => v2 = some (g_i (z_arc M p t)) ∧ q_eq M M2) := by
  have hT := hP.2.2.1.2.1
  have h8 : M1 45 8 = M 45 8 := hq 45 8 (by decide) (by decide) (by decide)
  obtain ⟨-, -, a3, a4, a5, -⟩ := hT.2.2 p hp
  refine (c_Mo_inside d M1 t p (q_w M p).toNat (q_T_cg hq.e46 h8 hT) (by rw [h8]; exact ht) (by rw [h8]; exact hp) (by rw [q_w_eq hq]; omega)).mono (fun M2 v2 h => ⟨?_, hq.tr h.2⟩)
  have e : z_i M1 t p = z_i M t p := by
    funext k
    unfold z_i
    simp only [q_a_cg hq.e46, q_w_eq hq, hq.e46 53 (by decide)]
  rw [h.1, q_a_cg hq.e46, e, z_i_in hP hp ht h2, q_a_sym hT t p ht hp]
  rfl
theorem q_eq_44 {M M1 : g_M} (h : q_eq M M1) (z : Int) : q_eq (g_up M 45 44 z) (g_up M1 45 44 z) := by
  intro k b h1 h2 h3
  simp only [g_up]
  split
  · rfl
  · exact h k b h1 h2 h3
theorem c_Mo_arcOf (d : Nat) (M : g_M) (M1 : g_M) (c x i j p y : Nat) (hP : r_P M) (hq : q_eq M M1) (hc : c < 24) (hx : x < 100) (hi : i < 3) (hj : j < 3) (hp : M 57 (3 * c + i) = p) (hy : M 53 (3 * x + j) = y) (hyt : (y : Int) < M 45 8) (hpt : (p : Int) < M 45 8) (h2 : M 54 p ≤ 2) : ConR y_Mo_arcOf w_Mo_arcOf (g_rm (d + 4)) LX M1 [g_r 45, g_i (c : Int), g_i (x : Int), g_i (i : Int), g_i (j : Int)] LX (fun M2 v2 => v2 = some (g_i (z_arc M p y)) ∧ q_eq M M2) := by
  refine con_ofR (av := [g_r 45, g_i (c : Int), g_i (x : Int), g_i (i : Int), g_i (j : Int)]) (ls0 := [some (g_r 45), some (g_i (c : Int)), some (g_i (x : Int)), some (g_i (i : Int)), some (g_i (j : Int))]) (by decide) rfl (Nat.le_of_ble_eq_true rfl) (g_hls (av := [g_r 45, g_i (c : Int), g_i (x : Int), g_i (i : Int), g_i (j : Int)]) (k := 0)) (fun _ h9 => List.mem_cons_of_mem _ h9) ?_
  refine ev_aload_n (i := 0) d_Mo_arcOf_0 rfl rfl rfl ?_
  refine ev_aload_n (i := 0) d_Mo_arcOf_1 rfl rfl rfl ?_
  refine ev_getR d_Mo_arcOf_2 rfl lk_Mo_31 lx_45 rfl ?_
  refine ev_iconst d_Mo_arcOf_5 rfl ⟨by decide, by decide⟩ ?_
  refine ev_iload_n (i := 2) d_Mo_arcOf_6 rfl rfl rfl ?_
  refine ev_imul (z := 3 * (x : Int)) d_Mo_arcOf_7 rfl (g_w_id (by unfold g_rg; omega)) ?_
  refine ev_iload (i := 4) d_Mo_arcOf_8 rfl rfl ?_
  refine ev_iadd (z := 3 * (x : Int) + (j : Int)) d_Mo_arcOf_10 rfl (g_w_id (by unfold g_rg; omega)) ?_
  refine ev_iaload (z := (y : Int)) d_Mo_arcOf_11 rfl lx_53 (by omega) (by omega) (by rw [show (3 * (x : Int) + (j : Int)).toNat = 3 * x + j by omega, hq 53 _ (by decide) (by decide) (by omega)]; exact hy) ?_
  refine ev_aload_n (i := 0) d_Mo_arcOf_12 rfl rfl rfl ?_
  refine ev_getR d_Mo_arcOf_13 rfl lk_Mo_43 lx_45 rfl ?_
  refine ev_iconst d_Mo_arcOf_16 rfl ⟨by decide, by decide⟩ ?_
  refine ev_iload_n (i := 1) d_Mo_arcOf_17 rfl rfl rfl ?_
  refine ev_imul (z := 3 * (c : Int)) d_Mo_arcOf_18 rfl (g_w_id (by unfold g_rg; omega)) ?_
  refine ev_iload_n (i := 3) d_Mo_arcOf_19 rfl rfl rfl ?_
  refine ev_iadd (z := 3 * (c : Int) + (i : Int)) d_Mo_arcOf_20 rfl (g_w_id (by unfold g_rg; omega)) ?_
  refine ev_iaload (z := (p : Int)) d_Mo_arcOf_21 rfl lx_57 (by omega) (by omega) (by rw [show (3 * (c : Int) + (i : Int)).toNat = 3 * c + i by omega, hq 57 _ (by decide) (by decide) (by omega)]; exact hp) ?_
  refine ev_callVR (As := [g_i ((y : Int)), g_i ((p : Int))]) d_Mo_arcOf_22 rfl cl_Mo_189 (c_Mo_inside_a (d + 0) hP hq y p hyt hpt h2) (g_hR (by decide)) g_h0 lx_45 rfl rfl (Nat.le_of_ble_eq_true rfl) rfl rfl (fun M3 v9 g9 => ?_)
  obtain ⟨rfl, hq3⟩ := g9
  exact ev_retIR d_Mo_arcOf_25 (⟨rfl, hq3⟩) (Or.inl rfl)
theorem c_Mo_arc_x1 (d : Nat) (M : g_M) (c b k : Nat) (i j : Int) (hT : q_T M) (hc : c < 24) (hcm : (c : Int) < M 45 13) (hbd : M 58 c = b) (hb : (b : Int) < M 45 8) (hk31 : k < 2147483648) (hk : q_call (M 52) (q_pl M b) k = -1) : ConR y_Mo_arc w_Mo_arc (g_rm (d + 5)) LX M [g_r 45, g_i (c : Int), g_i (k : Int), g_i i, g_i j] LX (fun M2 v2 => v2 = some (g_i 0) ∧ q_eq (g_up M 45 44 1) M2) := by
  refine con_ofR (av := [g_r 45, g_i (c : Int), g_i (k : Int), g_i i, g_i j]) (ls0 := [some (g_r 45), some (g_i (c : Int)), some (g_i (k : Int)), some (g_i i), some (g_i j), none, none, none]) (by decide) rfl (Nat.le_of_ble_eq_true rfl) (g_hls (av := [g_r 45, g_i (c : Int), g_i (k : Int), g_i i, g_i j]) (k := 3)) (fun _ h9 => List.mem_cons_of_mem _ h9) ?_
  refine ev_iload_n (i := 1) d_Mo_arc_0 rfl rfl rfl ?_
  refine ev_if_lt_f (tgt := 20) d_Mo_arc_1 (by decide) rfl (by omega) ?_
  refine ev_iload_n (i := 1) d_Mo_arc_4 rfl rfl rfl ?_
  refine ev_aload_n (i := 0) d_Mo_arc_5 rfl rfl rfl ?_
  refine ev_getI (z := M 45 13) d_Mo_arc_6 rfl lk_Mo_166 lx_45 rfl (rfl) ?_
  refine ev_icmp_ge_f (tgt := 20) d_Mo_arc_9 (by decide) rfl (by omega) ?_
  refine ev_iload_n (i := 2) d_Mo_arc_12 rfl rfl rfl ?_
  refine ev_if_lt_f (tgt := 20) d_Mo_arc_13 (by decide) rfl (by omega) ?_
  refine ev_iconst d_Mo_arc_16 rfl ⟨by decide, by decide⟩ ?_
  refine ev_goto (tgt := 21) d_Mo_arc_17 (by decide) ?_
  refine ev_istore (i := 5) d_Mo_arc_21 rfl (by decide) rfl ?_
  refine ev_iload (i := 5) d_Mo_arc_23 rfl rfl ?_
  refine ev_if_eq_f (tgt := 37) d_Mo_arc_25 (by decide) rfl (by decide) ?_
  refine ev_aload_n (i := 0) d_Mo_arc_28 rfl rfl rfl ?_
  refine ev_iload_n (i := 1) d_Mo_arc_29 rfl rfl rfl ?_
  refine ev_iload_n (i := 2) d_Mo_arc_30 rfl rfl rfl ?_
  refine ev_callVR (As := [g_i (c : Int), g_i (k : Int)]) d_Mo_arc_31 rfl cl_Mo_198 (c_Mo_callOf (d + 2) M c b k hT hc hbd hb (by omega)) (g_hR (by decide)) g_h0 lx_45 rfl rfl (Nat.le_of_ble_eq_true rfl) rfl rfl (fun M3 v9 g9 => ?_)
  obtain ⟨rfl, hq3⟩ := g9
  rw [hk]
  refine ev_goto (tgt := 38) d_Mo_arc_34 (by decide) ?_
  refine ev_istore (i := 6) d_Mo_arc_38 rfl (by decide) rfl ?_
  refine ev_iload (i := 6) d_Mo_arc_40 rfl rfl ?_
  refine ev_if_lt_t (tgt := 111) d_Mo_arc_42 (by decide) (by decide) ?_
  refine ev_iconst d_Mo_arc_111 rfl ⟨by decide, by decide⟩ ?_
  refine ev_istore (i := 7) d_Mo_arc_112 rfl (by decide) rfl ?_
  refine ev_aload_n (i := 0) d_Mo_arc_114 rfl rfl rfl ?_
  refine ev_iload (i := 7) d_Mo_arc_115 rfl rfl ?_
  refine ev_if_eq_t (tgt := 124) d_Mo_arc_117 (by decide) (by decide) ?_
  refine ev_iconst d_Mo_arc_124 rfl ⟨by decide, by decide⟩ ?_
  refine ev_putI d_Mo_arc_125 rfl lk_Mo_104 fp_Mo_44 (Or.inl rfl) lx_45 rfl ?_
  refine ev_iload (i := 7) d_Mo_arc_128 rfl rfl ?_
  refine ev_if_eq_t (tgt := 146) d_Mo_arc_130 (by decide) (by decide) ?_
  refine ev_iconst d_Mo_arc_146 rfl ⟨by decide, by decide⟩ ?_
  exact ev_retIR d_Mo_arc_147 (⟨rfl, q_eq_44 hq3 1⟩) (Or.inl rfl)
theorem c_Mo_arc_x2 (d : Nat) (M : g_M) (c b k x f wf g wg : Nat) (i j : Int) (hT : q_T M) (hc : c < 24) (hcm : (c : Int) < M 45 13) (hbd : M 58 c = b) (hb : (b : Int) < M 45 8) (hk31 : k < 2147483648) (hk : q_call (M 52) (q_pl M b) k = x) (hx : x < 100) (hf : M 56 c = f) (hf6 : f < 6) (hwf : M 50 f = wf) (hg : M 52 x = 16 + (g : Int)) (hg6 : g < 6) (hwg : M 50 g = wg) (hij : ¬ (0 ≤ i ∧ i < wf ∧ 0 ≤ j ∧ j < wg)) : ConR y_Mo_arc w_Mo_arc (g_rm (d + 5)) LX M [g_r 45, g_i (c : Int), g_i (k : Int), g_i i, g_i j] LX (fun M2 v2 => v2 = some (g_i 0) ∧ q_eq (g_up M 45 44 1) M2) := by
  refine con_ofR (av := [g_r 45, g_i (c : Int), g_i (k : Int), g_i i, g_i j]) (ls0 := [some (g_r 45), some (g_i (c : Int)), some (g_i (k : Int)), some (g_i i), some (g_i j), none, none, none]) (by decide) rfl (Nat.le_of_ble_eq_true rfl) (g_hls (av := [g_r 45, g_i (c : Int), g_i (k : Int), g_i i, g_i j]) (k := 3)) (fun _ h9 => List.mem_cons_of_mem _ h9) ?_
  refine ev_iload_n (i := 1) d_Mo_arc_0 rfl rfl rfl ?_
  refine ev_if_lt_f (tgt := 20) d_Mo_arc_1 (by decide) rfl (by omega) ?_
  refine ev_iload_n (i := 1) d_Mo_arc_4 rfl rfl rfl ?_
  refine ev_aload_n (i := 0) d_Mo_arc_5 rfl rfl rfl ?_
  refine ev_getI (z := M 45 13) d_Mo_arc_6 rfl lk_Mo_166 lx_45 rfl (rfl) ?_
  refine ev_icmp_ge_f (tgt := 20) d_Mo_arc_9 (by decide) rfl (by omega) ?_
  refine ev_iload_n (i := 2) d_Mo_arc_12 rfl rfl rfl ?_
  refine ev_if_lt_f (tgt := 20) d_Mo_arc_13 (by decide) rfl (by omega) ?_
  refine ev_iconst d_Mo_arc_16 rfl ⟨by decide, by decide⟩ ?_
  refine ev_goto (tgt := 21) d_Mo_arc_17 (by decide) ?_
  refine ev_istore (i := 5) d_Mo_arc_21 rfl (by decide) rfl ?_
  refine ev_iload (i := 5) d_Mo_arc_23 rfl rfl ?_
  refine ev_if_eq_f (tgt := 37) d_Mo_arc_25 (by decide) rfl (by decide) ?_
  refine ev_aload_n (i := 0) d_Mo_arc_28 rfl rfl rfl ?_
  refine ev_iload_n (i := 1) d_Mo_arc_29 rfl rfl rfl ?_
  refine ev_iload_n (i := 2) d_Mo_arc_30 rfl rfl rfl ?_
  refine ev_callVR (As := [g_i (c : Int), g_i (k : Int)]) d_Mo_arc_31 rfl cl_Mo_198 (c_Mo_callOf (d + 2) M c b k hT hc hbd hb (by omega)) (g_hR (by decide)) g_h0 lx_45 rfl rfl (Nat.le_of_ble_eq_true rfl) rfl rfl (fun M3 v9 g9 => ?_)
  obtain ⟨rfl, hq3⟩ := g9
  rw [hk]
  refine ev_goto (tgt := 38) d_Mo_arc_34 (by decide) ?_
  refine ev_istore (i := 6) d_Mo_arc_38 rfl (by decide) rfl ?_
  refine ev_iload (i := 6) d_Mo_arc_40 rfl rfl ?_
  refine ev_if_lt_f (tgt := 111) d_Mo_arc_42 (by decide) rfl (by omega) ?_
  refine ev_iload_n (i := 3) d_Mo_arc_45 rfl rfl rfl ?_
  refine ev_if_lt (tgt := 111) d_Mo_arc_46 (by decide) rfl (fun h1 => ?_) (fun h1 => ?_)
  · refine ev_iconst d_Mo_arc_111 rfl ⟨by decide, by decide⟩ ?_
    refine ev_istore (i := 7) d_Mo_arc_112 rfl (by decide) rfl ?_
    refine ev_aload_n (i := 0) d_Mo_arc_114 rfl rfl rfl ?_
    refine ev_iload (i := 7) d_Mo_arc_115 rfl rfl ?_
    refine ev_if_eq_t (tgt := 124) d_Mo_arc_117 (by decide) (by decide) ?_
    refine ev_iconst d_Mo_arc_124 rfl ⟨by decide, by decide⟩ ?_
    refine ev_putI d_Mo_arc_125 rfl lk_Mo_104 fp_Mo_44 (Or.inl rfl) lx_45 rfl ?_
    refine ev_iload (i := 7) d_Mo_arc_128 rfl rfl ?_
    refine ev_if_eq_t (tgt := 146) d_Mo_arc_130 (by decide) (by decide) ?_
    refine ev_iconst d_Mo_arc_146 rfl ⟨by decide, by decide⟩ ?_
    exact ev_retIR d_Mo_arc_147 (⟨rfl, q_eq_44 hq3 1⟩) (Or.inl rfl)
  · refine ev_iload (i := 4) d_Mo_arc_49 rfl rfl ?_
    refine ev_if_lt (tgt := 111) d_Mo_arc_51 (by decide) rfl (fun h2 => ?_) (fun h2 => ?_)
    · refine ev_iconst d_Mo_arc_111 rfl ⟨by decide, by decide⟩ ?_
      refine ev_istore (i := 7) d_Mo_arc_112 rfl (by decide) rfl ?_
      refine ev_aload_n (i := 0) d_Mo_arc_114 rfl rfl rfl ?_
      refine ev_iload (i := 7) d_Mo_arc_115 rfl rfl ?_
      refine ev_if_eq_t (tgt := 124) d_Mo_arc_117 (by decide) (by decide) ?_
      refine ev_iconst d_Mo_arc_124 rfl ⟨by decide, by decide⟩ ?_
      refine ev_putI d_Mo_arc_125 rfl lk_Mo_104 fp_Mo_44 (Or.inl rfl) lx_45 rfl ?_
      refine ev_iload (i := 7) d_Mo_arc_128 rfl rfl ?_
      refine ev_if_eq_t (tgt := 146) d_Mo_arc_130 (by decide) (by decide) ?_
      refine ev_iconst d_Mo_arc_146 rfl ⟨by decide, by decide⟩ ?_
      exact ev_retIR d_Mo_arc_147 (⟨rfl, q_eq_44 hq3 1⟩) (Or.inl rfl)
    · refine ev_iload_n (i := 3) d_Mo_arc_54 rfl rfl rfl ?_
      refine ev_aload_n (i := 0) d_Mo_arc_55 rfl rfl rfl ?_
      refine ev_getR d_Mo_arc_56 rfl lk_Mo_22 lx_45 rfl ?_
      refine ev_aload_n (i := 0) d_Mo_arc_59 rfl rfl rfl ?_
      refine ev_getR d_Mo_arc_60 rfl lk_Mo_40 lx_45 rfl ?_
      refine ev_iload (i := 5) d_Mo_arc_63 rfl rfl ?_
      refine ev_if_eq_f (tgt := 72) d_Mo_arc_65 (by decide) rfl (by decide) ?_
      refine ev_iload_n (i := 1) d_Mo_arc_68 rfl rfl rfl ?_
      refine ev_goto (tgt := 73) d_Mo_arc_69 (by decide) ?_
      refine ev_iaload (z := (f : Int)) d_Mo_arc_73 rfl lx_56 (by omega) (by omega) ((hq3 56 _ (by decide) (by decide) (by omega)).trans hf) ?_
      refine ev_iaload (z := (wf : Int)) d_Mo_arc_74 rfl lx_50 (by omega) (by omega) ((hq3 50 _ (by decide) (by decide) (by omega)).trans hwf) ?_
      refine ev_icmp_ge (tgt := 111) d_Mo_arc_75 (by decide) rfl (fun h3 => ?_) (fun h3 => ?_)
      · refine ev_iconst d_Mo_arc_111 rfl ⟨by decide, by decide⟩ ?_
        refine ev_istore (i := 7) d_Mo_arc_112 rfl (by decide) rfl ?_
        refine ev_aload_n (i := 0) d_Mo_arc_114 rfl rfl rfl ?_
        refine ev_iload (i := 7) d_Mo_arc_115 rfl rfl ?_
        refine ev_if_eq_t (tgt := 124) d_Mo_arc_117 (by decide) (by decide) ?_
        refine ev_iconst d_Mo_arc_124 rfl ⟨by decide, by decide⟩ ?_
        refine ev_putI d_Mo_arc_125 rfl lk_Mo_104 fp_Mo_44 (Or.inl rfl) lx_45 rfl ?_
        refine ev_iload (i := 7) d_Mo_arc_128 rfl rfl ?_
        refine ev_if_eq_t (tgt := 146) d_Mo_arc_130 (by decide) (by decide) ?_
        refine ev_iconst d_Mo_arc_146 rfl ⟨by decide, by decide⟩ ?_
        exact ev_retIR d_Mo_arc_147 (⟨rfl, q_eq_44 hq3 1⟩) (Or.inl rfl)
      · refine ev_iload (i := 4) d_Mo_arc_78 rfl rfl ?_
        refine ev_aload_n (i := 0) d_Mo_arc_80 rfl rfl rfl ?_
        refine ev_getR d_Mo_arc_81 rfl lk_Mo_22 lx_45 rfl ?_
        refine ev_iload (i := 6) d_Mo_arc_84 rfl rfl ?_
        refine ev_if_ge_t (tgt := 93) d_Mo_arc_86 (by decide) (by omega) ?_
        refine ev_aload_n (i := 0) d_Mo_arc_93 rfl rfl rfl ?_
        refine ev_getR d_Mo_arc_94 rfl lk_Mo_28 lx_45 rfl ?_
        refine ev_iload (i := 6) d_Mo_arc_97 rfl rfl ?_
        refine ev_iaload (z := 16 + (g : Int)) d_Mo_arc_99 rfl lx_52 (by omega) (by omega) ((hq3 52 _ (by decide) (by decide) (by omega)).trans hg) ?_
        refine ev_bipush d_Mo_arc_100 rfl (by decide +kernel) ⟨by decide, by decide⟩ ?_
        refine ev_isub (z := (g : Int)) d_Mo_arc_102 rfl (by rw [g_w_id (by unfold g_rg; omega)]; omega) ?_
        refine ev_iaload (z := (wg : Int)) d_Mo_arc_103 rfl lx_50 (by omega) (by omega) ((hq3 50 _ (by decide) (by decide) (by omega)).trans hwg) ?_
        refine ev_icmp_ge_t (tgt := 111) d_Mo_arc_104 (by decide) (by omega) ?_
        refine ev_iconst d_Mo_arc_111 rfl ⟨by decide, by decide⟩ ?_
        refine ev_istore (i := 7) d_Mo_arc_112 rfl (by decide) rfl ?_
        refine ev_aload_n (i := 0) d_Mo_arc_114 rfl rfl rfl ?_
        refine ev_iload (i := 7) d_Mo_arc_115 rfl rfl ?_
        refine ev_if_eq_t (tgt := 124) d_Mo_arc_117 (by decide) (by decide) ?_
        refine ev_iconst d_Mo_arc_124 rfl ⟨by decide, by decide⟩ ?_
        refine ev_putI d_Mo_arc_125 rfl lk_Mo_104 fp_Mo_44 (Or.inl rfl) lx_45 rfl ?_
        refine ev_iload (i := 7) d_Mo_arc_128 rfl rfl ?_
        refine ev_if_eq_t (tgt := 146) d_Mo_arc_130 (by decide) (by decide) ?_
        refine ev_iconst d_Mo_arc_146 rfl ⟨by decide, by decide⟩ ?_
        exact ev_retIR d_Mo_arc_147 (⟨rfl, q_eq_44 hq3 1⟩) (Or.inl rfl)
theorem c_Mo_arc (d : Nat) (M : g_M) (c b k x f wf g wg i j p y : Nat) (hP : r_P M) (hc : c < 24) (hcm : (c : Int) < M 45 13) (hbd : M 58 c = b) (hb : (b : Int) < M 45 8) (hk31 : k < 2147483648) (hk : q_call (M 52) (q_pl M b) k = x) (hx : x < 100) (hf : M 56 c = f) (hf6 : f < 6) (hwf : M 50 f = wf) (hg : M 52 x = 16 + (g : Int)) (hg6 : g < 6) (hwg : M 50 g = wg) (hi : i < wf) (hj : j < wg) (hwf3 : wf ≤ 3) (hwg3 : wg ≤ 3) (hp : M 57 (3 * c + i) = p) (hy : M 53 (3 * x + j) = y) (hyt : (y : Int) < M 45 8) (hpt : (p : Int) < M 45 8) (h2 : M 54 p ≤ 2) : ConR y_Mo_arc w_Mo_arc (g_rm (d + 5)) LX M [g_r 45, g_i (c : Int), g_i (k : Int), g_i (i : Int), g_i (j : Int)] LX (fun M2 v2 => v2 = some (g_i (z_arc M p y)) ∧ q_eq (g_up M 45 44 0) M2) := by
  refine con_ofR (av := [g_r 45, g_i (c : Int), g_i (k : Int), g_i (i : Int), g_i (j : Int)]) (ls0 := [some (g_r 45), some (g_i (c : Int)), some (g_i (k : Int)), some (g_i (i : Int)), some (g_i (j : Int)), none, none, none]) (by decide) rfl (Nat.le_of_ble_eq_true rfl) (g_hls (av := [g_r 45, g_i (c : Int), g_i (k : Int), g_i (i : Int), g_i (j : Int)]) (k := 3)) (fun _ h9 => List.mem_cons_of_mem _ h9) ?_
  have hT := hP.2.2.1.2.1
  refine ev_iload_n (i := 1) d_Mo_arc_0 rfl rfl rfl ?_
  refine ev_if_lt_f (tgt := 20) d_Mo_arc_1 (by decide) rfl (by omega) ?_
  refine ev_iload_n (i := 1) d_Mo_arc_4 rfl rfl rfl ?_
  refine ev_aload_n (i := 0) d_Mo_arc_5 rfl rfl rfl ?_
  refine ev_getI (z := M 45 13) d_Mo_arc_6 rfl lk_Mo_166 lx_45 rfl (rfl) ?_
  refine ev_icmp_ge_f (tgt := 20) d_Mo_arc_9 (by decide) rfl (by omega) ?_
  refine ev_iload_n (i := 2) d_Mo_arc_12 rfl rfl rfl ?_
  refine ev_if_lt_f (tgt := 20) d_Mo_arc_13 (by decide) rfl (by omega) ?_
  refine ev_iconst d_Mo_arc_16 rfl ⟨by decide, by decide⟩ ?_
  refine ev_goto (tgt := 21) d_Mo_arc_17 (by decide) ?_
  refine ev_istore (i := 5) d_Mo_arc_21 rfl (by decide) rfl ?_
  refine ev_iload (i := 5) d_Mo_arc_23 rfl rfl ?_
  refine ev_if_eq_f (tgt := 37) d_Mo_arc_25 (by decide) rfl (by decide) ?_
  refine ev_aload_n (i := 0) d_Mo_arc_28 rfl rfl rfl ?_
  refine ev_iload_n (i := 1) d_Mo_arc_29 rfl rfl rfl ?_
  refine ev_iload_n (i := 2) d_Mo_arc_30 rfl rfl rfl ?_
  refine ev_callVR (As := [g_i (c : Int), g_i (k : Int)]) d_Mo_arc_31 rfl cl_Mo_198 (c_Mo_callOf (d + 2) M c b k hT hc hbd hb (by omega)) (g_hR (by decide)) g_h0 lx_45 rfl rfl (Nat.le_of_ble_eq_true rfl) rfl rfl (fun M3 v9 g9 => ?_)
  obtain ⟨rfl, hq3⟩ := g9
  rw [hk]
  refine ev_goto (tgt := 38) d_Mo_arc_34 (by decide) ?_
  refine ev_istore (i := 6) d_Mo_arc_38 rfl (by decide) rfl ?_
  refine ev_iload (i := 6) d_Mo_arc_40 rfl rfl ?_
  refine ev_if_lt_f (tgt := 111) d_Mo_arc_42 (by decide) rfl (by omega) ?_
  refine ev_iload_n (i := 3) d_Mo_arc_45 rfl rfl rfl ?_
  refine ev_if_lt_f (tgt := 111) d_Mo_arc_46 (by decide) rfl (by omega) ?_
  refine ev_iload (i := 4) d_Mo_arc_49 rfl rfl ?_
  refine ev_if_lt_f (tgt := 111) d_Mo_arc_51 (by decide) rfl (by omega) ?_
  refine ev_iload_n (i := 3) d_Mo_arc_54 rfl rfl rfl ?_
  refine ev_aload_n (i := 0) d_Mo_arc_55 rfl rfl rfl ?_
  refine ev_getR d_Mo_arc_56 rfl lk_Mo_22 lx_45 rfl ?_
  refine ev_aload_n (i := 0) d_Mo_arc_59 rfl rfl rfl ?_
  refine ev_getR d_Mo_arc_60 rfl lk_Mo_40 lx_45 rfl ?_
  refine ev_iload (i := 5) d_Mo_arc_63 rfl rfl ?_
  refine ev_if_eq_f (tgt := 72) d_Mo_arc_65 (by decide) rfl (by decide) ?_
  refine ev_iload_n (i := 1) d_Mo_arc_68 rfl rfl rfl ?_
  refine ev_goto (tgt := 73) d_Mo_arc_69 (by decide) ?_
  refine ev_iaload (z := (f : Int)) d_Mo_arc_73 rfl lx_56 (by omega) (by omega) ((hq3 56 _ (by decide) (by decide) (by omega)).trans hf) ?_
  refine ev_iaload (z := (wf : Int)) d_Mo_arc_74 rfl lx_50 (by omega) (by omega) ((hq3 50 _ (by decide) (by decide) (by omega)).trans hwf) ?_
  refine ev_icmp_ge_f (tgt := 111) d_Mo_arc_75 (by decide) rfl (by omega) ?_
  refine ev_iload (i := 4) d_Mo_arc_78 rfl rfl ?_
  refine ev_aload_n (i := 0) d_Mo_arc_80 rfl rfl rfl ?_
  refine ev_getR d_Mo_arc_81 rfl lk_Mo_22 lx_45 rfl ?_
  refine ev_iload (i := 6) d_Mo_arc_84 rfl rfl ?_
  refine ev_if_ge_t (tgt := 93) d_Mo_arc_86 (by decide) (by omega) ?_
  refine ev_aload_n (i := 0) d_Mo_arc_93 rfl rfl rfl ?_
  refine ev_getR d_Mo_arc_94 rfl lk_Mo_28 lx_45 rfl ?_
  refine ev_iload (i := 6) d_Mo_arc_97 rfl rfl ?_
  refine ev_iaload (z := 16 + (g : Int)) d_Mo_arc_99 rfl lx_52 (by omega) (by omega) ((hq3 52 _ (by decide) (by decide) (by omega)).trans hg) ?_
  refine ev_bipush d_Mo_arc_100 rfl (by decide +kernel) ⟨by decide, by decide⟩ ?_
  refine ev_isub (z := (g : Int)) d_Mo_arc_102 rfl (by rw [g_w_id (by unfold g_rg; omega)]; omega) ?_
  refine ev_iaload (z := (wg : Int)) d_Mo_arc_103 rfl lx_50 (by omega) (by omega) ((hq3 50 _ (by decide) (by decide) (by omega)).trans hwg) ?_
  refine ev_icmp_ge_f (tgt := 111) d_Mo_arc_104 (by decide) rfl (by omega) ?_
  refine ev_iconst d_Mo_arc_107 rfl ⟨by decide, by decide⟩ ?_
  refine ev_goto (tgt := 112) d_Mo_arc_108 (by decide) ?_
  refine ev_istore (i := 7) d_Mo_arc_112 rfl (by decide) rfl ?_
  refine ev_aload_n (i := 0) d_Mo_arc_114 rfl rfl rfl ?_
  refine ev_iload (i := 7) d_Mo_arc_115 rfl rfl ?_
  refine ev_if_eq_f (tgt := 124) d_Mo_arc_117 (by decide) rfl (by decide) ?_
  refine ev_iconst d_Mo_arc_120 rfl ⟨by decide, by decide⟩ ?_
  refine ev_goto (tgt := 125) d_Mo_arc_121 (by decide) ?_
  refine ev_putI d_Mo_arc_125 rfl lk_Mo_104 fp_Mo_44 (Or.inl rfl) lx_45 rfl ?_
  refine ev_iload (i := 7) d_Mo_arc_128 rfl rfl ?_
  refine ev_if_eq_f (tgt := 146) d_Mo_arc_130 (by decide) rfl (by decide) ?_
  refine ev_aload_n (i := 0) d_Mo_arc_133 rfl rfl rfl ?_
  refine ev_iload_n (i := 1) d_Mo_arc_134 rfl rfl rfl ?_
  refine ev_iload (i := 6) d_Mo_arc_135 rfl rfl ?_
  refine ev_iload_n (i := 3) d_Mo_arc_137 rfl rfl rfl ?_
  refine ev_iload (i := 4) d_Mo_arc_138 rfl rfl ?_
  refine ev_callVR (As := [g_i (c : Int), g_i (x : Int), g_i (i : Int), g_i (j : Int)]) d_Mo_arc_140 rfl cl_Mo_201 (c_Mo_arcOf (d + 0) (g_up M 45 44 0) (g_up M3 45 44 0) c x i j p y (r_P_fr hP (r_fr_44 M 0)) (q_eq_44 hq3 0) hc hx (by omega) (by omega) hp hy hyt hpt h2) (g_hR (by decide)) g_h0 lx_45 rfl rfl (Nat.le_of_ble_eq_true rfl) rfl rfl (fun M4 v9 g9 => ?_)
  obtain ⟨rfl, hq4⟩ := g9
  refine ev_goto (tgt := 147) d_Mo_arc_143 (by decide) ?_
  exact ev_retIR d_Mo_arc_147 (⟨by rw [z_arc_cg (M := M) (fun k hk => g_up_ne (by omega))], hq4⟩) (Or.inl rfl)
