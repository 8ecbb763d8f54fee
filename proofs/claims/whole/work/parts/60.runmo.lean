/-! the machine is the same over memories that tell the same program -/
theorem q_w_fn {M M2 : g_M} (h : r_f0 M M2) : q_w M2 = q_w M := funext fun t => by
  unfold q_w
  rw [h.e46 52 (by decide), h.e46 47 (by decide), h.e46 50 (by decide)]
theorem q_kids_fn {M M2 : g_M} (h : r_f0 M M2) : q_kids M2 = q_kids M := funext fun t => by
  rw [q_kids_map, q_kids_map, q_w_fn h, h.e46 53 (by decide)]
theorem u_mf_fn {M M2 : g_M} (h : r_f0 M M2) : ∀ f : Nat, u_mf M2 f = u_mf M f
  | 0 => rfl
  | f + 1 => by
    funext p t b
    rw [u_mf_e, u_mf_e, u_mf_fn h f, q_w_fn h, h.e46 52 (by decide), h.e46 53 (by decide)]
theorem u_mc_fn {M M2 : g_M} (h : r_f0 M M2) : u_mc M2 = u_mc M := by
  funext c as b w
  unfold u_mc
  simp only [u_mf_fn h, h.e46 57 (by decide)]
theorem u_en_fn {M M2 : g_M} (h : r_f0 M M2) : u_en M2 = u_en M := by
  funext f w as b n
  unfold u_en
  simp only [u_mc_fn h, h.e46 56 (by decide)]
theorem u_op_fn {M M2 : g_M} (h : r_f0 M M2) : u_op M2 = u_op M := by
  funext t
  unfold u_op
  rw [h.e46 52 (by decide)]
theorem u_st_fn {M M2 : g_M} (h : r_f0 M M2) : u_st M2 = u_st M := by
  funext s
  obtain ⟨K, H, B, st, bu⟩ := s
  match K with
  | [] => rfl
  | (t, fr) :: K =>
    rw [u_st, u_st, u_en_fn h, u_op_fn h, q_kids_fn h, h.e46 52 (by decide), h.e46 50 (by decide), h.e46 47 (by decide), h.e46 58 (by decide), h.2.2.2.2]
theorem u_R_fn {M M2 : g_M} (h : r_f0 M M2) : ∀ n : Nat, u_R M2 n = u_R M n
  | 0 => rfl
  | n + 1 => by
    funext s s'
    rw [u_R, u_R, u_st_fn h, u_R_fn h n]
theorem u_O_fn {M M2 : g_M} (h : r_f0 M M2) : u_O M2 = u_O M := by
  funext s st v
  unfold u_O
  simp only [u_R_fn h, u_st_fn h]
theorem u_tt_fn {M M2 : g_M} (h : r_f0 M M2) : ∀ f : Nat, u_tt M2 f = u_tt M f
  | 0 => rfl
  | f + 1 => by
    funext t
    rw [u_tt, u_tt, u_tt_fn h f, q_kids_fn h, h.e46 52 (by decide)]
theorem u_t_fn {M M2 : g_M} (h : r_f0 M M2) : u_t M2 = u_t M := by
  funext t
  unfold u_t
  rw [u_tt_fn h]
theorem q_pl_fn {M M2 : g_M} (h : r_f0 M M2) : ∀ f : Nat, q_pre M2 f = q_pre M f
  | 0 => rfl
  | f + 1 => by
    funext t
    rw [q_pre, q_pre, q_pl_fn h f, q_kids_fn h]
theorem u_cl_fn {M M2 : g_M} (h : r_f0 M M2) {t : Nat} (hc : u_cl M t) : u_cl M2 t := by
  refine ⟨by rw [h.2.2.2.1]; exact hc.1, fun x hx => ?_⟩
  unfold q_pl at hx
  rw [q_pl_fn h] at hx
  rw [h.e46 52 (by decide)]
  exact hc.2 x hx
/-! how a run begins -/
def u_ar (M : g_M) (x y z : Int) : Nat → List u_F
  | 0 => []
  | i + 1 => u_t M (j_pk x y z i).toNat :: u_ar M x y z i
def u_ax (x y z : Int) : Nat → List Nat
  | 0 => []
  | i + 1 => (j_pk x y z i).toNat :: u_ax x y z i
theorem u_ar_ax (M : g_M) (x y z : Int) : ∀ i, (u_ax x y z i).map (u_t M) = u_ar M x y z i
  | 0 => rfl
  | i + 1 => by rw [u_ax, u_ar, List.map_cons, u_ar_ax M x y z i]
theorem u_ar_len (M : g_M) (x y z : Int) : ∀ i, (u_ar M x y z i).length = i
  | 0 => rfl
  | i + 1 => by rw [u_ar, List.length_cons, u_ar_len M x y z i]
theorem u_ax_len (x y z : Int) : ∀ i, (u_ax x y z i).length = i
  | 0 => rfl
  | i + 1 => by rw [u_ax, List.length_cons, u_ax_len x y z i]
theorem u_ar_fn {M M2 : g_M} (h : r_f0 M M2) (x y z : Int) : ∀ i, u_ar M2 x y z i = u_ar M x y z i
  | 0 => rfl
  | i + 1 => by rw [u_ar, u_ar, u_ar_fn h x y z i, u_t_fn h]
theorem u_ax_cl {M : g_M} {x y z : Int} : ∀ i, (∀ q, q < i → u_cl M (j_pk x y z q).toNat) → ∀ a ∈ u_ax x y z i, u_cl M a
  | 0, _, a, ha => by simp [u_ax] at ha
  | i + 1, h, a, ha => by
    rcases List.mem_cons.mp ha with rfl | ha
    · exact h i (by omega)
    · exact u_ax_cl i (fun q hq => h q (by omega)) a ha
def u_s0 (M : g_M) (f w : Nat) (x y z : Int) : u_S := ([(-11 - (f : Int), 0)], u_ar M x y z w, fun _ _ => .nil, 0, 0)
theorem u_s0_ok {M : g_M} (hP : r_P M) {f w : Nat} {x y z : Int} (hf : (f : Int) < M 45 4) (hw : M 50 f = w) (hc : ∀ q, q < w → u_cl M (j_pk x y z q).toNat) : u_ok M 0 (u_s0 M f w x y z) := by
  have hT := hP.2.2.1.2.1
  refine ⟨⟨Or.inr ⟨by omega, Or.inl ⟨by omega, by omega⟩, Nat.zero_le _, Nat.zero_le _⟩, Nat.zero_le _, trivial⟩, ?_, fun t ht => ?_, fun q v => Or.inl rfl, Nat.zero_le _, Nat.zero_le _, ?_⟩
  · show u_nd M [(-11 - (f : Int), 0)] (u_ar M x y z w).length
    have hwd : u_wd M (-11 - (f : Int)) = w := by rw [u_wd, if_pos (by omega), show (-11 - (-11 - (f : Int))).toNat = f by omega, hw, Int.toNat_natCast]
    rw [u_nd, if_neg (by omega), hwd, u_ar_len]
    refine ⟨Nat.le_refl _, ?_⟩
    show w - w + 1 = 1
    omega
  · have ht2 : t ∈ u_ar M x y z w := ht
    rw [← u_ar_ax] at ht2
    obtain ⟨a, ha, rfl⟩ := List.mem_map.mp ht2
    exact u_t_gt hT (u_ax_cl w hc a ha)
  · show 0 + u_mu M [(-11 - (f : Int), 0)] ≤ 80 * 0 + 1
    rw [u_mu, if_neg (by omega), u_mu]
    omega
theorem z_val_cl {M : g_M} {t y : Int} (h : z_val M t y) : u_cl M t.toNat := by
  obtain ⟨h1, -, h3, -⟩ := h
  refine ⟨by omega, fun x hx => ?_⟩
  have := List.all_eq_true.mp h3 x hx
  simpa using this
/-- what is written of a run's outcome -/
def u_av : Option u_F → List Nat
  | none => []
  | some a => u_pr a
theorem z_val_cg {M M2 : g_M} (h : ∀ k : Nat, 46 ≤ k ∧ k < 59 ∨ k = 65 → M2 k = M k) (h8 : M2 45 8 = M 45 8) (t y : Int) : z_val M2 t y ↔ z_val M t y := by
  have e1 : ∀ f : Nat, q_pre M2 f = q_pre M f := by
    intro f
    induction f with
    | zero => rfl
    | succ f ih =>
      funext t
      have e2 : q_kids M2 t = q_kids M t := by
        rw [q_kids_map, q_kids_map]
        unfold q_w
        rw [h 52 (by decide), h 47 (by decide), h 50 (by decide), h 53 (by decide)]
      rw [q_pre, q_pre, ih, e2]
  unfold z_val q_pl
  rw [e1, h8, q_t_cg h, h 52 (by decide)]
/-- what the reference's run may change -/
def u_q (M M2 : g_M) : Prop := ∀ k b : Nat, k < 59 ∨ k = 65 ∨ k = 77 → ¬ (k = 45 ∧ (b = 22 ∨ b = 29 ∨ b = 33 ∨ b = 34 ∨ b = 35 ∨ b = 38 ∨ b = 42 ∨ b = 44)) → M2 k b = M k b
theorem u_q.rf (M : g_M) : u_q M M := fun _ _ _ _ => rfl
theorem u_q.tr {M M1 M2 : g_M} (h : u_q M M1) (h2 : u_q M1 M2) : u_q M M2 := fun k b h3 h4 => (h2 k b h3 h4).trans (h k b h3 h4)
theorem u_q.fn {M M2 : g_M} (h : u_q M M2) {k : Nat} (hk : k < 59 ∨ k = 65 ∨ k = 77) (h45 : k ≠ 45) : M2 k = M k := funext fun b => h k b hk (fun h9 => h45 h9.1)
theorem u_q.f0 {M M2 : g_M} (h : u_q M M2) : r_f0 M M2 := ⟨fun k hk => h.fn (by omega) (by omega), h 45 0 (by decide) (by decide), h 45 4 (by decide) (by decide), h 45 8 (by decide) (by decide), h 45 13 (by decide) (by decide)⟩
theorem u_f.q {M M2 : g_M} (h : u_f M M2) : u_q M M2 := fun k b h1 h2 => h k b (by omega) (by omega)
theorem u_we.q {M M2 : g_M} (h : u_we M M2) : u_q M M2 := fun k b h1 h2 => h k b (by omega) (by omega) (by omega) (by omega)
theorem u_q_75 (M : g_M) (n : Nat) (z : Int) : u_q M (g_up M 75 n z) := fun k b h1 h2 => by simp only [g_up]; rw [if_neg (by omega)]
theorem u_q_45 (M : g_M) {n : Nat} (hn : n = 22 ∨ n = 29 ∨ n = 33 ∨ n = 34 ∨ n = 35 ∨ n = 38 ∨ n = 42 ∨ n = 44) (z : Int) : u_q M (g_up M 45 n z) := fun k b h1 h2 => by simp only [g_up]; rw [if_neg (by omega)]
/-- all but the stack and what was thrown -/
def u_g (M M2 : g_M) : Prop := ∀ k b : Nat, k ≠ 62 → k ≠ 63 → ¬ (k = 45 ∧ (b = 22 ∨ b = 44)) → M2 k b = M k b
theorem u_g.q {M M2 : g_M} (h : u_g M M2) : u_q M M2 := fun k b h1 h2 => h k b (by omega) (by omega) (by omega)
theorem u_g.rf (M : g_M) : u_g M M := fun _ _ _ _ _ => rfl
theorem u_g_v {M M2 M3 : g_M} (h : u_g M M2) (h2 : q_eq (g_up M2 45 44 0) M3) : u_g M M3 := fun k b h3 h4 h5 => by
  rw [h2 k b h3 h4 (by omega)]
  simp only [g_up]
  rw [if_neg (by omega)]
  exact h k b h3 h4 h5
theorem u_75 (M : g_M) (x y z : Int) (i : Nat) (hi : i < 3) : g_up (g_up (g_up M 75 0 x) 75 1 y) 75 2 z 75 i = j_pk x y z i := by
  match i with
  | 0 => rfl
  | 1 => rfl
  | 2 => rfl
  | i + 3 => omega
theorem c_Mo_run (d : Nat) (M : g_M) (f w : Nat) (x y z : Int) (hP : r_P M) (hgood : M 45 17 = 1) (hf : (f : Int) < M 45 4) (hf6 : f < 6) (hw : M 50 f = w) (hw3 : w ≤ 3) : ConR y_Mo_run w_Mo_run (g_rm (d + 6)) LX M [g_r 45, g_i (f : Int), g_i x, g_i y, g_i z] LX (fun M2 v2 => (¬ (∀ q : Nat, q < w → z_val M (j_pk x y z q) (M 51 (3 * f + q))) ∧ v2 = some (g_i 0) ∧ M2 45 44 = 2 ∧ u_q M M2 ∧ M2 45 34 = M 45 34 ∧ M2 45 42 = M 45 42 ∧ M2 76 = M 76) ∨ ((∀ q : Nat, q < w → z_val M (j_pk x y z q) (M 51 (3 * f + q))) ∧ M2 45 44 = 0 ∧ u_q M M2 ∧ ∃ (st : Nat) (v : Option u_F), u_O M (u_s0 M f w x y z) st v ∧ M2 45 34 = (st : Int) ∧ M2 45 42 = ((u_av v).length : Nat) ∧ (u_av v).length ≤ 60 ∧ v2 = some (g_i ((u_av v).length : Nat)) ∧ ∀ i a : Nat, (u_av v)[i]? = some a → M2 76 i = a)) := by
  refine con_ofR (av := [g_r 45, g_i (f : Int), g_i x, g_i y, g_i z]) (ls0 := [some (g_r 45), some (g_i (f : Int)), some (g_i x), some (g_i y), some (g_i z), none, none]) (by decide) rfl (Nat.le_of_ble_eq_true rfl) (g_hls (av := [g_r 45, g_i (f : Int), g_i x, g_i y, g_i z]) (k := 2)) (fun _ h9 => List.mem_cons_of_mem _ h9) ?_
  refine ev_aload_n (i := 0) d_Mo_run_0 rfl rfl rfl ?_
  refine ev_getI (z := 1) d_Mo_run_1 rfl lk_Mo_123 lx_45 rfl (hgood) ?_
  refine ev_if_eq_f (tgt := 23) d_Mo_run_4 (by decide) rfl (by decide) ?_
  refine ev_iload_n (i := 1) d_Mo_run_7 rfl rfl rfl ?_
  refine ev_if_lt_f (tgt := 23) d_Mo_run_8 (by decide) rfl (by omega) ?_
  refine ev_iload_n (i := 1) d_Mo_run_11 rfl rfl rfl ?_
  refine ev_aload_n (i := 0) d_Mo_run_12 rfl rfl rfl ?_
  refine ev_getI (z := M 45 4) d_Mo_run_13 rfl lk_Mo_127 lx_45 rfl (rfl) ?_
  refine ev_icmp_ge_f (tgt := 23) d_Mo_run_16 (by decide) rfl (by omega) ?_
  refine ev_iconst d_Mo_run_19 rfl ⟨by decide, by decide⟩ ?_
  refine ev_goto (tgt := 24) d_Mo_run_20 (by decide) ?_
  refine ev_istore (i := 5) d_Mo_run_24 rfl (by decide) rfl ?_
  refine ev_aload_n (i := 0) d_Mo_run_26 rfl rfl rfl ?_
  refine ev_getR d_Mo_run_27 rfl lk_Mo_98 lx_45 rfl ?_
  refine ev_iconst d_Mo_run_30 rfl ⟨by decide, by decide⟩ ?_
  refine ev_iload_n (i := 2) d_Mo_run_31 rfl rfl rfl ?_
  refine ev_iastore d_Mo_run_32 rfl lx_75 (by omega) (by omega) ?_
  rw [show Int.toNat (0) = 0 by rfl]
  refine ev_aload_n (i := 0) d_Mo_run_33 rfl rfl rfl ?_
  refine ev_getR d_Mo_run_34 rfl lk_Mo_98 lx_45 rfl ?_
  refine ev_iconst d_Mo_run_37 rfl ⟨by decide, by decide⟩ ?_
  refine ev_iload_n (i := 3) d_Mo_run_38 rfl rfl rfl ?_
  refine ev_iastore d_Mo_run_39 rfl lx_75 (by omega) (by omega) ?_
  rw [show Int.toNat (1) = 1 by rfl]
  refine ev_aload_n (i := 0) d_Mo_run_40 rfl rfl rfl ?_
  refine ev_getR d_Mo_run_41 rfl lk_Mo_98 lx_45 rfl ?_
  refine ev_iconst d_Mo_run_44 rfl ⟨by decide, by decide⟩ ?_
  refine ev_iload (i := 4) d_Mo_run_45 rfl rfl ?_
  refine ev_iastore d_Mo_run_47 rfl lx_75 (by omega) (by omega) ?_
  rw [show Int.toNat (2) = 2 by rfl]
  refine ev_iconst d_Mo_run_48 rfl ⟨by decide, by decide⟩ ?_
  refine ev_istore (i := 6) d_Mo_run_49 rfl (by decide) rfl ?_
  refine ev_wh (fun n ls1 M2 => ∃ (i : Nat) (r : Int), i ≤ w ∧ n = w - i ∧ ls1 = [some (g_r 45), some (g_i (f : Int)), some (g_i x), some (g_i y), some (g_i z), some (g_i r), some (g_i (i : Int))] ∧ u_g (g_up (g_up (g_up M 75 0 x) 75 1 y) 75 2 z) M2 ∧ (r = 0 ∨ r = 1) ∧ (r = 1 ↔ ∀ q : Nat, q < i → z_val M (j_pk x y z q) (M 51 (3 * f + q)))) ?_ (n := w) (⟨0, 1, Nat.zero_le _, rfl, rfl, u_g.rf _, Or.inr rfl, ⟨fun _ q hq => by omega, fun _ => rfl⟩⟩)
  intro n ls1 M2 hP0 ih
  obtain ⟨i, r, hi, hn, rfl, hg2, hr, hri⟩ := hP0
  have hq2 : u_q M M2 := (((u_q_75 M 0 x).tr (u_q_75 _ 1 y)).tr (u_q_75 _ 2 z)).tr hg2.q
  have h17 : M2 45 17 = 1 := (hq2 45 17 (by decide) (by decide)).trans hgood
  refine ev_iload (i := 5) d_Mo_run_51 rfl rfl ?_
  refine ev_if_eq (tgt := 97) d_Mo_run_53 (by decide) rfl (fun hr0 => ?_) (fun hr0 => ?_)
  · have er : r = 0 := by omega
    subst er
    have hnall : ¬ ∀ q : Nat, q < w → z_val M (j_pk x y z q) (M 51 (3 * f + q)) := fun h => by have h9 := hri.mpr (fun q hq => h q (by omega)); omega
    refine ev_aload_n (i := 0) d_Mo_run_97 rfl rfl rfl ?_
    refine ev_aload_n (i := 0) d_Mo_run_98 rfl rfl rfl ?_
    refine ev_getI (z := 1) d_Mo_run_99 rfl lk_Mo_123 lx_45 rfl (h17) ?_
    refine ev_if_ne_t (tgt := 109) d_Mo_run_102 (by decide) (by decide) ?_
    refine ev_iload (i := 5) d_Mo_run_109 rfl rfl ?_
    refine ev_if_ne_f (tgt := 118) d_Mo_run_111 (by decide) rfl (by decide) ?_
    refine ev_iconst d_Mo_run_114 rfl ⟨by decide, by decide⟩ ?_
    refine ev_goto (tgt := 119) d_Mo_run_115 (by decide) ?_
    refine ev_putI d_Mo_run_119 rfl lk_Mo_104 fp_Mo_44 (Or.inl rfl) lx_45 rfl ?_
    refine ev_aload_n (i := 0) d_Mo_run_122 rfl rfl rfl ?_
    refine ev_getI (z := 2) d_Mo_run_123 rfl lk_Mo_104 lx_45 rfl (g_up_at _ _ _ _) ?_
    refine ev_if_eq_f (tgt := 131) d_Mo_run_126 (by decide) rfl (by decide) ?_
    refine ev_iconst d_Mo_run_129 rfl ⟨by decide, by decide⟩ ?_
    exact ev_retIR d_Mo_run_130 (Or.inl ⟨hnall, rfl, g_up_at _ _ _ _, hq2.tr (u_q_45 M2 (by decide) 2), by rw [g_up_nj (by decide), hg2 45 34 (by decide) (by decide) (by decide)]; rfl, by rw [g_up_nj (by decide), hg2 45 42 (by decide) (by decide) (by decide)]; rfl, funext fun b => by rw [g_up_ne (by decide), hg2 76 b (by decide) (by decide) (by omega)]; rfl⟩) (Or.inl rfl)
  · have er : r = 1 := by omega
    subst er
    have hall := hri.mp rfl
    refine ev_iload (i := 6) d_Mo_run_56 rfl rfl ?_
    refine ev_aload_n (i := 0) d_Mo_run_58 rfl rfl rfl ?_
    refine ev_getR d_Mo_run_59 rfl lk_Mo_22 lx_45 rfl ?_
    refine ev_iload_n (i := 1) d_Mo_run_62 rfl rfl rfl ?_
    refine ev_iaload (z := (w : Int)) d_Mo_run_63 rfl lx_50 (by omega) (by omega) (by rw [Int.toNat_natCast, hq2.fn (k := 50) (by decide) (by decide)]; exact hw) ?_
    refine ev_icmp_ge (tgt := 97) d_Mo_run_64 (by decide) rfl (fun hiw => ?_) (fun hiw => ?_)
    · have eiw : w = i := by omega
      subst eiw
      refine ev_aload_n (i := 0) d_Mo_run_97 rfl rfl rfl ?_
      refine ev_aload_n (i := 0) d_Mo_run_98 rfl rfl rfl ?_
      refine ev_getI (z := 1) d_Mo_run_99 rfl lk_Mo_123 lx_45 rfl (h17) ?_
      refine ev_if_ne_t (tgt := 109) d_Mo_run_102 (by decide) (by decide) ?_
      refine ev_iload (i := 5) d_Mo_run_109 rfl rfl ?_
      refine ev_if_ne_t (tgt := 118) d_Mo_run_111 (by decide) (by decide) ?_
      refine ev_iconst d_Mo_run_118 rfl ⟨by decide, by decide⟩ ?_
      refine ev_putI d_Mo_run_119 rfl lk_Mo_104 fp_Mo_44 (Or.inl rfl) lx_45 rfl ?_
      refine ev_aload_n (i := 0) d_Mo_run_122 rfl rfl rfl ?_
      refine ev_getI (z := 0) d_Mo_run_123 rfl lk_Mo_104 lx_45 rfl (g_up_at _ _ _ _) ?_
      refine ev_if_eq_t (tgt := 131) d_Mo_run_126 (by decide) (by decide) ?_
      refine ev_aload_n (i := 0) d_Mo_run_131 rfl rfl rfl ?_
      refine ev_iconst d_Mo_run_132 rfl ⟨by decide, by decide⟩ ?_
      refine ev_putI d_Mo_run_133 rfl lk_Mo_237 fp_Mo_29 (Or.inl rfl) lx_45 rfl ?_
      refine ev_aload_n (i := 0) d_Mo_run_136 rfl rfl rfl ?_
      refine ev_iconst d_Mo_run_137 rfl ⟨by decide, by decide⟩ ?_
      refine ev_putI d_Mo_run_138 rfl lk_Mo_234 fp_Mo_38 (Or.inl rfl) lx_45 rfl ?_
      refine ev_aload_n (i := 0) d_Mo_run_141 rfl rfl rfl ?_
      refine ev_iconst d_Mo_run_142 rfl ⟨by decide, by decide⟩ ?_
      refine ev_putI d_Mo_run_143 rfl lk_Mo_256 fp_Mo_33 (Or.inl rfl) lx_45 rfl ?_
      refine ev_aload_n (i := 0) d_Mo_run_146 rfl rfl rfl ?_
      refine ev_iconst d_Mo_run_147 rfl ⟨by decide, by decide⟩ ?_
      refine ev_putI d_Mo_run_148 rfl lk_Mo_243 fp_Mo_34 (Or.inl rfl) lx_45 rfl ?_
      refine ev_aload_n (i := 0) d_Mo_run_151 rfl rfl rfl ?_
      refine ev_iconst d_Mo_run_152 rfl ⟨by decide, by decide⟩ ?_
      refine ev_putI d_Mo_run_153 rfl lk_Mo_262 fp_Mo_42 (Or.inl rfl) lx_45 rfl ?_
      obtain ⟨MB, hMB⟩ : ∃ MB, MB = (g_up (g_up (g_up (g_up (g_up (g_up M2 45 44 0) 45 29 0) 45 38 0) 45 33 0) 45 34 0) 45 42 0) := ⟨_, rfl⟩
      rw [← hMB]
      have b29 : MB 45 29 = 0 := by rw [hMB]; rfl
      have b38 : MB 45 38 = 0 := by rw [hMB]; rfl
      have b33 : MB 45 33 = 0 := by rw [hMB]; rfl
      have b34 : MB 45 34 = 0 := by rw [hMB]; rfl
      have b42 : MB 45 42 = 0 := by rw [hMB]; rfl
      have b44 : MB 45 44 = 0 := by rw [hMB]; rfl
      have hqB : u_q M MB := by rw [hMB]; exact hq2.tr ((((((u_q_45 M2 (by decide) 0).tr (u_q_45 _ (by decide) 0)).tr (u_q_45 _ (by decide) 0)).tr (u_q_45 _ (by decide) 0)).tr (u_q_45 _ (by decide) 0)).tr (u_q_45 _ (by decide) 0))
      have b75 : ∀ q, q < 3 → MB 75 q = j_pk x y z q := fun q hq => by rw [hMB]; exact (hg2 75 q (by decide) (by decide) (by omega)).trans (u_75 M x y z q hq)
      have hPB := r_P_f0 hP hqB.f0
      have hTB := hPB.2.2.1.2.1
      have hcl : ∀ q, q < w → u_cl MB (j_pk x y z q).toNat := fun q hq => u_cl_fn hqB.f0 (z_val_cl (hall q hq))
      have hs0 : u_s0 MB f w x y z = u_s0 M f w x y z := by unfold u_s0; rw [u_ar_fn hqB.f0]
      have hfB : (f : Int) < MB 45 4 := by rw [hqB.f0.2.2.1]; exact hf
      have hwB : MB 50 f = w := by rw [hqB.fn (k := 50) (by decide) (by decide)]; exact hw
      refine ev_iconst d_Mo_run_156 rfl ⟨by decide, by decide⟩ ?_
      refine ev_istore (i := 6) d_Mo_run_157 rfl (by decide) rfl ?_
      refine ev_wh (fun n ls1 M3 => ∃ (i : Nat), i ≤ w ∧ n = w - i ∧ ls1 = [some (g_r 45), some (g_i (f : Int)), some (g_i x), some (g_i y), some (g_i z), some (g_i 1), some (g_i (i : Int))] ∧ u_f MB M3 ∧ u_hk M3 ((u_ax x y z i).map (u_t MB)) ∧ (∃ nv : Nat, M3 45 29 = nv ∧ nv ≤ 40 * i) ∧ M3 45 33 = 0 ∧ M3 45 34 = 0) ?_ (n := w) (⟨0, Nat.zero_le _, rfl, rfl, u_f.rf _, ⟨b38, fun i t hi => by simp [u_ax] at hi⟩, ⟨0, b29, Nat.zero_le _⟩, b33, b34⟩)
      intro n ls1 M3 hP3 ih2
      obtain ⟨i, hi, hn3, rfl, hf3, hH3, ⟨nv, hnv, hnv40⟩, h33, h34⟩ := hP3
      refine ev_iload (i := 6) d_Mo_run_159 rfl rfl ?_
      refine ev_aload_n (i := 0) d_Mo_run_161 rfl rfl rfl ?_
      refine ev_getR d_Mo_run_162 rfl lk_Mo_22 lx_45 rfl ?_
      refine ev_iload_n (i := 1) d_Mo_run_165 rfl rfl rfl ?_
      refine ev_iaload (z := (w : Int)) d_Mo_run_166 rfl lx_50 (by omega) (by omega) (by rw [Int.toNat_natCast, hf3.fn (k := 50) (by decide) (by decide)]; exact hwB) ?_
      refine ev_icmp_ge (tgt := 187) d_Mo_run_167 (by decide) rfl (fun hiw4 => ?_) (fun hiw4 => ?_)
      · have eiw5 : w = i := by omega
        subst eiw5
        refine ev_aload_n (i := 0) d_Mo_run_187 rfl rfl rfl ?_
        refine ev_iconst d_Mo_run_188 rfl ⟨by decide, by decide⟩ ?_
        refine ev_putI d_Mo_run_189 rfl lk_Mo_231 fp_Mo_35 (Or.inl rfl) lx_45 rfl ?_
        refine ev_aload_n (i := 0) d_Mo_run_192 rfl rfl rfl ?_
        refine ev_bipush d_Mo_run_193 rfl (by decide +kernel) ⟨by decide, by decide⟩ ?_
        refine ev_iload_n (i := 1) d_Mo_run_195 rfl rfl rfl ?_
        refine ev_isub (z := -11 - (f : Int)) d_Mo_run_196 rfl (g_w_id (by unfold g_rg; omega)) ?_
        refine ev_iconst d_Mo_run_197 rfl ⟨by decide, by decide⟩ ?_
        refine ev_callV (As := [g_i (-11 - (f : Int)), g_i 0]) d_Mo_run_198 rfl cl_Mo_240 ((c_Mo_doLater (d + 5) (g_up M3 45 35 0) (-11 - (f : Int)) 0 0 (g_up_at _ _ _ _) (by omega))) (g_hR (by decide)) g_h0 lx_45 rfl rfl (Nat.le_of_ble_eq_true rfl) rfl rfl ?_
        refine ev_aload_n (i := 0) d_Mo_run_201 rfl rfl rfl ?_
        refine ev_callVR (As := []) d_Mo_run_202 rfl cl_Mo_271 (c_Mo_finished (d + 1) MB (g_up (g_up (g_up (g_up M3 45 35 0) 71 0 (-11 - (f : Int))) 72 0 ((0 : Nat) : Int)) 45 35 (((0 : Nat) : Int) + 1)) (u_s0 MB f w x y z) nv hPB ⟨(hf3.tr (g71_35 M3 0).f).tr (g71_up _ 0 _ _ _).f, u_tk_push (M1 := g_up M3 45 35 0) (K := []) ⟨g_up_at _ _ _ _, fun i t fr h => by simp at h⟩ (-11 - (f : Int)) 0, by show u_hk _ (u_ar MB x y z w); rw [← u_ar_ax]; exact u_hk_cg (M := M3) (fun _ _ h => h) rfl rfl hH3, fun fr v c l h1 h2 h3 => (by cases h3), h34, h33⟩ (u_s0_ok hPB hfB hwB hcl) (by omega) hnv) (g_hR (by decide)) g_h0 lx_45 rfl rfl (Nat.le_of_ble_eq_true rfl) rfl rfl (fun M5 v9 g9 => ?_)
        obtain ⟨r, rfl, hr5⟩ := g9
        refine ev_if_eq (tgt := 218) d_Mo_run_205 (by decide) rfl (fun hr0b => ?_) (fun hr0b => ?_)
        · obtain ⟨er, st, hO, h34b, hf5⟩ | ⟨er, -⟩ := hr5
          rotate_left
          · omega
          refine ev_aload_n (i := 0) d_Mo_run_218 rfl rfl rfl ?_
          refine ev_getI (z := 0) d_Mo_run_219 rfl lk_Mo_262 lx_45 rfl ((hf5 45 42 (by decide) (by decide)).trans b42) ?_
          exact ev_retIR d_Mo_run_222 (Or.inr ⟨hall, by rw [hf5 45 44 (by decide) (by decide)]; exact b44, (hqB.tr hf5.q), st, none, by rw [← u_O_fn hqB.f0, ← hs0]; exact hO, h34b, by rw [hf5 45 42 (by decide) (by decide)]; exact b42, Nat.zero_le _, rfl, fun i a h => by simp [u_av] at h⟩) (Or.inl rfl)
        · obtain ⟨er, -⟩ | ⟨er, st, a, hO, h34b, hf5, h29, hgt, x0, hx0, hrm⟩ := hr5
          · omega
          refine ev_aload_n (i := 0) d_Mo_run_208 rfl rfl rfl ?_
          refine ev_aload_n (i := 0) d_Mo_run_209 rfl rfl rfl ?_
          refine ev_getR d_Mo_run_210 rfl lk_Mo_92 lx_45 rfl ?_
          refine ev_iconst d_Mo_run_213 rfl ⟨by decide, by decide⟩ ?_
          refine ev_iaload (z := (x0 : Int)) d_Mo_run_214 rfl lx_73 (by omega) (by omega) (hx0) ?_
          refine ev_callVR (As := [g_i ((x0 : Int))]) d_Mo_run_215 rfl cl_Mo_274 (c_Mo_write (d + 4) M5 x0 a h29 hrm (by rw [hf5.fn (k := 47) (by decide) (by decide)]; exact hgt.1) hgt.2) (g_hR (by decide)) g_h0 lx_45 rfl rfl (Nat.le_of_ble_eq_true rfl) rfl rfl (fun M6 v9 g9 => ?_)
          obtain ⟨rfl, hwe, h42, han⟩ := g9
          refine ev_aload_n (i := 0) d_Mo_run_218 rfl rfl rfl ?_
          refine ev_getI (z := ((u_sz a : Nat) : Int)) d_Mo_run_219 rfl lk_Mo_262 lx_45 rfl (h42) ?_
          exact ev_retIR d_Mo_run_222 (Or.inr ⟨hall, by rw [hwe 45 44 (by decide) (by decide) (by decide) (by decide), hf5 45 44 (by decide) (by decide)]; exact b44, (hqB.tr hf5.q).tr hwe.q, st, some a, by rw [← u_O_fn hqB.f0, ← hs0]; exact hO, by rw [hwe 45 34 (by decide) (by decide) (by decide) (by decide)]; exact h34b, by rw [h42]; show _ = (((u_pr a).length : Nat) : Int); rw [u_pr_len], by show (u_pr a).length ≤ 60; rw [u_pr_len]; exact hgt.2, by show _ = some (g_i (((u_pr a).length : Nat) : Int)); rw [u_pr_len], han⟩) (Or.inl rfl)
      · refine ev_aload_n (i := 0) d_Mo_run_170 rfl rfl rfl ?_
        refine ev_aload_n (i := 0) d_Mo_run_171 rfl rfl rfl ?_
        refine ev_getR d_Mo_run_172 rfl lk_Mo_98 lx_45 rfl ?_
        refine ev_iload (i := 6) d_Mo_run_175 rfl rfl ?_
        refine ev_iaload (z := ((j_pk x y z i).toNat : Int)) d_Mo_run_177 rfl lx_75 (by omega) (by omega) (by rw [Int.toNat_natCast, hf3.fn (k := 75) (by decide) (by decide), b75 i (by omega)]; have h9 := (hall i (by omega)).1.1; omega) ?_
        refine ev_callVR (As := [g_i (((j_pk x y z i).toNat : Int))]) d_Mo_run_178 rfl cl_Mo_268 (c_Mo_give (d + 3) MB M3 (j_pk x y z i).toNat nv (u_ax x y z i) hf3 hTB (hcl i (by omega)) hH3 (u_ax_cl i (fun q hq => hcl q (by omega))) (by rw [u_ax_len]; omega) hnv (by omega)) (g_hR (by decide)) g_h0 lx_45 rfl rfl (Nat.le_of_ble_eq_true rfl) rfl rfl (fun M4 v9 g9 => ?_)
        obtain ⟨rfl, k1, k2, k3, k4, k5⟩ := g9
        have hs40 := (hTB.2.2 _ (hcl i (by omega)).1).2.2.2.2.2.1
        have hs0 := q_sz_0 hTB (hcl i (by omega)).1
        refine ev_iinc (z := ((i + 1 : Nat) : Int)) d_Mo_run_181 rfl rfl (by decide) (by rw [g_w_id (by unfold g_rg; omega)]; omega) rfl ?_
        refine ev_goto (tgt := 159) d_Mo_run_184 (by decide) ?_
        exact ev_le (ih2 (w - (i + 1)) [some (g_r 45), some (g_i (f : Int)), some (g_i x), some (g_i y), some (g_i z), some (g_i 1), some (g_i ((i + 1 : Nat) : Int))] M4 (by omega) ⟨i + 1, by omega, rfl, rfl, k1, k2, ⟨nv + (MB 55 (j_pk x y z i).toNat).toNat, by rw [k3]; omega, by omega⟩, k4.trans h33, k5.trans h34⟩) rfl ⟨rfl, rfl, rfl, rfl, rfl, rfl, rfl, trivial⟩
    · obtain ⟨r1, hr01, hrz, hcon⟩ := c_Mo_isValue_a (d + 2) (q_T_cg (M := M) (M2 := M2) (fun k hk => hq2.fn (by omega) (by omega)) (hq2 45 8 (by decide) (by decide)) hP.2.2.1.2.1) (j_pk x y z i) (M 51 (3 * f + i))
      refine ev_aload_n (i := 0) d_Mo_run_67 rfl rfl rfl ?_
      refine ev_aload_n (i := 0) d_Mo_run_68 rfl rfl rfl ?_
      refine ev_getR d_Mo_run_69 rfl lk_Mo_98 lx_45 rfl ?_
      refine ev_iload (i := 6) d_Mo_run_72 rfl rfl ?_
      refine ev_iaload (z := j_pk x y z i) d_Mo_run_74 rfl lx_75 (by omega) (by omega) (by rw [Int.toNat_natCast, hg2 75 i (by decide) (by decide) (by omega)]; exact u_75 M x y z i (by omega)) ?_
      refine ev_aload_n (i := 0) d_Mo_run_75 rfl rfl rfl ?_
      refine ev_getR d_Mo_run_76 rfl lk_Mo_25 lx_45 rfl ?_
      refine ev_iconst d_Mo_run_79 rfl ⟨by decide, by decide⟩ ?_
      refine ev_iload_n (i := 1) d_Mo_run_80 rfl rfl rfl ?_
      refine ev_imul (z := 3 * (f : Int)) d_Mo_run_81 rfl (g_w_id (by unfold g_rg; omega)) ?_
      refine ev_iload (i := 6) d_Mo_run_82 rfl rfl ?_
      refine ev_iadd (z := ((3 * f + i : Nat) : Int)) d_Mo_run_84 rfl (by rw [g_w_id (by unfold g_rg; omega)]; omega) ?_
      refine ev_iaload (z := M 51 (3 * f + i)) d_Mo_run_85 rfl lx_51 (by omega) (by omega) (by rw [Int.toNat_natCast, hq2.fn (k := 51) (by decide) (by decide)]) ?_
      refine ev_callVR (As := [g_i (j_pk x y z i), g_i (M 51 (3 * f + i))]) d_Mo_run_86 rfl cl_Mo_265 (hcon) (g_hR (by decide)) g_h0 lx_45 rfl rfl (Nat.le_of_ble_eq_true rfl) rfl rfl (fun M3 v9 g9 => ?_)
      obtain ⟨rfl, hq9⟩ := g9
      refine ev_istore (i := 5) d_Mo_run_89 rfl (by decide) rfl ?_
      refine ev_iinc (z := ((i + 1 : Nat) : Int)) d_Mo_run_91 rfl rfl (by decide) (by rw [g_w_id (by unfold g_rg; omega)]; omega) rfl ?_
      refine ev_goto (tgt := 51) d_Mo_run_94 (by decide) ?_
      exact ev_le (ih (w - (i + 1)) [some (g_r 45), some (g_i (f : Int)), some (g_i x), some (g_i y), some (g_i z), some (g_i r1), some (g_i ((i + 1 : Nat) : Int))] M3 (by omega) ⟨i + 1, r1, by omega, rfl, rfl, u_g_v hg2 hq9, hr01, by rw [hrz, z_val_cg (M := M) (M2 := M2) (fun k hk => hq2.fn (by omega) (by omega)) (hq2 45 8 (by decide) (by decide))]; exact ⟨fun h q hq => by rcases Nat.lt_or_eq_of_le (Nat.le_of_lt_succ hq) with h9 | h9; exact hall q h9; rw [h9]; exact h, fun h => h i (Nat.lt_succ_self i)⟩⟩) rfl ⟨rfl, rfl, rfl, rfl, rfl, rfl, rfl, trivial⟩
theorem c_Mo_run_x1 (d : Nat) (M : g_M) (f x y z : Int) (hgood : M 45 17 = 1) (hf : ¬ (0 ≤ f ∧ f < M 45 4)) : Con y_Mo_run w_Mo_run (g_rm (d + 1)) LX M [g_r 45, g_i f, g_i x, g_i y, g_i z] LX (g_up (g_up (g_up (g_up M 75 0 x) 75 1 y) 75 2 z) 45 44 2) (some (g_i 0)) := by
  refine con_of (av := [g_r 45, g_i f, g_i x, g_i y, g_i z]) (ls0 := [some (g_r 45), some (g_i f), some (g_i x), some (g_i y), some (g_i z), none, none]) (by decide) rfl (Nat.le_of_ble_eq_true rfl) (g_hls (av := [g_r 45, g_i f, g_i x, g_i y, g_i z]) (k := 2)) (fun _ h9 => List.mem_cons_of_mem _ h9) ?_
  refine ev_aload_n (i := 0) d_Mo_run_0 rfl rfl rfl ?_
  refine ev_getI (z := 1) d_Mo_run_1 rfl lk_Mo_123 lx_45 rfl (hgood) ?_
  refine ev_if_eq_f (tgt := 23) d_Mo_run_4 (by decide) rfl (by decide) ?_
  refine ev_iload_n (i := 1) d_Mo_run_7 rfl rfl rfl ?_
  refine ev_if_lt (tgt := 23) d_Mo_run_8 (by decide) rfl (fun hf0 => ?_) (fun hf0 => ?_)
  · refine ev_iconst d_Mo_run_23 rfl ⟨by decide, by decide⟩ ?_
    refine ev_istore (i := 5) d_Mo_run_24 rfl (by decide) rfl ?_
    refine ev_aload_n (i := 0) d_Mo_run_26 rfl rfl rfl ?_
    refine ev_getR d_Mo_run_27 rfl lk_Mo_98 lx_45 rfl ?_
    refine ev_iconst d_Mo_run_30 rfl ⟨by decide, by decide⟩ ?_
    refine ev_iload_n (i := 2) d_Mo_run_31 rfl rfl rfl ?_
    refine ev_iastore d_Mo_run_32 rfl lx_75 (by omega) (by omega) ?_
    rw [show Int.toNat (0) = 0 by rfl]
    refine ev_aload_n (i := 0) d_Mo_run_33 rfl rfl rfl ?_
    refine ev_getR d_Mo_run_34 rfl lk_Mo_98 lx_45 rfl ?_
    refine ev_iconst d_Mo_run_37 rfl ⟨by decide, by decide⟩ ?_
    refine ev_iload_n (i := 3) d_Mo_run_38 rfl rfl rfl ?_
    refine ev_iastore d_Mo_run_39 rfl lx_75 (by omega) (by omega) ?_
    rw [show Int.toNat (1) = 1 by rfl]
    refine ev_aload_n (i := 0) d_Mo_run_40 rfl rfl rfl ?_
    refine ev_getR d_Mo_run_41 rfl lk_Mo_98 lx_45 rfl ?_
    refine ev_iconst d_Mo_run_44 rfl ⟨by decide, by decide⟩ ?_
    refine ev_iload (i := 4) d_Mo_run_45 rfl rfl ?_
    refine ev_iastore d_Mo_run_47 rfl lx_75 (by omega) (by omega) ?_
    rw [show Int.toNat (2) = 2 by rfl]
    refine ev_iconst d_Mo_run_48 rfl ⟨by decide, by decide⟩ ?_
    refine ev_istore (i := 6) d_Mo_run_49 rfl (by decide) rfl ?_
    refine ev_iload (i := 5) d_Mo_run_51 rfl rfl ?_
    refine ev_if_eq_t (tgt := 97) d_Mo_run_53 (by decide) (by decide) ?_
    refine ev_aload_n (i := 0) d_Mo_run_97 rfl rfl rfl ?_
    refine ev_aload_n (i := 0) d_Mo_run_98 rfl rfl rfl ?_
    refine ev_getI (z := 1) d_Mo_run_99 rfl lk_Mo_123 lx_45 rfl (hgood) ?_
    refine ev_if_ne_t (tgt := 109) d_Mo_run_102 (by decide) (by decide) ?_
    refine ev_iload (i := 5) d_Mo_run_109 rfl rfl ?_
    refine ev_if_ne_f (tgt := 118) d_Mo_run_111 (by decide) rfl (by decide) ?_
    refine ev_iconst d_Mo_run_114 rfl ⟨by decide, by decide⟩ ?_
    refine ev_goto (tgt := 119) d_Mo_run_115 (by decide) ?_
    refine ev_putI d_Mo_run_119 rfl lk_Mo_104 fp_Mo_44 (Or.inl rfl) lx_45 rfl ?_
    refine ev_aload_n (i := 0) d_Mo_run_122 rfl rfl rfl ?_
    refine ev_getI (z := 2) d_Mo_run_123 rfl lk_Mo_104 lx_45 rfl (g_up_at _ _ _ _) ?_
    refine ev_if_eq_f (tgt := 131) d_Mo_run_126 (by decide) rfl (by decide) ?_
    refine ev_iconst d_Mo_run_129 rfl ⟨by decide, by decide⟩ ?_
    exact ev_retI d_Mo_run_130 (by first | rfl | omega | simp_all) rfl (Or.inl rfl)
  · refine ev_iload_n (i := 1) d_Mo_run_11 rfl rfl rfl ?_
    refine ev_aload_n (i := 0) d_Mo_run_12 rfl rfl rfl ?_
    refine ev_getI (z := M 45 4) d_Mo_run_13 rfl lk_Mo_127 lx_45 rfl (rfl) ?_
    refine ev_icmp_ge_t (tgt := 23) d_Mo_run_16 (by decide) (by omega) ?_
    refine ev_iconst d_Mo_run_23 rfl ⟨by decide, by decide⟩ ?_
    refine ev_istore (i := 5) d_Mo_run_24 rfl (by decide) rfl ?_
    refine ev_aload_n (i := 0) d_Mo_run_26 rfl rfl rfl ?_
    refine ev_getR d_Mo_run_27 rfl lk_Mo_98 lx_45 rfl ?_
    refine ev_iconst d_Mo_run_30 rfl ⟨by decide, by decide⟩ ?_
    refine ev_iload_n (i := 2) d_Mo_run_31 rfl rfl rfl ?_
    refine ev_iastore d_Mo_run_32 rfl lx_75 (by omega) (by omega) ?_
    rw [show Int.toNat (0) = 0 by rfl]
    refine ev_aload_n (i := 0) d_Mo_run_33 rfl rfl rfl ?_
    refine ev_getR d_Mo_run_34 rfl lk_Mo_98 lx_45 rfl ?_
    refine ev_iconst d_Mo_run_37 rfl ⟨by decide, by decide⟩ ?_
    refine ev_iload_n (i := 3) d_Mo_run_38 rfl rfl rfl ?_
    refine ev_iastore d_Mo_run_39 rfl lx_75 (by omega) (by omega) ?_
    rw [show Int.toNat (1) = 1 by rfl]
    refine ev_aload_n (i := 0) d_Mo_run_40 rfl rfl rfl ?_
    refine ev_getR d_Mo_run_41 rfl lk_Mo_98 lx_45 rfl ?_
    refine ev_iconst d_Mo_run_44 rfl ⟨by decide, by decide⟩ ?_
    refine ev_iload (i := 4) d_Mo_run_45 rfl rfl ?_
    refine ev_iastore d_Mo_run_47 rfl lx_75 (by omega) (by omega) ?_
    rw [show Int.toNat (2) = 2 by rfl]
    refine ev_iconst d_Mo_run_48 rfl ⟨by decide, by decide⟩ ?_
    refine ev_istore (i := 6) d_Mo_run_49 rfl (by decide) rfl ?_
    refine ev_iload (i := 5) d_Mo_run_51 rfl rfl ?_
    refine ev_if_eq_t (tgt := 97) d_Mo_run_53 (by decide) (by decide) ?_
    refine ev_aload_n (i := 0) d_Mo_run_97 rfl rfl rfl ?_
    refine ev_aload_n (i := 0) d_Mo_run_98 rfl rfl rfl ?_
    refine ev_getI (z := 1) d_Mo_run_99 rfl lk_Mo_123 lx_45 rfl (hgood) ?_
    refine ev_if_ne_t (tgt := 109) d_Mo_run_102 (by decide) (by decide) ?_
    refine ev_iload (i := 5) d_Mo_run_109 rfl rfl ?_
    refine ev_if_ne_f (tgt := 118) d_Mo_run_111 (by decide) rfl (by decide) ?_
    refine ev_iconst d_Mo_run_114 rfl ⟨by decide, by decide⟩ ?_
    refine ev_goto (tgt := 119) d_Mo_run_115 (by decide) ?_
    refine ev_putI d_Mo_run_119 rfl lk_Mo_104 fp_Mo_44 (Or.inl rfl) lx_45 rfl ?_
    refine ev_aload_n (i := 0) d_Mo_run_122 rfl rfl rfl ?_
    refine ev_getI (z := 2) d_Mo_run_123 rfl lk_Mo_104 lx_45 rfl (g_up_at _ _ _ _) ?_
    refine ev_if_eq_f (tgt := 131) d_Mo_run_126 (by decide) rfl (by decide) ?_
    refine ev_iconst d_Mo_run_129 rfl ⟨by decide, by decide⟩ ?_
    exact ev_retI d_Mo_run_130 (by first | rfl | omega | simp_all) rfl (Or.inl rfl)
