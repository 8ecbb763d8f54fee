theorem z_shl1 {x : Int} (h : 0 ≤ x ∧ x < 3) : g_b (fun a b => a <<< (b &&& 31)) 1 x = ((2 ^ x.toNat : Nat) : Int) := by
  obtain ⟨n, rfl⟩ := Int.eq_ofNat_of_zero_le h.1
  exact s_shl n (by omega)
theorem z_pow {x : Int} (h : 0 ≤ x ∧ x < 3) : 2 ^ x.toNat < 256 := by
  show 2 ^ x.toNat < 2 ^ 8
  exact Nat.pow_lt_pow_right (by decide) (by omega)
theorem c_Sg_typesTaken_c (d : Nat) (M : g_M) (h w : Nat) (hh : h < 8) (hw : M 3 h = w) (hw3 : w ≤ 3) (hp : ∀ i : Nat, i < w → 0 ≤ M 4 (3 * h + i) ∧ M 4 (3 * h + i) < 3) : Con y_Sg_typesTaken w_Sg_typesTaken (g_rm (d)) LX M [g_r 1, g_i (h : Int)] LX M (some (g_i ((v_m (h_k (M 3) (M 4) h) : Nat) : Int))) := by
  refine con_of (av := [g_r 1, g_i (h : Int)]) (ls0 := [some (g_r 1), some (g_i (h : Int)), none, none]) (by decide) rfl (Nat.le_of_ble_eq_true rfl) (g_hls (av := [g_r 1, g_i (h : Int)]) (k := 2)) (fun _ h9 => List.mem_cons_of_mem _ h9) ?_
  have hlt : ∀ i, i ≤ w → v_m ((List.range i).map (fun i => (M 4 (3 * h + i)).toNat)) < 256 := fun i hi => v_m_lt (fun v hv => by obtain ⟨j, hj, rfl⟩ := List.mem_map.mp hv; have h1 := List.mem_range.mp hj; have h2 := hp j (by omega); omega)
  refine ev_iconst d_Sg_typesTaken_0 rfl ⟨by decide, by decide⟩ ?_
  refine ev_istore_n (i := 2) d_Sg_typesTaken_1 rfl rfl (by decide) rfl ?_
  refine ev_iconst d_Sg_typesTaken_2 rfl ⟨by decide, by decide⟩ ?_
  refine ev_istore_n (i := 3) d_Sg_typesTaken_3 rfl rfl (by decide) rfl ?_
  refine ev_wl (fun n ls1 => ∃ i : Nat, i ≤ w ∧ n = w - i ∧ ls1 = [some (g_r 1), some (g_i (h : Int)), some (g_i ((v_m ((List.range i).map (fun i => (M 4 (3 * h + i)).toNat)) : Nat) : Int)), some (g_i (i : Int))]) ?_ (n := w) (⟨0, Nat.zero_le _, rfl, rfl⟩)
  intro n ls1 hP ih
  obtain ⟨i, hi, hn, rfl⟩ := hP
  have hb8 := hlt i hi
  refine ev_iload_n (i := 3) d_Sg_typesTaken_4 rfl rfl rfl ?_
  refine ev_aload_n (i := 0) d_Sg_typesTaken_5 rfl rfl rfl ?_
  refine ev_getR d_Sg_typesTaken_6 rfl lk_Sg_19 lx_1 rfl ?_
  refine ev_iload_n (i := 1) d_Sg_typesTaken_9 rfl rfl rfl ?_
  refine ev_iaload (z := (w : Int)) d_Sg_typesTaken_10 rfl lx_3 (by omega) (by omega) (hw) ?_
  refine ev_icmp_ge (tgt := 35) d_Sg_typesTaken_11 (by decide) rfl (fun hz => ?_) (fun hz => ?_)
  · refine ev_iload_n (i := 2) d_Sg_typesTaken_35 rfl rfl rfl ?_
    exact ev_retI d_Sg_typesTaken_36 (by have e : i = w := (by omega); subst e; unfold h_k; rw [hw, Int.toNat_natCast]) rfl (Or.inl rfl)
  · refine ev_iload_n (i := 2) d_Sg_typesTaken_14 rfl rfl rfl ?_
    refine ev_iconst d_Sg_typesTaken_15 rfl ⟨by decide, by decide⟩ ?_
    refine ev_aload_n (i := 0) d_Sg_typesTaken_16 rfl rfl rfl ?_
    refine ev_getR d_Sg_typesTaken_17 rfl lk_Sg_22 lx_1 rfl ?_
    refine ev_iload_n (i := 1) d_Sg_typesTaken_20 rfl rfl rfl ?_
    refine ev_iconst d_Sg_typesTaken_21 rfl ⟨by decide, by decide⟩ ?_
    refine ev_imul (z := 3 * (h : Int)) d_Sg_typesTaken_22 rfl (by rw [g_w_id (by unfold g_rg; omega)]; omega) ?_
    refine ev_iload_n (i := 3) d_Sg_typesTaken_23 rfl rfl rfl ?_
    refine ev_iadd (z := 3 * (h : Int) + (i : Int)) d_Sg_typesTaken_24 rfl (g_w_id (by unfold g_rg; omega)) ?_
    refine ev_iaload (z := M 4 (3 * h + i)) d_Sg_typesTaken_25 rfl lx_4 (by omega) (by omega) (by rw [show (3 * (h : Int) + (i : Int)).toNat = 3 * h + i by omega]) ?_
    refine ev_ishl (z := ((2 ^ (M 4 (3 * h + i)).toNat : Nat) : Int)) d_Sg_typesTaken_26 rfl (z_shl1 (hp i (by omega))) ?_
    refine ev_ior (z := ((v_m ((List.range (i + 1)).map (fun i => (M 4 (3 * h + i)).toNat)) : Nat) : Int)) d_Sg_typesTaken_27 rfl (by have hb9 := z_pow (hp i (by omega)); rw [g_b_or (by omega) (by omega), h_k_s]) ?_
    refine ev_istore_n (i := 2) d_Sg_typesTaken_28 rfl rfl (by decide) rfl ?_
    refine ev_iinc (z := (i : Int) + 1) d_Sg_typesTaken_29 rfl rfl (by decide) (g_w_id (by unfold g_rg; omega)) rfl ?_
    refine ev_goto (tgt := 4) d_Sg_typesTaken_32 (by decide) ?_
    exact ev_le (ih (w - (i + 1)) [some (g_r 1), some (g_i (h : Int)), some (g_i ((v_m ((List.range (i + 1)).map (fun i => (M 4 (3 * h + i)).toNat)) : Nat) : Int)), some (g_i ((i + 1 : Nat) : Int))] (by omega) ⟨i + 1, by omega, rfl, rfl⟩) rfl ⟨rfl, rfl, rfl, rfl, trivial⟩
theorem c_Sg_typesUsed_c (d : Nat) (M : g_M) (m : Nat) (ty wd pl : Nat → Int) (hS : r_S m 8 (M 2) (M 3) (M 4) ty wd pl) (hm : M 1 4 = m) : Con y_Sg_typesUsed w_Sg_typesUsed (g_rm (d + 1)) LX M [g_r 1] LX M (some (g_i ((v_m (h_u (M 2) (M 3) (M 4) m) : Nat) : Int))) := by
  refine con_of (av := [g_r 1]) (ls0 := [some (g_r 1), none, none]) (by decide) rfl (Nat.le_of_ble_eq_true rfl) (g_hls (av := [g_r 1]) (k := 2)) (fun _ h9 => List.mem_cons_of_mem _ h9) ?_
  have hmo := hS.2.1
  refine ev_iconst d_Sg_typesUsed_0 rfl ⟨by decide, by decide⟩ ?_
  refine ev_istore_n (i := 1) d_Sg_typesUsed_1 rfl rfl (by decide) rfl ?_
  refine ev_iconst d_Sg_typesUsed_2 rfl ⟨by decide, by decide⟩ ?_
  refine ev_istore_n (i := 2) d_Sg_typesUsed_3 rfl rfl (by decide) rfl ?_
  refine ev_wl (fun n ls1 => ∃ c : Nat, c ≤ m ∧ n = m - c ∧ ls1 = [some (g_r 1), some (g_i ((v_m (h_u (M 2) (M 3) (M 4) c) : Nat) : Int)), some (g_i (c : Int))]) ?_ (n := m) (⟨0, Nat.zero_le _, rfl, rfl⟩)
  intro n ls1 hP ih
  obtain ⟨c, hc, hn, rfl⟩ := hP
  have hb8 : v_m (h_u (M 2) (M 3) (M 4) c) < 256 := v_m_lt (fun v hv => by have := r_S_u hS c (by omega) v hv; omega)
  refine ev_iload_n (i := 2) d_Sg_typesUsed_4 rfl rfl rfl ?_
  refine ev_aload_n (i := 0) d_Sg_typesUsed_5 rfl rfl rfl ?_
  refine ev_getI (z := (m : Int)) d_Sg_typesUsed_6 rfl lk_Sg_25 lx_1 rfl (hm) ?_
  refine ev_icmp_ge (tgt := 35) d_Sg_typesUsed_9 (by decide) rfl (fun hz => ?_) (fun hz => ?_)
  · refine ev_iload_n (i := 1) d_Sg_typesUsed_35 rfl rfl rfl ?_
    exact ev_retI d_Sg_typesUsed_36 (by have e : c = m := (by omega); subst e; rfl) rfl (Or.inl rfl)
  · obtain ⟨s1, s2, s3, s4⟩ := r_S_3 hS c (by omega)
    refine ev_iload_n (i := 1) d_Sg_typesUsed_12 rfl rfl rfl ?_
    refine ev_iconst d_Sg_typesUsed_13 rfl ⟨by decide, by decide⟩ ?_
    refine ev_aload_n (i := 0) d_Sg_typesUsed_14 rfl rfl rfl ?_
    refine ev_getR d_Sg_typesUsed_15 rfl lk_Sg_15 lx_1 rfl ?_
    refine ev_iload_n (i := 2) d_Sg_typesUsed_18 rfl rfl rfl ?_
    refine ev_iaload (z := M 2 c) d_Sg_typesUsed_19 rfl lx_2 (by omega) (by omega) (rfl) ?_
    refine ev_ishl (z := ((2 ^ (M 2 c).toNat : Nat) : Int)) d_Sg_typesUsed_20 rfl (z_shl1 s1) ?_
    refine ev_aload_n (i := 0) d_Sg_typesUsed_21 rfl rfl rfl ?_
    refine ev_iload_n (i := 2) d_Sg_typesUsed_22 rfl rfl rfl ?_
    refine ev_callV (As := [g_i (c : Int)]) d_Sg_typesUsed_23 rfl cl_Sg_36 (c_Sg_typesTaken_c (d + 0) M c (M 3 c).toNat (by omega) (by omega) (by omega) (fun i hi => s3 i (by omega))) (g_hR (by decide)) g_h0 lx_1 rfl rfl (Nat.le_of_ble_eq_true rfl) rfl rfl ?_
    refine ev_ior (z := ((2 ^ (M 2 c).toNat ||| (v_m (h_k (M 3) (M 4) c) : Nat) : Nat) : Int)) d_Sg_typesUsed_26 rfl (by have hb9 := z_pow s1; have hb7 : v_m (h_k (M 3) (M 4) c) < 256 := v_m_lt (fun v hv => by have := s4 v hv; omega); rw [g_b_or (by omega) (by omega)]) ?_
    refine ev_ior (z := ((v_m (h_u (M 2) (M 3) (M 4) (c + 1)) : Nat) : Int)) d_Sg_typesUsed_27 rfl (by have hb9 := z_pow s1; have hb7 : v_m (h_k (M 3) (M 4) c) < 256 := v_m_lt (fun v hv => by have := s4 v hv; omega); have hb6 : 2 ^ (M 2 c).toNat ||| v_m (h_k (M 3) (M 4) c) < 2 ^ 8 := Nat.or_lt_two_pow hb9 hb7; rw [g_b_or (by omega) (by omega), h_u_s]) ?_
    refine ev_istore_n (i := 1) d_Sg_typesUsed_28 rfl rfl (by decide) rfl ?_
    refine ev_iinc (z := (c : Int) + 1) d_Sg_typesUsed_29 rfl rfl (by decide) (g_w_id (by unfold g_rg; omega)) rfl ?_
    refine ev_goto (tgt := 4) d_Sg_typesUsed_32 (by decide) ?_
    exact ev_le (ih (m - (c + 1)) [some (g_r 1), some (g_i ((v_m (h_u (M 2) (M 3) (M 4) (c + 1)) : Nat) : Int)), some (g_i ((c + 1 : Nat) : Int))] (by omega) ⟨c + 1, by omega, rfl, rfl⟩) rfl ⟨rfl, rfl, rfl, trivial⟩
theorem c_Sg_typesTaken_f (d : Nat) (M : g_M) (h w : Nat) (hh : h < 6) (hw : M 7 h = w) (hw3 : w ≤ 3) (hp : ∀ i : Nat, i < w → 0 ≤ M 8 (3 * h + i) ∧ M 8 (3 * h + i) < 3) : Con y_Sg_typesTaken w_Sg_typesTaken (g_rm (d)) LX M [g_r 5, g_i (h : Int)] LX M (some (g_i ((v_m (h_k (M 7) (M 8) h) : Nat) : Int))) := by
  refine con_of (av := [g_r 5, g_i (h : Int)]) (ls0 := [some (g_r 5), some (g_i (h : Int)), none, none]) (by decide) rfl (Nat.le_of_ble_eq_true rfl) (g_hls (av := [g_r 5, g_i (h : Int)]) (k := 2)) (fun _ h9 => List.mem_cons_of_mem _ h9) ?_
  have hlt : ∀ i, i ≤ w → v_m ((List.range i).map (fun i => (M 8 (3 * h + i)).toNat)) < 256 := fun i hi => v_m_lt (fun v hv => by obtain ⟨j, hj, rfl⟩ := List.mem_map.mp hv; have h1 := List.mem_range.mp hj; have h2 := hp j (by omega); omega)
  refine ev_iconst d_Sg_typesTaken_0 rfl ⟨by decide, by decide⟩ ?_
  refine ev_istore_n (i := 2) d_Sg_typesTaken_1 rfl rfl (by decide) rfl ?_
  refine ev_iconst d_Sg_typesTaken_2 rfl ⟨by decide, by decide⟩ ?_
  refine ev_istore_n (i := 3) d_Sg_typesTaken_3 rfl rfl (by decide) rfl ?_
  refine ev_wl (fun n ls1 => ∃ i : Nat, i ≤ w ∧ n = w - i ∧ ls1 = [some (g_r 5), some (g_i (h : Int)), some (g_i ((v_m ((List.range i).map (fun i => (M 8 (3 * h + i)).toNat)) : Nat) : Int)), some (g_i (i : Int))]) ?_ (n := w) (⟨0, Nat.zero_le _, rfl, rfl⟩)
  intro n ls1 hP ih
  obtain ⟨i, hi, hn, rfl⟩ := hP
  have hb8 := hlt i hi
  refine ev_iload_n (i := 3) d_Sg_typesTaken_4 rfl rfl rfl ?_
  refine ev_aload_n (i := 0) d_Sg_typesTaken_5 rfl rfl rfl ?_
  refine ev_getR d_Sg_typesTaken_6 rfl lk_Sg_19 lx_5 rfl ?_
  refine ev_iload_n (i := 1) d_Sg_typesTaken_9 rfl rfl rfl ?_
  refine ev_iaload (z := (w : Int)) d_Sg_typesTaken_10 rfl lx_7 (by omega) (by omega) (hw) ?_
  refine ev_icmp_ge (tgt := 35) d_Sg_typesTaken_11 (by decide) rfl (fun hz => ?_) (fun hz => ?_)
  · refine ev_iload_n (i := 2) d_Sg_typesTaken_35 rfl rfl rfl ?_
    exact ev_retI d_Sg_typesTaken_36 (by have e : i = w := (by omega); subst e; unfold h_k; rw [hw, Int.toNat_natCast]) rfl (Or.inl rfl)
  · refine ev_iload_n (i := 2) d_Sg_typesTaken_14 rfl rfl rfl ?_
    refine ev_iconst d_Sg_typesTaken_15 rfl ⟨by decide, by decide⟩ ?_
    refine ev_aload_n (i := 0) d_Sg_typesTaken_16 rfl rfl rfl ?_
    refine ev_getR d_Sg_typesTaken_17 rfl lk_Sg_22 lx_5 rfl ?_
    refine ev_iload_n (i := 1) d_Sg_typesTaken_20 rfl rfl rfl ?_
    refine ev_iconst d_Sg_typesTaken_21 rfl ⟨by decide, by decide⟩ ?_
    refine ev_imul (z := 3 * (h : Int)) d_Sg_typesTaken_22 rfl (by rw [g_w_id (by unfold g_rg; omega)]; omega) ?_
    refine ev_iload_n (i := 3) d_Sg_typesTaken_23 rfl rfl rfl ?_
    refine ev_iadd (z := 3 * (h : Int) + (i : Int)) d_Sg_typesTaken_24 rfl (g_w_id (by unfold g_rg; omega)) ?_
    refine ev_iaload (z := M 8 (3 * h + i)) d_Sg_typesTaken_25 rfl lx_8 (by omega) (by omega) (by rw [show (3 * (h : Int) + (i : Int)).toNat = 3 * h + i by omega]) ?_
    refine ev_ishl (z := ((2 ^ (M 8 (3 * h + i)).toNat : Nat) : Int)) d_Sg_typesTaken_26 rfl (z_shl1 (hp i (by omega))) ?_
    refine ev_ior (z := ((v_m ((List.range (i + 1)).map (fun i => (M 8 (3 * h + i)).toNat)) : Nat) : Int)) d_Sg_typesTaken_27 rfl (by have hb9 := z_pow (hp i (by omega)); rw [g_b_or (by omega) (by omega), h_k_s]) ?_
    refine ev_istore_n (i := 2) d_Sg_typesTaken_28 rfl rfl (by decide) rfl ?_
    refine ev_iinc (z := (i : Int) + 1) d_Sg_typesTaken_29 rfl rfl (by decide) (g_w_id (by unfold g_rg; omega)) rfl ?_
    refine ev_goto (tgt := 4) d_Sg_typesTaken_32 (by decide) ?_
    exact ev_le (ih (w - (i + 1)) [some (g_r 5), some (g_i (h : Int)), some (g_i ((v_m ((List.range (i + 1)).map (fun i => (M 8 (3 * h + i)).toNat)) : Nat) : Int)), some (g_i ((i + 1 : Nat) : Int))] (by omega) ⟨i + 1, by omega, rfl, rfl⟩) rfl ⟨rfl, rfl, rfl, rfl, trivial⟩
theorem c_Sg_typesUsed_f (d : Nat) (M : g_M) (m : Nat) (ty wd pl : Nat → Int) (hS : r_S m 6 (M 6) (M 7) (M 8) ty wd pl) (hm : M 5 4 = m) : Con y_Sg_typesUsed w_Sg_typesUsed (g_rm (d + 1)) LX M [g_r 5] LX M (some (g_i ((v_m (h_u (M 6) (M 7) (M 8) m) : Nat) : Int))) := by
  refine con_of (av := [g_r 5]) (ls0 := [some (g_r 5), none, none]) (by decide) rfl (Nat.le_of_ble_eq_true rfl) (g_hls (av := [g_r 5]) (k := 2)) (fun _ h9 => List.mem_cons_of_mem _ h9) ?_
  have hmo := hS.2.1
  refine ev_iconst d_Sg_typesUsed_0 rfl ⟨by decide, by decide⟩ ?_
  refine ev_istore_n (i := 1) d_Sg_typesUsed_1 rfl rfl (by decide) rfl ?_
  refine ev_iconst d_Sg_typesUsed_2 rfl ⟨by decide, by decide⟩ ?_
  refine ev_istore_n (i := 2) d_Sg_typesUsed_3 rfl rfl (by decide) rfl ?_
  refine ev_wl (fun n ls1 => ∃ c : Nat, c ≤ m ∧ n = m - c ∧ ls1 = [some (g_r 5), some (g_i ((v_m (h_u (M 6) (M 7) (M 8) c) : Nat) : Int)), some (g_i (c : Int))]) ?_ (n := m) (⟨0, Nat.zero_le _, rfl, rfl⟩)
  intro n ls1 hP ih
  obtain ⟨c, hc, hn, rfl⟩ := hP
  have hb8 : v_m (h_u (M 6) (M 7) (M 8) c) < 256 := v_m_lt (fun v hv => by have := r_S_u hS c (by omega) v hv; omega)
  refine ev_iload_n (i := 2) d_Sg_typesUsed_4 rfl rfl rfl ?_
  refine ev_aload_n (i := 0) d_Sg_typesUsed_5 rfl rfl rfl ?_
  refine ev_getI (z := (m : Int)) d_Sg_typesUsed_6 rfl lk_Sg_25 lx_5 rfl (hm) ?_
  refine ev_icmp_ge (tgt := 35) d_Sg_typesUsed_9 (by decide) rfl (fun hz => ?_) (fun hz => ?_)
  · refine ev_iload_n (i := 1) d_Sg_typesUsed_35 rfl rfl rfl ?_
    exact ev_retI d_Sg_typesUsed_36 (by have e : c = m := (by omega); subst e; rfl) rfl (Or.inl rfl)
  · obtain ⟨s1, s2, s3, s4⟩ := r_S_3 hS c (by omega)
    refine ev_iload_n (i := 1) d_Sg_typesUsed_12 rfl rfl rfl ?_
    refine ev_iconst d_Sg_typesUsed_13 rfl ⟨by decide, by decide⟩ ?_
    refine ev_aload_n (i := 0) d_Sg_typesUsed_14 rfl rfl rfl ?_
    refine ev_getR d_Sg_typesUsed_15 rfl lk_Sg_15 lx_5 rfl ?_
    refine ev_iload_n (i := 2) d_Sg_typesUsed_18 rfl rfl rfl ?_
    refine ev_iaload (z := M 6 c) d_Sg_typesUsed_19 rfl lx_6 (by omega) (by omega) (rfl) ?_
    refine ev_ishl (z := ((2 ^ (M 6 c).toNat : Nat) : Int)) d_Sg_typesUsed_20 rfl (z_shl1 s1) ?_
    refine ev_aload_n (i := 0) d_Sg_typesUsed_21 rfl rfl rfl ?_
    refine ev_iload_n (i := 2) d_Sg_typesUsed_22 rfl rfl rfl ?_
    refine ev_callV (As := [g_i (c : Int)]) d_Sg_typesUsed_23 rfl cl_Sg_36 (c_Sg_typesTaken_f (d + 0) M c (M 7 c).toNat (by omega) (by omega) (by omega) (fun i hi => s3 i (by omega))) (g_hR (by decide)) g_h0 lx_5 rfl rfl (Nat.le_of_ble_eq_true rfl) rfl rfl ?_
    refine ev_ior (z := ((2 ^ (M 6 c).toNat ||| (v_m (h_k (M 7) (M 8) c) : Nat) : Nat) : Int)) d_Sg_typesUsed_26 rfl (by have hb9 := z_pow s1; have hb7 : v_m (h_k (M 7) (M 8) c) < 256 := v_m_lt (fun v hv => by have := s4 v hv; omega); rw [g_b_or (by omega) (by omega)]) ?_
    refine ev_ior (z := ((v_m (h_u (M 6) (M 7) (M 8) (c + 1)) : Nat) : Int)) d_Sg_typesUsed_27 rfl (by have hb9 := z_pow s1; have hb7 : v_m (h_k (M 7) (M 8) c) < 256 := v_m_lt (fun v hv => by have := s4 v hv; omega); have hb6 : 2 ^ (M 6 c).toNat ||| v_m (h_k (M 7) (M 8) c) < 2 ^ 8 := Nat.or_lt_two_pow hb9 hb7; rw [g_b_or (by omega) (by omega), h_u_s]) ?_
    refine ev_istore_n (i := 1) d_Sg_typesUsed_28 rfl rfl (by decide) rfl ?_
    refine ev_iinc (z := (c : Int) + 1) d_Sg_typesUsed_29 rfl rfl (by decide) (g_w_id (by unfold g_rg; omega)) rfl ?_
    refine ev_goto (tgt := 4) d_Sg_typesUsed_32 (by decide) ?_
    exact ev_le (ih (m - (c + 1)) [some (g_r 5), some (g_i ((v_m (h_u (M 6) (M 7) (M 8) (c + 1)) : Nat) : Int)), some (g_i ((c + 1 : Nat) : Int))] (by omega) ⟨c + 1, by omega, rfl, rfl⟩) rfl ⟨rfl, rfl, rfl, trivial⟩
theorem c_Ty_typesWithValues (d : Nat) (M : g_M) (m : Nat) (ty wd pl : Nat → Int) (hS : r_S m 8 (M 2) (M 3) (M 4) ty wd pl) (hm : M 1 4 = m) : Con y_Ty_typesWithValues w_Ty_typesWithValues (g_rm (d + 1)) LX M [g_r 25] LX M (some (g_i ((h_m (h_r (M 2) (M 3) (M 4) m 3) : Nat) : Int))) := by
  refine con_of (av := [g_r 25]) (ls0 := [some (g_r 25), none, none, none]) (by decide) rfl (Nat.le_of_ble_eq_true rfl) (g_hls (av := [g_r 25]) (k := 3)) (fun _ h9 => List.mem_cons_of_mem _ h9) ?_
  have hmo := hS.2.1
  refine ev_iconst d_Ty_typesWithValues_0 rfl ⟨by decide, by decide⟩ ?_
  refine ev_istore_n (i := 1) d_Ty_typesWithValues_1 rfl rfl (by decide) rfl ?_
  refine ev_iconst d_Ty_typesWithValues_2 rfl ⟨by decide, by decide⟩ ?_
  refine ev_istore_n (i := 2) d_Ty_typesWithValues_3 rfl rfl (by decide) rfl ?_
  refine ev_wl (fun n ls1 => ∃ r : Nat, r ≤ 3 ∧ n = 3 - r ∧ ls1 = [some (g_r 25), some (g_i ((h_m (h_r (M 2) (M 3) (M 4) m r) : Nat) : Int)), some (g_i (r : Int)), none]) ?_ (n := 3) (⟨0, Nat.zero_le _, rfl, rfl⟩)
  intro n ls1 hP ih
  obtain ⟨r, hr, hn, rfl⟩ := hP
  refine ev_iload_n (i := 2) d_Ty_typesWithValues_4 rfl rfl rfl ?_
  refine ev_iconst d_Ty_typesWithValues_5 rfl ⟨by decide, by decide⟩ ?_
  refine ev_icmp_ge (tgt := 62) d_Ty_typesWithValues_6 (by decide) rfl (fun hz0 => ?_) (fun hz0 => ?_)
  · refine ev_iload_n (i := 1) d_Ty_typesWithValues_62 rfl rfl rfl ?_
    exact ev_retI d_Ty_typesWithValues_63 (by have e : r = 3 := (by omega); subst e; rfl) rfl (Or.inl rfl)
  · refine ev_iconst d_Ty_typesWithValues_9 rfl ⟨by decide, by decide⟩ ?_
    refine ev_istore_n (i := 3) d_Ty_typesWithValues_10 rfl rfl (by decide) rfl ?_
    refine ev_wl (fun n ls2 => ∃ c : Nat, c ≤ m ∧ n = m - c ∧ ls2 = [some (g_r 25), some (g_i ((h_m (h_c (M 2) (M 3) (M 4) (h_r (M 2) (M 3) (M 4) m r) c) : Nat) : Int)), some (g_i (r : Int)), some (g_i (c : Int))]) ?_ (n := m) (⟨0, Nat.zero_le _, rfl, rfl⟩)
    intro n2 ls2 hP2 ih2
    obtain ⟨c, hc, hn2, rfl⟩ := hP2
    have hb8 := h_m_lt (h_c (M 2) (M 3) (M 4) (h_r (M 2) (M 3) (M 4) m r) c)
    refine ev_iload_n (i := 3) d_Ty_typesWithValues_11 rfl rfl rfl ?_
    refine ev_aload_n (i := 0) d_Ty_typesWithValues_12 rfl rfl rfl ?_
    refine ev_getR d_Ty_typesWithValues_13 rfl lk_Ty_9 lx_25 rfl ?_
    refine ev_callV (As := []) d_Ty_typesWithValues_16 rfl cl_Ty_39 ((c_Sg_howMany_c (d + 0) M).eqr (hm)) (g_hR (by decide)) g_h0 lx_1 rfl rfl (Nat.le_of_ble_eq_true rfl) rfl rfl ?_
    refine ev_icmp_ge (tgt := 56) d_Ty_typesWithValues_19 (by decide) rfl (fun hz => ?_) (fun hz => ?_)
    · refine ev_iinc (z := (r : Int) + 1) d_Ty_typesWithValues_56 rfl rfl (by decide) (g_w_id (by unfold g_rg; omega)) rfl ?_
      refine ev_goto (tgt := 4) d_Ty_typesWithValues_59 (by decide) ?_
      have e : c = m := by omega
      subst e
      exact ev_le (ih (3 - (r + 1)) [some (g_r 25), some (g_i ((h_m (h_r (M 2) (M 3) (M 4) c (r + 1)) : Nat) : Int)), some (g_i ((r + 1 : Nat) : Int)), none] (by omega) ⟨r + 1, by omega, rfl, rfl⟩) rfl ⟨rfl, rfl, rfl, trivial⟩
    · obtain ⟨s1, s2, s3, s4⟩ := r_S_3 hS c (by omega)
      refine ev_aload_n (i := 0) d_Ty_typesWithValues_22 rfl rfl rfl ?_
      refine ev_getR d_Ty_typesWithValues_23 rfl lk_Ty_9 lx_25 rfl ?_
      refine ev_iload_n (i := 3) d_Ty_typesWithValues_26 rfl rfl rfl ?_
      refine ev_callV (As := [g_i (c : Int)]) d_Ty_typesWithValues_27 rfl cl_Ty_42 (c_Sg_typesTaken_c (d + 0) M c (M 3 c).toNat (by omega) (by omega) (by omega) (fun i hi => s3 i (by omega))) (g_hR (by decide)) g_h0 lx_1 rfl rfl (Nat.le_of_ble_eq_true rfl) rfl rfl ?_
      refine ev_iload_n (i := 1) d_Ty_typesWithValues_30 rfl rfl rfl ?_
      refine ev_iconst d_Ty_typesWithValues_31 rfl ⟨by decide, by decide⟩ ?_
      refine ev_ixor (z := g_b (fun a b => a ^^^ b) ((h_m (h_c (M 2) (M 3) (M 4) (h_r (M 2) (M 3) (M 4) m r) c) : Nat) : Int) (-1)) d_Ty_typesWithValues_32 rfl (rfl) ?_
      refine ev_iand (z := g_b (fun a b => a &&& b) ((v_m (h_k (M 3) (M 4) c) : Nat) : Int) (g_b (fun a b => a ^^^ b) ((h_m (h_c (M 2) (M 3) (M 4) (h_r (M 2) (M 3) (M 4) m r) c) : Nat) : Int) (-1))) d_Ty_typesWithValues_33 rfl (rfl) ?_
      refine ev_if_ne (tgt := 50) d_Ty_typesWithValues_34 (by decide) rfl (fun c0 => ?_) (fun c0 => ?_)
      · have c1 : ¬ (h_k (M 3) (M 4) c).all (h_c (M 2) (M 3) (M 4) (h_r (M 2) (M 3) (M 4) m r) c) = true := fun h9 => c0 ((h_sub s4).mpr h9)
        refine ev_iinc (z := (c : Int) + 1) d_Ty_typesWithValues_50 rfl rfl (by decide) (g_w_id (by unfold g_rg; omega)) rfl ?_
        refine ev_goto (tgt := 11) d_Ty_typesWithValues_53 (by decide) ?_
        rw [← h_c_no c1]
        exact ev_le (ih2 (m - (c + 1)) [some (g_r 25), some (g_i ((h_m (h_c (M 2) (M 3) (M 4) (h_r (M 2) (M 3) (M 4) m r) (c + 1)) : Nat) : Int)), some (g_i (r : Int)), some (g_i ((c + 1 : Nat) : Int))] (by omega) ⟨c + 1, by omega, rfl, rfl⟩) rfl ⟨rfl, rfl, rfl, rfl, trivial⟩
      · have c1 : (h_k (M 3) (M 4) c).all (h_c (M 2) (M 3) (M 4) (h_r (M 2) (M 3) (M 4) m r) c) = true := (h_sub s4).mp (by omega)
        refine ev_iload_n (i := 1) d_Ty_typesWithValues_37 rfl rfl rfl ?_
        refine ev_iconst d_Ty_typesWithValues_38 rfl ⟨by decide, by decide⟩ ?_
        refine ev_aload_n (i := 0) d_Ty_typesWithValues_39 rfl rfl rfl ?_
        refine ev_getR d_Ty_typesWithValues_40 rfl lk_Ty_9 lx_25 rfl ?_
        refine ev_iload_n (i := 3) d_Ty_typesWithValues_43 rfl rfl rfl ?_
        refine ev_callV (As := [g_i (c : Int)]) d_Ty_typesWithValues_44 rfl cl_Ty_46 (c_Sg_type_c (d + 0) M c (by omega)) (g_hR (by decide)) g_h0 lx_1 rfl rfl (Nat.le_of_ble_eq_true rfl) rfl rfl ?_
        refine ev_ishl (z := ((2 ^ (M 2 c).toNat : Nat) : Int)) d_Ty_typesWithValues_47 rfl (z_shl1 s1) ?_
        refine ev_ior (z := ((h_m (h_c (M 2) (M 3) (M 4) (h_r (M 2) (M 3) (M 4) m r) c) ||| 2 ^ (M 2 c).toNat : Nat) : Int)) d_Ty_typesWithValues_48 rfl (by have hb9 := z_pow s1; rw [g_b_or (by omega) (by omega)]) ?_
        refine ev_istore_n (i := 1) d_Ty_typesWithValues_49 rfl rfl (by decide) rfl ?_
        refine ev_iinc (z := (c : Int) + 1) d_Ty_typesWithValues_50 rfl rfl (by decide) (g_w_id (by unfold g_rg; omega)) rfl ?_
        refine ev_goto (tgt := 11) d_Ty_typesWithValues_53 (by decide) ?_
        rw [h_m_up (by omega) c1]
        exact ev_le (ih2 (m - (c + 1)) [some (g_r 25), some (g_i ((h_m (h_c (M 2) (M 3) (M 4) (h_r (M 2) (M 3) (M 4) m r) (c + 1)) : Nat) : Int)), some (g_i (r : Int)), some (g_i ((c + 1 : Nat) : Int))] (by omega) ⟨c + 1, by omega, rfl, rfl⟩) rfl ⟨rfl, rfl, rfl, rfl, trivial⟩
theorem c_Ty_allInhabited (d : Nat) (M : g_M) (m m2 : Nat) (ty wd pl ty2 wd2 pl2 : Nat → Int) (hS : r_S m 8 (M 2) (M 3) (M 4) ty wd pl) (hm : M 1 4 = m) (hS2 : r_S m2 6 (M 6) (M 7) (M 8) ty2 wd2 pl2) (hm2 : M 5 4 = m2) : Con y_Ty_allInhabited w_Ty_allInhabited (g_rm (d + 3)) LX M [g_r 25] LX M (some (g_i (if ((h_u (M 2) (M 3) (M 4) m) ++ (h_u (M 6) (M 7) (M 8) m2)).all (h_r (M 2) (M 3) (M 4) m 3) = true then 1 else 0))) := by
  refine con_of (av := [g_r 25]) (ls0 := [some (g_r 25), none]) (by decide) rfl (Nat.le_of_ble_eq_true rfl) (g_hls (av := [g_r 25]) (k := 1)) (fun _ h9 => List.mem_cons_of_mem _ h9) ?_
  have u1 : ∀ x ∈ (h_u (M 2) (M 3) (M 4) m) ++ (h_u (M 6) (M 7) (M 8) m2), x < 3 := fun x hx => (List.mem_append.mp hx).elim (fun h => r_S_u hS m (Int.le_refl _) x h) (fun h => r_S_u hS2 m2 (Int.le_refl _) x h)
  have u2 : v_m (h_u (M 2) (M 3) (M 4) m) < 256 := v_m_lt (fun v hv => by have := u1 v (List.mem_append_left _ hv); omega)
  have u3 : v_m (h_u (M 6) (M 7) (M 8) m2) < 256 := v_m_lt (fun v hv => by have := u1 v (List.mem_append_right _ hv); omega)
  refine ev_aload_n (i := 0) d_Ty_allInhabited_0 rfl rfl rfl ?_
  refine ev_getR d_Ty_allInhabited_1 rfl lk_Ty_9 lx_25 rfl ?_
  refine ev_callV (As := []) d_Ty_allInhabited_4 rfl cl_Ty_30 (c_Sg_typesUsed_c (d + 1) M m ty wd pl hS hm) (g_hR (by decide)) g_h0 lx_1 rfl rfl (Nat.le_of_ble_eq_true rfl) rfl rfl ?_
  refine ev_aload_n (i := 0) d_Ty_allInhabited_7 rfl rfl rfl ?_
  refine ev_getR d_Ty_allInhabited_8 rfl lk_Ty_15 lx_25 rfl ?_
  refine ev_callV (As := []) d_Ty_allInhabited_11 rfl cl_Ty_30 (c_Sg_typesUsed_f (d + 1) M m2 ty2 wd2 pl2 hS2 hm2) (g_hR (by decide)) g_h0 lx_5 rfl rfl (Nat.le_of_ble_eq_true rfl) rfl rfl ?_
  refine ev_ior (z := ((v_m ((h_u (M 2) (M 3) (M 4) m) ++ (h_u (M 6) (M 7) (M 8) m2)) : Nat) : Int)) d_Ty_allInhabited_14 rfl (by rw [g_b_or (by omega) (by omega), v_m_app]) ?_
  refine ev_istore_n (i := 1) d_Ty_allInhabited_15 rfl rfl (by decide) rfl ?_
  refine ev_iload_n (i := 1) d_Ty_allInhabited_16 rfl rfl rfl ?_
  refine ev_aload_n (i := 0) d_Ty_allInhabited_17 rfl rfl rfl ?_
  refine ev_callV (As := []) d_Ty_allInhabited_18 rfl cl_Ty_36 (c_Ty_typesWithValues (d + 1) M m ty wd pl hS hm) (g_hR (by decide)) g_h0 lx_25 rfl rfl (Nat.le_of_ble_eq_true rfl) rfl rfl ?_
  refine ev_iconst d_Ty_allInhabited_21 rfl ⟨by decide, by decide⟩ ?_
  refine ev_ixor (z := g_b (fun a b => a ^^^ b) ((h_m (h_r (M 2) (M 3) (M 4) m 3) : Nat) : Int) (-1)) d_Ty_allInhabited_22 rfl (rfl) ?_
  refine ev_iand (z := g_b (fun a b => a &&& b) ((v_m ((h_u (M 2) (M 3) (M 4) m) ++ (h_u (M 6) (M 7) (M 8) m2)) : Nat) : Int) (g_b (fun a b => a ^^^ b) ((h_m (h_r (M 2) (M 3) (M 4) m 3) : Nat) : Int) (-1))) d_Ty_allInhabited_23 rfl (rfl) ?_
  refine ev_if_ne (tgt := 31) d_Ty_allInhabited_24 (by decide) rfl (fun c1 => ?_) (fun c1 => ?_)
  · refine ev_iconst d_Ty_allInhabited_31 rfl ⟨by decide, by decide⟩ ?_
    exact ev_retI d_Ty_allInhabited_32 (by rw [if_neg (fun h9 => c1 ((h_sub u1).mpr h9))]) rfl (Or.inr ⟨rfl, by omega⟩)
  · refine ev_iconst d_Ty_allInhabited_27 rfl ⟨by decide, by decide⟩ ?_
    refine ev_goto (tgt := 32) d_Ty_allInhabited_28 (by decide) ?_
    exact ev_retI d_Ty_allInhabited_32 (by rw [if_pos ((h_sub u1).mp (by omega))]) rfl (Or.inr ⟨rfl, by omega⟩)
