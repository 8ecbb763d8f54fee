theorem c_Cl_howMany (d : Nat) (M : g_M)   : Con y_Cl_howMany w_Cl_howMany (g_rm (d)) LX M [g_r 19] LX M (some (g_i (M 19 7))) := by
  refine con_of (av := [g_r 19]) (ls0 := [some (g_r 19)]) (by decide) rfl (Nat.le_of_ble_eq_true rfl) (g_hls (av := [g_r 19]) (k := 0)) (fun _ h9 => List.mem_cons_of_mem _ h9) ?_
  refine ev_aload_n (i := 0) d_Cl_howMany_0 rfl rfl rfl ?_
  refine ev_getI (z := M 19 7) d_Cl_howMany_1 rfl lk_Cl_35 lx_19 rfl (rfl) ?_
  exact ev_retI d_Cl_howMany_4 (by first | rfl | omega | simp_all) rfl (Or.inl rfl)
theorem c_Cl_isFull (d : Nat) (M : g_M) (f : Nat) (hf : f < 6) : Con y_Cl_isFull w_Cl_isFull (g_rm (d)) LX M [g_r 19, g_i (f : Int)] LX M (some (g_i (if 24 ≤ M 19 7 ∨ 6 ≤ M 24 f then 1 else 0))) := by
  refine con_of (av := [g_r 19, g_i (f : Int)]) (ls0 := [some (g_r 19), some (g_i (f : Int))]) (by decide) rfl (Nat.le_of_ble_eq_true rfl) (g_hls (av := [g_r 19, g_i (f : Int)]) (k := 0)) (fun _ h9 => List.mem_cons_of_mem _ h9) ?_
  refine ev_aload_n (i := 0) d_Cl_isFull_0 rfl rfl rfl ?_
  refine ev_getI (z := M 19 7) d_Cl_isFull_1 rfl lk_Cl_35 lx_19 rfl (rfl) ?_
  refine ev_bipush d_Cl_isFull_4 rfl (by decide +kernel) ⟨by decide, by decide⟩ ?_
  refine ev_icmp_ge (tgt := 20) d_Cl_isFull_6 (by decide) rfl (fun h1 => ?_) (fun h1 => ?_)
  · refine ev_iconst d_Cl_isFull_20 rfl ⟨by decide, by decide⟩ ?_
    refine ev_goto (tgt := 25) d_Cl_isFull_21 (by decide) ?_
    exact ev_retI d_Cl_isFull_25 (by first | rfl | omega | simp_all) rfl (Or.inr ⟨rfl, by omega⟩)
  · refine ev_aload_n (i := 0) d_Cl_isFull_9 rfl rfl rfl ?_
    refine ev_getR d_Cl_isFull_10 rfl lk_Cl_32 lx_19 rfl ?_
    refine ev_iload_n (i := 1) d_Cl_isFull_13 rfl rfl rfl ?_
    refine ev_iaload (z := M 24 f) d_Cl_isFull_14 rfl lx_24 (by omega) (by omega) (rfl) ?_
    refine ev_bipush d_Cl_isFull_15 rfl (by decide +kernel) ⟨by decide, by decide⟩ ?_
    refine ev_icmp_lt (tgt := 24) d_Cl_isFull_17 (by decide) rfl (fun h2 => ?_) (fun h2 => ?_)
    · refine ev_iconst d_Cl_isFull_24 rfl ⟨by decide, by decide⟩ ?_
      exact ev_retI d_Cl_isFull_25 (by first | rfl | omega | simp_all) rfl (Or.inr ⟨rfl, by omega⟩)
    · refine ev_iconst d_Cl_isFull_20 rfl ⟨by decide, by decide⟩ ?_
      refine ev_goto (tgt := 25) d_Cl_isFull_21 (by decide) ?_
      exact ev_retI d_Cl_isFull_25 (by first | rfl | omega | simp_all) rfl (Or.inr ⟨rfl, by omega⟩)
theorem c_Cl_has (d : Nat) (M : g_M) (t : Int)  : Con y_Cl_has w_Cl_has (g_rm (d)) LX M [g_r 19, g_i t] LX M (some (g_i (if 0 ≤ t ∧ t < M 19 7 then 1 else 0))) := by
  refine con_of (av := [g_r 19, g_i t]) (ls0 := [some (g_r 19), some (g_i t)]) (by decide) rfl (Nat.le_of_ble_eq_true rfl) (g_hls (av := [g_r 19, g_i t]) (k := 0)) (fun _ h9 => List.mem_cons_of_mem _ h9) ?_
  refine ev_iload_n (i := 1) d_Cl_has_0 rfl rfl rfl ?_
  refine ev_if_lt (tgt := 16) d_Cl_has_1 (by decide) rfl (fun h1 => ?_) (fun h1 => ?_)
  · refine ev_iconst d_Cl_has_16 rfl ⟨by decide, by decide⟩ ?_
    exact ev_retI d_Cl_has_17 (by first | rfl | omega | simp_all) rfl (Or.inr ⟨rfl, by omega⟩)
  · refine ev_iload_n (i := 1) d_Cl_has_4 rfl rfl rfl ?_
    refine ev_aload_n (i := 0) d_Cl_has_5 rfl rfl rfl ?_
    refine ev_getI (z := M 19 7) d_Cl_has_6 rfl lk_Cl_35 lx_19 rfl (rfl) ?_
    refine ev_icmp_ge (tgt := 16) d_Cl_has_9 (by decide) rfl (fun h2 => ?_) (fun h2 => ?_)
    · refine ev_iconst d_Cl_has_16 rfl ⟨by decide, by decide⟩ ?_
      exact ev_retI d_Cl_has_17 (by first | rfl | omega | simp_all) rfl (Or.inr ⟨rfl, by omega⟩)
    · refine ev_iconst d_Cl_has_12 rfl ⟨by decide, by decide⟩ ?_
      refine ev_goto (tgt := 17) d_Cl_has_13 (by decide) ?_
      exact ev_retI d_Cl_has_17 (by first | rfl | omega | simp_all) rfl (Or.inr ⟨rfl, by omega⟩)
theorem c_Cl_owner (d : Nat) (M : g_M) (t : Nat) (ht : t < 24) : Con y_Cl_owner w_Cl_owner (g_rm (d)) LX M [g_r 19, g_i (t : Int)] LX M (some (g_i (M 20 t))) := by
  refine con_of (av := [g_r 19, g_i (t : Int)]) (ls0 := [some (g_r 19), some (g_i (t : Int))]) (by decide) rfl (Nat.le_of_ble_eq_true rfl) (g_hls (av := [g_r 19, g_i (t : Int)]) (k := 0)) (fun _ h9 => List.mem_cons_of_mem _ h9) ?_
  refine ev_aload_n (i := 0) d_Cl_owner_0 rfl rfl rfl ?_
  refine ev_getR d_Cl_owner_1 rfl lk_Cl_19 lx_19 rfl ?_
  refine ev_iload_n (i := 1) d_Cl_owner_4 rfl rfl rfl ?_
  refine ev_iaload (z := M 20 ((t : Int)).toNat) d_Cl_owner_5 rfl lx_20 (by omega) (by omega) (rfl) ?_
  exact ev_retI d_Cl_owner_6 (by first | rfl | omega | simp_all) rfl (Or.inl rfl)
theorem c_Cl_body (d : Nat) (M : g_M) (t : Nat) (ht : t < 24) : Con y_Cl_body w_Cl_body (g_rm (d)) LX M [g_r 19, g_i (t : Int)] LX M (some (g_i (M 22 t))) := by
  refine con_of (av := [g_r 19, g_i (t : Int)]) (ls0 := [some (g_r 19), some (g_i (t : Int))]) (by decide) rfl (Nat.le_of_ble_eq_true rfl) (g_hls (av := [g_r 19, g_i (t : Int)]) (k := 0)) (fun _ h9 => List.mem_cons_of_mem _ h9) ?_
  refine ev_aload_n (i := 0) d_Cl_body_0 rfl rfl rfl ?_
  refine ev_getR d_Cl_body_1 rfl lk_Cl_26 lx_19 rfl ?_
  refine ev_iload_n (i := 1) d_Cl_body_4 rfl rfl rfl ?_
  refine ev_iaload (z := M 22 ((t : Int)).toNat) d_Cl_body_5 rfl lx_22 (by omega) (by omega) (rfl) ?_
  exact ev_retI d_Cl_body_6 (by first | rfl | omega | simp_all) rfl (Or.inl rfl)
theorem c_Cl_howManyOf (d : Nat) (M : g_M) (t : Nat) (ht : t < 6) : Con y_Cl_howManyOf w_Cl_howManyOf (g_rm (d)) LX M [g_r 19, g_i (t : Int)] LX M (some (g_i (M 24 t))) := by
  refine con_of (av := [g_r 19, g_i (t : Int)]) (ls0 := [some (g_r 19), some (g_i (t : Int))]) (by decide) rfl (Nat.le_of_ble_eq_true rfl) (g_hls (av := [g_r 19, g_i (t : Int)]) (k := 0)) (fun _ h9 => List.mem_cons_of_mem _ h9) ?_
  refine ev_aload_n (i := 0) d_Cl_howManyOf_0 rfl rfl rfl ?_
  refine ev_getR d_Cl_howManyOf_1 rfl lk_Cl_32 lx_19 rfl ?_
  refine ev_iload_n (i := 1) d_Cl_howManyOf_4 rfl rfl rfl ?_
  refine ev_iaload (z := M 24 ((t : Int)).toNat) d_Cl_howManyOf_5 rfl lx_24 (by omega) (by omega) (rfl) ?_
  exact ev_retI d_Cl_howManyOf_6 (by first | rfl | omega | simp_all) rfl (Or.inl rfl)
theorem c_Cl_pattern (d : Nat) (M : g_M) (t i : Nat) (ht : t < 24) (hi : i < 3) : Con y_Cl_pattern w_Cl_pattern (g_rm (d)) LX M [g_r 19, g_i (t : Int), g_i (i : Int)] LX M (some (g_i (M 21 (3 * t + i)))) := by
  refine con_of (av := [g_r 19, g_i (t : Int), g_i (i : Int)]) (ls0 := [some (g_r 19), some (g_i (t : Int)), some (g_i (i : Int))]) (by decide) rfl (Nat.le_of_ble_eq_true rfl) (g_hls (av := [g_r 19, g_i (t : Int), g_i (i : Int)]) (k := 0)) (fun _ h9 => List.mem_cons_of_mem _ h9) ?_
  refine ev_aload_n (i := 0) d_Cl_pattern_0 rfl rfl rfl ?_
  refine ev_getR d_Cl_pattern_1 rfl lk_Cl_23 lx_19 rfl ?_
  refine ev_iload_n (i := 1) d_Cl_pattern_4 rfl rfl rfl ?_
  refine ev_iconst d_Cl_pattern_5 rfl ⟨by decide, by decide⟩ ?_
  refine ev_imul (z := (t : Int) * 3) d_Cl_pattern_6 rfl (g_w_id (by unfold g_rg; omega)) ?_
  refine ev_iload_n (i := 2) d_Cl_pattern_7 rfl rfl rfl ?_
  refine ev_iadd (z := ((t : Int) * 3) + (i : Int)) d_Cl_pattern_8 rfl (g_w_id (by unfold g_rg; omega)) ?_
  refine ev_iaload (z := M 21 (3 * t + i)) d_Cl_pattern_9 rfl lx_21 (by omega) (by omega) (by congr 1; omega) ?_
  exact ev_retI d_Cl_pattern_10 (by first | rfl | omega | simp_all) rfl (Or.inl rfl)
theorem c_Cl_ofFunction (d : Nat) (M : g_M) (t i : Nat) (ht : t < 6) (hi : i < 6) : Con y_Cl_ofFunction w_Cl_ofFunction (g_rm (d)) LX M [g_r 19, g_i (t : Int), g_i (i : Int)] LX M (some (g_i (M 23 (6 * t + i)))) := by
  refine con_of (av := [g_r 19, g_i (t : Int), g_i (i : Int)]) (ls0 := [some (g_r 19), some (g_i (t : Int)), some (g_i (i : Int))]) (by decide) rfl (Nat.le_of_ble_eq_true rfl) (g_hls (av := [g_r 19, g_i (t : Int), g_i (i : Int)]) (k := 0)) (fun _ h9 => List.mem_cons_of_mem _ h9) ?_
  refine ev_aload_n (i := 0) d_Cl_ofFunction_0 rfl rfl rfl ?_
  refine ev_getR d_Cl_ofFunction_1 rfl lk_Cl_29 lx_19 rfl ?_
  refine ev_iload_n (i := 1) d_Cl_ofFunction_4 rfl rfl rfl ?_
  refine ev_bipush d_Cl_ofFunction_5 rfl (by decide +kernel) ⟨by decide, by decide⟩ ?_
  refine ev_imul (z := (t : Int) * 6) d_Cl_ofFunction_7 rfl (g_w_id (by unfold g_rg; omega)) ?_
  refine ev_iload_n (i := 2) d_Cl_ofFunction_8 rfl rfl rfl ?_
  refine ev_iadd (z := ((t : Int) * 6) + (i : Int)) d_Cl_ofFunction_9 rfl (g_w_id (by unfold g_rg; omega)) ?_
  refine ev_iaload (z := M 23 (6 * t + i)) d_Cl_ofFunction_10 rfl lx_23 (by omega) (by omega) (by congr 1; omega) ?_
  exact ev_retI d_Cl_ofFunction_11 (by first | rfl | omega | simp_all) rfl (Or.inl rfl)
theorem c_Ma_steps (d : Nat) (M : g_M)   : Con y_Ma_steps w_Ma_steps (g_rm (d)) LX M [g_r 34] LX M (some (g_i (M 34 11))) := by
  refine con_of (av := [g_r 34]) (ls0 := [some (g_r 34)]) (by decide) rfl (Nat.le_of_ble_eq_true rfl) (g_hls (av := [g_r 34]) (k := 0)) (fun _ h9 => List.mem_cons_of_mem _ h9) ?_
  refine ev_aload_n (i := 0) d_Ma_steps_0 rfl rfl rfl ?_
  refine ev_getI (z := M 34 11) d_Ma_steps_1 rfl lk_Ma_51 lx_34 rfl (rfl) ?_
  exact ev_retI d_Ma_steps_4 (by first | rfl | omega | simp_all) rfl (Or.inl rfl)
theorem c_Ma_answerSize (d : Nat) (M : g_M)   : Con y_Ma_answerSize w_Ma_answerSize (g_rm (d)) LX M [g_r 34] LX M (some (g_i (M 34 14))) := by
  refine con_of (av := [g_r 34]) (ls0 := [some (g_r 34)]) (by decide) rfl (Nat.le_of_ble_eq_true rfl) (g_hls (av := [g_r 34]) (k := 0)) (fun _ h9 => List.mem_cons_of_mem _ h9) ?_
  refine ev_aload_n (i := 0) d_Ma_answerSize_0 rfl rfl rfl ?_
  refine ev_getI (z := M 34 14) d_Ma_answerSize_1 rfl lk_Ma_55 lx_34 rfl (rfl) ?_
  exact ev_retI d_Ma_answerSize_4 (by first | rfl | omega | simp_all) rfl (Or.inl rfl)
theorem c_Ma_answerAt (d : Nat) (M : g_M) (t : Nat) (ht : t < 60) : Con y_Ma_answerAt w_Ma_answerAt (g_rm (d)) LX M [g_r 34, g_i (t : Int)] LX M (some (g_i (M 44 t))) := by
  refine con_of (av := [g_r 34, g_i (t : Int)]) (ls0 := [some (g_r 34), some (g_i (t : Int))]) (by decide) rfl (Nat.le_of_ble_eq_true rfl) (g_hls (av := [g_r 34, g_i (t : Int)]) (k := 0)) (fun _ h9 => List.mem_cons_of_mem _ h9) ?_
  refine ev_aload_n (i := 0) d_Ma_answerAt_0 rfl rfl rfl ?_
  refine ev_getR d_Ma_answerAt_1 rfl lk_Ma_48 lx_34 rfl ?_
  refine ev_iload_n (i := 1) d_Ma_answerAt_4 rfl rfl rfl ?_
  refine ev_iaload (z := M 44 ((t : Int)).toNat) d_Ma_answerAt_5 rfl lx_44 (by omega) (by omega) (rfl) ?_
  exact ev_retI d_Ma_answerAt_6 (by first | rfl | omega | simp_all) rfl (Or.inl rfl)
