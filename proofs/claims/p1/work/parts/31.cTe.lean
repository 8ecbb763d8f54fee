theorem c_Te_howMany (d : Nat) (M : g_M)   : Con y_Te_howMany w_Te_howMany (g_rm (d)) LX M [g_r 9] LX M (some (g_i (M 9 9))) := by
  refine con_of (av := [g_r 9]) (ls0 := [some (g_r 9)]) (by decide) rfl (Nat.le_of_ble_eq_true rfl) (g_hls (av := [g_r 9]) (k := 0)) (fun _ h9 => List.mem_cons_of_mem _ h9) ?_
  refine ev_aload_n (i := 0) d_Te_howMany_0 rfl rfl rfl ?_
  refine ev_getI (z := M 9 9) d_Te_howMany_1 rfl lk_Te_40 lx_9 rfl (rfl) ?_
  exact ev_retI d_Te_howMany_4 (by first | rfl | omega | simp_all) rfl (Or.inl rfl)
theorem c_Te_isFull (d : Nat) (M : g_M)   : Con y_Te_isFull w_Te_isFull (g_rm (d)) LX M [g_r 9] LX M (some (g_i (if 100 ≤ M 9 9 then 1 else 0))) := by
  refine con_of (av := [g_r 9]) (ls0 := [some (g_r 9)]) (by decide) rfl (Nat.le_of_ble_eq_true rfl) (g_hls (av := [g_r 9]) (k := 0)) (fun _ h9 => List.mem_cons_of_mem _ h9) ?_
  refine ev_aload_n (i := 0) d_Te_isFull_0 rfl rfl rfl ?_
  refine ev_getI (z := M 9 9) d_Te_isFull_1 rfl lk_Te_40 lx_9 rfl (rfl) ?_
  refine ev_bipush d_Te_isFull_4 rfl (by decide +kernel) ⟨by decide, by decide⟩ ?_
  refine ev_icmp_lt (tgt := 13) d_Te_isFull_6 (by decide) rfl (fun h1 => ?_) (fun h1 => ?_)
  · refine ev_iconst d_Te_isFull_13 rfl ⟨by decide, by decide⟩ ?_
    exact ev_retI d_Te_isFull_14 (by first | rfl | omega | simp_all) rfl (Or.inr ⟨rfl, by omega⟩)
  · refine ev_iconst d_Te_isFull_9 rfl ⟨by decide, by decide⟩ ?_
    refine ev_goto (tgt := 14) d_Te_isFull_10 (by decide) ?_
    exact ev_retI d_Te_isFull_14 (by first | rfl | omega | simp_all) rfl (Or.inr ⟨rfl, by omega⟩)
theorem c_Te_has (d : Nat) (M : g_M) (t : Int)  : Con y_Te_has w_Te_has (g_rm (d)) LX M [g_r 9, g_i t] LX M (some (g_i (if 0 ≤ t ∧ t < M 9 9 then 1 else 0))) := by
  refine con_of (av := [g_r 9, g_i t]) (ls0 := [some (g_r 9), some (g_i t)]) (by decide) rfl (Nat.le_of_ble_eq_true rfl) (g_hls (av := [g_r 9, g_i t]) (k := 0)) (fun _ h9 => List.mem_cons_of_mem _ h9) ?_
  refine ev_iload_n (i := 1) d_Te_has_0 rfl rfl rfl ?_
  refine ev_if_lt (tgt := 16) d_Te_has_1 (by decide) rfl (fun h1 => ?_) (fun h1 => ?_)
  · refine ev_iconst d_Te_has_16 rfl ⟨by decide, by decide⟩ ?_
    exact ev_retI d_Te_has_17 (by first | rfl | omega | simp_all) rfl (Or.inr ⟨rfl, by omega⟩)
  · refine ev_iload_n (i := 1) d_Te_has_4 rfl rfl rfl ?_
    refine ev_aload_n (i := 0) d_Te_has_5 rfl rfl rfl ?_
    refine ev_getI (z := M 9 9) d_Te_has_6 rfl lk_Te_40 lx_9 rfl (rfl) ?_
    refine ev_icmp_ge (tgt := 16) d_Te_has_9 (by decide) rfl (fun h2 => ?_) (fun h2 => ?_)
    · refine ev_iconst d_Te_has_16 rfl ⟨by decide, by decide⟩ ?_
      exact ev_retI d_Te_has_17 (by first | rfl | omega | simp_all) rfl (Or.inr ⟨rfl, by omega⟩)
    · refine ev_iconst d_Te_has_12 rfl ⟨by decide, by decide⟩ ?_
      refine ev_goto (tgt := 17) d_Te_has_13 (by decide) ?_
      exact ev_retI d_Te_has_17 (by first | rfl | omega | simp_all) rfl (Or.inr ⟨rfl, by omega⟩)
theorem c_Te_isVariable (d : Nat) (M : g_M) (t : Nat) (ht : t < 100) : Con y_Te_isVariable w_Te_isVariable (g_rm (d)) LX M [g_r 9, g_i (t : Int)] LX M (some (g_i (if M 10 t = 0 then 1 else 0))) := by
  refine con_of (av := [g_r 9, g_i (t : Int)]) (ls0 := [some (g_r 9), some (g_i (t : Int))]) (by decide) rfl (Nat.le_of_ble_eq_true rfl) (g_hls (av := [g_r 9, g_i (t : Int)]) (k := 0)) (fun _ h9 => List.mem_cons_of_mem _ h9) ?_
  refine ev_aload_n (i := 0) d_Te_isVariable_0 rfl rfl rfl ?_
  refine ev_getR d_Te_isVariable_1 rfl lk_Te_9 lx_9 rfl ?_
  refine ev_iload_n (i := 1) d_Te_isVariable_4 rfl rfl rfl ?_
  refine ev_iaload (z := M 10 t) d_Te_isVariable_5 rfl lx_10 (by omega) (by omega) (rfl) ?_
  refine ev_if_ne (tgt := 13) d_Te_isVariable_6 (by decide) rfl (fun h1 => ?_) (fun h1 => ?_)
  · refine ev_iconst d_Te_isVariable_13 rfl ⟨by decide, by decide⟩ ?_
    exact ev_retI d_Te_isVariable_14 (by first | rfl | omega | simp_all) rfl (Or.inr ⟨rfl, by omega⟩)
  · refine ev_iconst d_Te_isVariable_9 rfl ⟨by decide, by decide⟩ ?_
    refine ev_goto (tgt := 14) d_Te_isVariable_10 (by decide) ?_
    exact ev_retI d_Te_isVariable_14 (by first | rfl | omega | simp_all) rfl (Or.inr ⟨rfl, by omega⟩)
theorem c_Te_isMade (d : Nat) (M : g_M) (t : Nat) (ht : t < 100) : Con y_Te_isMade w_Te_isMade (g_rm (d)) LX M [g_r 9, g_i (t : Int)] LX M (some (g_i (if M 10 t = 1 then 1 else 0))) := by
  refine con_of (av := [g_r 9, g_i (t : Int)]) (ls0 := [some (g_r 9), some (g_i (t : Int))]) (by decide) rfl (Nat.le_of_ble_eq_true rfl) (g_hls (av := [g_r 9, g_i (t : Int)]) (k := 0)) (fun _ h9 => List.mem_cons_of_mem _ h9) ?_
  refine ev_aload_n (i := 0) d_Te_isMade_0 rfl rfl rfl ?_
  refine ev_getR d_Te_isMade_1 rfl lk_Te_9 lx_9 rfl ?_
  refine ev_iload_n (i := 1) d_Te_isMade_4 rfl rfl rfl ?_
  refine ev_iaload (z := M 10 t) d_Te_isMade_5 rfl lx_10 (by omega) (by omega) (rfl) ?_
  refine ev_iconst d_Te_isMade_6 rfl ⟨by decide, by decide⟩ ?_
  refine ev_icmp_ne (tgt := 14) d_Te_isMade_7 (by decide) rfl (fun h1 => ?_) (fun h1 => ?_)
  · refine ev_iconst d_Te_isMade_14 rfl ⟨by decide, by decide⟩ ?_
    exact ev_retI d_Te_isMade_15 (by first | rfl | omega | simp_all) rfl (Or.inr ⟨rfl, by omega⟩)
  · refine ev_iconst d_Te_isMade_10 rfl ⟨by decide, by decide⟩ ?_
    refine ev_goto (tgt := 15) d_Te_isMade_11 (by decide) ?_
    exact ev_retI d_Te_isMade_15 (by first | rfl | omega | simp_all) rfl (Or.inr ⟨rfl, by omega⟩)
theorem c_Te_isCalled (d : Nat) (M : g_M) (t : Nat) (ht : t < 100) : Con y_Te_isCalled w_Te_isCalled (g_rm (d)) LX M [g_r 9, g_i (t : Int)] LX M (some (g_i (if M 10 t = 2 then 1 else 0))) := by
  refine con_of (av := [g_r 9, g_i (t : Int)]) (ls0 := [some (g_r 9), some (g_i (t : Int))]) (by decide) rfl (Nat.le_of_ble_eq_true rfl) (g_hls (av := [g_r 9, g_i (t : Int)]) (k := 0)) (fun _ h9 => List.mem_cons_of_mem _ h9) ?_
  refine ev_aload_n (i := 0) d_Te_isCalled_0 rfl rfl rfl ?_
  refine ev_getR d_Te_isCalled_1 rfl lk_Te_9 lx_9 rfl ?_
  refine ev_iload_n (i := 1) d_Te_isCalled_4 rfl rfl rfl ?_
  refine ev_iaload (z := M 10 t) d_Te_isCalled_5 rfl lx_10 (by omega) (by omega) (rfl) ?_
  refine ev_iconst d_Te_isCalled_6 rfl ⟨by decide, by decide⟩ ?_
  refine ev_icmp_ne (tgt := 14) d_Te_isCalled_7 (by decide) rfl (fun h1 => ?_) (fun h1 => ?_)
  · refine ev_iconst d_Te_isCalled_14 rfl ⟨by decide, by decide⟩ ?_
    exact ev_retI d_Te_isCalled_15 (by first | rfl | omega | simp_all) rfl (Or.inr ⟨rfl, by omega⟩)
  · refine ev_iconst d_Te_isCalled_10 rfl ⟨by decide, by decide⟩ ?_
    refine ev_goto (tgt := 15) d_Te_isCalled_11 (by decide) ?_
    exact ev_retI d_Te_isCalled_15 (by first | rfl | omega | simp_all) rfl (Or.inr ⟨rfl, by omega⟩)
theorem c_Te_head (d : Nat) (M : g_M) (t : Nat) (ht : t < 100) : Con y_Te_head w_Te_head (g_rm (d)) LX M [g_r 9, g_i (t : Int)] LX M (some (g_i (M 11 t))) := by
  refine con_of (av := [g_r 9, g_i (t : Int)]) (ls0 := [some (g_r 9), some (g_i (t : Int))]) (by decide) rfl (Nat.le_of_ble_eq_true rfl) (g_hls (av := [g_r 9, g_i (t : Int)]) (k := 0)) (fun _ h9 => List.mem_cons_of_mem _ h9) ?_
  refine ev_aload_n (i := 0) d_Te_head_0 rfl rfl rfl ?_
  refine ev_getR d_Te_head_1 rfl lk_Te_15 lx_9 rfl ?_
  refine ev_iload_n (i := 1) d_Te_head_4 rfl rfl rfl ?_
  refine ev_iaload (z := M 11 ((t : Int)).toNat) d_Te_head_5 rfl lx_11 (by omega) (by omega) (rfl) ?_
  exact ev_retI d_Te_head_6 (by first | rfl | omega | simp_all) rfl (Or.inl rfl)
theorem c_Te_width (d : Nat) (M : g_M) (t : Nat) (ht : t < 100) : Con y_Te_width w_Te_width (g_rm (d)) LX M [g_r 9, g_i (t : Int)] LX M (some (g_i (M 12 t))) := by
  refine con_of (av := [g_r 9, g_i (t : Int)]) (ls0 := [some (g_r 9), some (g_i (t : Int))]) (by decide) rfl (Nat.le_of_ble_eq_true rfl) (g_hls (av := [g_r 9, g_i (t : Int)]) (k := 0)) (fun _ h9 => List.mem_cons_of_mem _ h9) ?_
  refine ev_aload_n (i := 0) d_Te_width_0 rfl rfl rfl ?_
  refine ev_getR d_Te_width_1 rfl lk_Te_18 lx_9 rfl ?_
  refine ev_iload_n (i := 1) d_Te_width_4 rfl rfl rfl ?_
  refine ev_iaload (z := M 12 ((t : Int)).toNat) d_Te_width_5 rfl lx_12 (by omega) (by omega) (rfl) ?_
  exact ev_retI d_Te_width_6 (by first | rfl | omega | simp_all) rfl (Or.inl rfl)
theorem c_Te_size (d : Nat) (M : g_M) (t : Nat) (ht : t < 100) : Con y_Te_size w_Te_size (g_rm (d)) LX M [g_r 9, g_i (t : Int)] LX M (some (g_i (M 15 t))) := by
  refine con_of (av := [g_r 9, g_i (t : Int)]) (ls0 := [some (g_r 9), some (g_i (t : Int))]) (by decide) rfl (Nat.le_of_ble_eq_true rfl) (g_hls (av := [g_r 9, g_i (t : Int)]) (k := 0)) (fun _ h9 => List.mem_cons_of_mem _ h9) ?_
  refine ev_aload_n (i := 0) d_Te_size_0 rfl rfl rfl ?_
  refine ev_getR d_Te_size_1 rfl lk_Te_27 lx_9 rfl ?_
  refine ev_iload_n (i := 1) d_Te_size_4 rfl rfl rfl ?_
  refine ev_iaload (z := M 15 ((t : Int)).toNat) d_Te_size_5 rfl lx_15 (by omega) (by omega) (rfl) ?_
  exact ev_retI d_Te_size_6 (by first | rfl | omega | simp_all) rfl (Or.inl rfl)
theorem c_Te_variables (d : Nat) (M : g_M) (t : Nat) (ht : t < 100) : Con y_Te_variables w_Te_variables (g_rm (d)) LX M [g_r 9, g_i (t : Int)] LX M (some (g_i (M 16 t))) := by
  refine con_of (av := [g_r 9, g_i (t : Int)]) (ls0 := [some (g_r 9), some (g_i (t : Int))]) (by decide) rfl (Nat.le_of_ble_eq_true rfl) (g_hls (av := [g_r 9, g_i (t : Int)]) (k := 0)) (fun _ h9 => List.mem_cons_of_mem _ h9) ?_
  refine ev_aload_n (i := 0) d_Te_variables_0 rfl rfl rfl ?_
  refine ev_getR d_Te_variables_1 rfl lk_Te_30 lx_9 rfl ?_
  refine ev_iload_n (i := 1) d_Te_variables_4 rfl rfl rfl ?_
  refine ev_iaload (z := M 16 ((t : Int)).toNat) d_Te_variables_5 rfl lx_16 (by omega) (by omega) (rfl) ?_
  exact ev_retI d_Te_variables_6 (by first | rfl | omega | simp_all) rfl (Or.inl rfl)
theorem c_Te_part (d : Nat) (M : g_M) (t i : Nat) (ht : t < 100) (hi : i < 3) : Con y_Te_part w_Te_part (g_rm (d)) LX M [g_r 9, g_i (t : Int), g_i (i : Int)] LX M (some (g_i (M 13 (3 * t + i)))) := by
  refine con_of (av := [g_r 9, g_i (t : Int), g_i (i : Int)]) (ls0 := [some (g_r 9), some (g_i (t : Int)), some (g_i (i : Int))]) (by decide) rfl (Nat.le_of_ble_eq_true rfl) (g_hls (av := [g_r 9, g_i (t : Int), g_i (i : Int)]) (k := 0)) (fun _ h9 => List.mem_cons_of_mem _ h9) ?_
  refine ev_aload_n (i := 0) d_Te_part_0 rfl rfl rfl ?_
  refine ev_getR d_Te_part_1 rfl lk_Te_21 lx_9 rfl ?_
  refine ev_iload_n (i := 1) d_Te_part_4 rfl rfl rfl ?_
  refine ev_iconst d_Te_part_5 rfl ⟨by decide, by decide⟩ ?_
  refine ev_imul (z := (t : Int) * 3) d_Te_part_6 rfl (g_w_id (by unfold g_rg; omega)) ?_
  refine ev_iload_n (i := 2) d_Te_part_7 rfl rfl rfl ?_
  refine ev_iadd (z := ((t : Int) * 3) + (i : Int)) d_Te_part_8 rfl (g_w_id (by unfold g_rg; omega)) ?_
  refine ev_iaload (z := M 13 (3 * t + i)) d_Te_part_9 rfl lx_13 (by omega) (by omega) (by congr 1; omega) ?_
  exact ev_retI d_Te_part_10 (by first | rfl | omega | simp_all) rfl (Or.inl rfl)
