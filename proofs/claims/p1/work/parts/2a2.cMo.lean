theorem c_Mo_thrown (d : Nat) (M : g_M)   : Con y_Mo_thrown w_Mo_thrown (g_rm (d)) LX M [g_r 45] LX M (some (g_i (M 45 44))) := by
  refine con_of (av := [g_r 45]) (ls0 := [some (g_r 45)]) (by decide) rfl (Nat.le_of_ble_eq_true rfl) (g_hls (av := [g_r 45]) (k := 0)) (fun _ h9 => List.mem_cons_of_mem _ h9) ?_
  refine ev_aload_n (i := 0) d_Mo_thrown_0 rfl rfl rfl ?_
  refine ev_getI (z := M 45 44) d_Mo_thrown_1 rfl lk_Mo_104 lx_45 rfl (rfl) ?_
  exact ev_retI d_Mo_thrown_4 (by first | rfl | omega | simp_all) rfl (Or.inl rfl)
theorem c_Mo_outside (d : Nat) (M : g_M) (v h : Int)  : Con y_Mo_outside w_Mo_outside (g_rm (d)) LX M [g_i v, g_i h] LX M (some (g_i (if v < 0 ∨ h < v then 1 else 0))) := by
  refine con_of (av := [g_i v, g_i h]) (ls0 := [some (g_i v), some (g_i h)]) (by decide) rfl (Nat.le_of_ble_eq_true rfl) (g_hls (av := [g_i v, g_i h]) (k := 0)) (fun _ h9 => List.mem_cons_of_mem _ h9) ?_
  refine ev_iload_n (i := 0) d_Mo_outside_0 rfl rfl rfl ?_
  refine ev_if_lt (tgt := 9) d_Mo_outside_1 (by decide) rfl (fun h1 => ?_) (fun h1 => ?_)
  · refine ev_iconst d_Mo_outside_9 rfl ⟨by decide, by decide⟩ ?_
    refine ev_goto (tgt := 14) d_Mo_outside_10 (by decide) ?_
    exact ev_retI d_Mo_outside_14 (by first | rfl | omega | simp_all) rfl (Or.inr ⟨rfl, by omega⟩)
  · refine ev_iload_n (i := 0) d_Mo_outside_4 rfl rfl rfl ?_
    refine ev_iload_n (i := 1) d_Mo_outside_5 rfl rfl rfl ?_
    refine ev_icmp_le (tgt := 13) d_Mo_outside_6 (by decide) rfl (fun h2 => ?_) (fun h2 => ?_)
    · refine ev_iconst d_Mo_outside_13 rfl ⟨by decide, by decide⟩ ?_
      exact ev_retI d_Mo_outside_14 (by first | rfl | omega | simp_all) rfl (Or.inr ⟨rfl, by omega⟩)
    · refine ev_iconst d_Mo_outside_9 rfl ⟨by decide, by decide⟩ ?_
      refine ev_goto (tgt := 14) d_Mo_outside_10 (by decide) ?_
      exact ev_retI d_Mo_outside_14 (by first | rfl | omega | simp_all) rfl (Or.inr ⟨rfl, by omega⟩)
theorem c_Mo_many (d : Nat) (M : g_M) (a b c : Int)  : Con y_Mo_many w_Mo_many (g_rm (d)) LX M [g_i a, g_i b, g_i c] LX M (some (g_i (if a < 0 then 0 else if b < 0 then 1 else if c < 0 then 2 else 3))) := by
  refine con_of (av := [g_i a, g_i b, g_i c]) (ls0 := [some (g_i a), some (g_i b), some (g_i c)]) (by decide) rfl (Nat.le_of_ble_eq_true rfl) (g_hls (av := [g_i a, g_i b, g_i c]) (k := 0)) (fun _ h9 => List.mem_cons_of_mem _ h9) ?_
  refine ev_iload_n (i := 0) d_Mo_many_0 rfl rfl rfl ?_
  refine ev_if_ge (tgt := 8) d_Mo_many_1 (by decide) rfl (fun h1 => ?_) (fun h1 => ?_)
  · refine ev_iload_n (i := 1) d_Mo_many_8 rfl rfl rfl ?_
    refine ev_if_ge (tgt := 16) d_Mo_many_9 (by decide) rfl (fun h2 => ?_) (fun h2 => ?_)
    · refine ev_iload_n (i := 2) d_Mo_many_16 rfl rfl rfl ?_
      refine ev_if_ge (tgt := 24) d_Mo_many_17 (by decide) rfl (fun h3 => ?_) (fun h3 => ?_)
      · refine ev_iconst d_Mo_many_24 rfl ⟨by decide, by decide⟩ ?_
        exact ev_retI d_Mo_many_25 (by first | rfl | omega | simp_all) rfl (Or.inl rfl)
      · refine ev_iconst d_Mo_many_20 rfl ⟨by decide, by decide⟩ ?_
        refine ev_goto (tgt := 25) d_Mo_many_21 (by decide) ?_
        exact ev_retI d_Mo_many_25 (by first | rfl | omega | simp_all) rfl (Or.inl rfl)
    · refine ev_iconst d_Mo_many_12 rfl ⟨by decide, by decide⟩ ?_
      refine ev_goto (tgt := 25) d_Mo_many_13 (by decide) ?_
      exact ev_retI d_Mo_many_25 (by first | rfl | omega | simp_all) rfl (Or.inl rfl)
  · refine ev_iconst d_Mo_many_4 rfl ⟨by decide, by decide⟩ ?_
    refine ev_goto (tgt := 25) d_Mo_many_5 (by decide) ?_
    exact ev_retI d_Mo_many_25 (by first | rfl | omega | simp_all) rfl (Or.inl rfl)
theorem c_Mo_isTerm (d : Nat) (M : g_M) (t : Int)  : Con y_Mo_isTerm w_Mo_isTerm (g_rm (d)) LX M [g_r 45, g_i t] LX M (some (g_i (if 0 ≤ t ∧ t < M 45 8 then 1 else 0))) := by
  refine con_of (av := [g_r 45, g_i t]) (ls0 := [some (g_r 45), some (g_i t)]) (by decide) rfl (Nat.le_of_ble_eq_true rfl) (g_hls (av := [g_r 45, g_i t]) (k := 0)) (fun _ h9 => List.mem_cons_of_mem _ h9) ?_
  refine ev_iload_n (i := 1) d_Mo_isTerm_0 rfl rfl rfl ?_
  refine ev_if_lt (tgt := 16) d_Mo_isTerm_1 (by decide) rfl (fun h1 => ?_) (fun h1 => ?_)
  · refine ev_iconst d_Mo_isTerm_16 rfl ⟨by decide, by decide⟩ ?_
    exact ev_retI d_Mo_isTerm_17 (by first | rfl | omega | simp_all) rfl (Or.inr ⟨rfl, by omega⟩)
  · refine ev_iload_n (i := 1) d_Mo_isTerm_4 rfl rfl rfl ?_
    refine ev_aload_n (i := 0) d_Mo_isTerm_5 rfl rfl rfl ?_
    refine ev_getI (z := M 45 8) d_Mo_isTerm_6 rfl lk_Mo_130 lx_45 rfl (rfl) ?_
    refine ev_icmp_ge (tgt := 16) d_Mo_isTerm_9 (by decide) rfl (fun h2 => ?_) (fun h2 => ?_)
    · refine ev_iconst d_Mo_isTerm_16 rfl ⟨by decide, by decide⟩ ?_
      exact ev_retI d_Mo_isTerm_17 (by first | rfl | omega | simp_all) rfl (Or.inr ⟨rfl, by omega⟩)
    · refine ev_iconst d_Mo_isTerm_12 rfl ⟨by decide, by decide⟩ ?_
      refine ev_goto (tgt := 17) d_Mo_isTerm_13 (by decide) ?_
      exact ev_retI d_Mo_isTerm_17 (by first | rfl | omega | simp_all) rfl (Or.inr ⟨rfl, by omega⟩)
