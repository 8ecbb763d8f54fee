theorem c_Fu_isType (d : Nat) (M : g_M) (t : Int)  : Con y_Fu_isType w_Fu_isType (g_rm (d)) LX M [g_i t] LX M (some (g_i (if 0 ≤ t ∧ t < 3 then 1 else 0))) := by
  refine con_of (av := [g_i t]) (ls0 := [some (g_i t)]) (by decide) rfl (Nat.le_of_ble_eq_true rfl) (g_hls (av := [g_i t]) (k := 0)) (fun _ h9 => List.mem_cons_of_mem _ h9) ?_
  refine ev_iload_n (i := 0) d_Fu_isType_0 rfl rfl rfl ?_
  refine ev_if_lt (tgt := 13) d_Fu_isType_1 (by decide) rfl (fun h1 => ?_) (fun h1 => ?_)
  · refine ev_iconst d_Fu_isType_13 rfl ⟨by decide, by decide⟩ ?_
    exact ev_retI d_Fu_isType_14 (by first | rfl | omega | simp_all) rfl (Or.inr ⟨rfl, by omega⟩)
  · refine ev_iload_n (i := 0) d_Fu_isType_4 rfl rfl rfl ?_
    refine ev_iconst d_Fu_isType_5 rfl ⟨by decide, by decide⟩ ?_
    refine ev_icmp_ge (tgt := 13) d_Fu_isType_6 (by decide) rfl (fun h2 => ?_) (fun h2 => ?_)
    · refine ev_iconst d_Fu_isType_13 rfl ⟨by decide, by decide⟩ ?_
      exact ev_retI d_Fu_isType_14 (by first | rfl | omega | simp_all) rfl (Or.inr ⟨rfl, by omega⟩)
    · refine ev_iconst d_Fu_isType_9 rfl ⟨by decide, by decide⟩ ?_
      refine ev_goto (tgt := 14) d_Fu_isType_10 (by decide) ?_
      exact ev_retI d_Fu_isType_14 (by first | rfl | omega | simp_all) rfl (Or.inr ⟨rfl, by omega⟩)
theorem c_Fu_leadingPlaces (d : Nat) (M : g_M) (a b c : Int)  : Con y_Fu_leadingPlaces w_Fu_leadingPlaces (g_rm (d)) LX M [g_i a, g_i b, g_i c] LX M (some (g_i (if a = -1 then 0 else if b = -1 then 1 else if c = -1 then 2 else 3))) := by
  refine con_of (av := [g_i a, g_i b, g_i c]) (ls0 := [some (g_i a), some (g_i b), some (g_i c)]) (by decide) rfl (Nat.le_of_ble_eq_true rfl) (g_hls (av := [g_i a, g_i b, g_i c]) (k := 0)) (fun _ h9 => List.mem_cons_of_mem _ h9) ?_
  refine ev_iload_n (i := 0) d_Fu_leadingPlaces_0 rfl rfl rfl ?_
  refine ev_iconst d_Fu_leadingPlaces_1 rfl ⟨by decide, by decide⟩ ?_
  refine ev_icmp_ne (tgt := 7) d_Fu_leadingPlaces_2 (by decide) rfl (fun h1 => ?_) (fun h1 => ?_)
  · refine ev_iload_n (i := 1) d_Fu_leadingPlaces_7 rfl rfl rfl ?_
    refine ev_iconst d_Fu_leadingPlaces_8 rfl ⟨by decide, by decide⟩ ?_
    refine ev_icmp_ne (tgt := 14) d_Fu_leadingPlaces_9 (by decide) rfl (fun h2 => ?_) (fun h2 => ?_)
    · refine ev_iload_n (i := 2) d_Fu_leadingPlaces_14 rfl rfl rfl ?_
      refine ev_iconst d_Fu_leadingPlaces_15 rfl ⟨by decide, by decide⟩ ?_
      refine ev_icmp_ne (tgt := 23) d_Fu_leadingPlaces_16 (by decide) rfl (fun h3 => ?_) (fun h3 => ?_)
      · refine ev_iconst d_Fu_leadingPlaces_23 rfl ⟨by decide, by decide⟩ ?_
        exact ev_retI d_Fu_leadingPlaces_24 (by first | rfl | omega | simp_all) rfl (Or.inl rfl)
      · refine ev_iconst d_Fu_leadingPlaces_19 rfl ⟨by decide, by decide⟩ ?_
        refine ev_goto (tgt := 24) d_Fu_leadingPlaces_20 (by decide) ?_
        exact ev_retI d_Fu_leadingPlaces_24 (by first | rfl | omega | simp_all) rfl (Or.inl rfl)
    · refine ev_iconst d_Fu_leadingPlaces_12 rfl ⟨by decide, by decide⟩ ?_
      exact ev_retI d_Fu_leadingPlaces_13 (by first | rfl | omega | simp_all) rfl (Or.inl rfl)
  · refine ev_iconst d_Fu_leadingPlaces_5 rfl ⟨by decide, by decide⟩ ?_
    exact ev_retI d_Fu_leadingPlaces_6 (by first | rfl | omega | simp_all) rfl (Or.inl rfl)
theorem c_Fu_pick (d : Nat) (M : g_M) (i x y z : Int)  : Con y_Fu_pick w_Fu_pick (g_rm (d)) LX M [g_i i, g_i x, g_i y, g_i z] LX M (some (g_i (if i = 0 then x else if i = 1 then y else z))) := by
  refine con_of (av := [g_i i, g_i x, g_i y, g_i z]) (ls0 := [some (g_i i), some (g_i x), some (g_i y), some (g_i z)]) (by decide) rfl (Nat.le_of_ble_eq_true rfl) (g_hls (av := [g_i i, g_i x, g_i y, g_i z]) (k := 0)) (fun _ h9 => List.mem_cons_of_mem _ h9) ?_
  refine ev_iload_n (i := 0) d_Fu_pick_0 rfl rfl rfl ?_
  refine ev_if_ne (tgt := 8) d_Fu_pick_1 (by decide) rfl (fun h1 => ?_) (fun h1 => ?_)
  · refine ev_iload_n (i := 0) d_Fu_pick_8 rfl rfl rfl ?_
    refine ev_iconst d_Fu_pick_9 rfl ⟨by decide, by decide⟩ ?_
    refine ev_icmp_ne (tgt := 17) d_Fu_pick_10 (by decide) rfl (fun h2 => ?_) (fun h2 => ?_)
    · refine ev_iload_n (i := 3) d_Fu_pick_17 rfl rfl rfl ?_
      exact ev_retI d_Fu_pick_18 (by first | rfl | omega | simp_all) rfl (Or.inl rfl)
    · refine ev_iload_n (i := 2) d_Fu_pick_13 rfl rfl rfl ?_
      refine ev_goto (tgt := 18) d_Fu_pick_14 (by decide) ?_
      exact ev_retI d_Fu_pick_18 (by first | rfl | omega | simp_all) rfl (Or.inl rfl)
  · refine ev_iload_n (i := 1) d_Fu_pick_4 rfl rfl rfl ?_
    refine ev_goto (tgt := 18) d_Fu_pick_5 (by decide) ?_
    exact ev_retI d_Fu_pick_18 (by first | rfl | omega | simp_all) rfl (Or.inl rfl)
theorem c_Sg_howMany_c (d : Nat) (M : g_M)   : Con y_Sg_howMany w_Sg_howMany (g_rm (d)) LX M [g_r 1] LX M (some (g_i (M 1 4))) := by
  refine con_of (av := [g_r 1]) (ls0 := [some (g_r 1)]) (by decide) rfl (Nat.le_of_ble_eq_true rfl) (g_hls (av := [g_r 1]) (k := 0)) (fun _ h9 => List.mem_cons_of_mem _ h9) ?_
  refine ev_aload_n (i := 0) d_Sg_howMany_0 rfl rfl rfl ?_
  refine ev_getI (z := M 1 4) d_Sg_howMany_1 rfl lk_Sg_25 lx_1 rfl (rfl) ?_
  exact ev_retI d_Sg_howMany_4 (by first | rfl | omega | simp_all) rfl (Or.inl rfl)
theorem c_Sg_isFull_c (d : Nat) (M : g_M)   : Con y_Sg_isFull w_Sg_isFull (g_rm (d)) LX M [g_r 1] LX M (some (g_i (if M 1 0 ≤ M 1 4 then 1 else 0))) := by
  refine con_of (av := [g_r 1]) (ls0 := [some (g_r 1)]) (by decide) rfl (Nat.le_of_ble_eq_true rfl) (g_hls (av := [g_r 1]) (k := 0)) (fun _ h9 => List.mem_cons_of_mem _ h9) ?_
  refine ev_aload_n (i := 0) d_Sg_isFull_0 rfl rfl rfl ?_
  refine ev_getI (z := M 1 4) d_Sg_isFull_1 rfl lk_Sg_25 lx_1 rfl (rfl) ?_
  refine ev_aload_n (i := 0) d_Sg_isFull_4 rfl rfl rfl ?_
  refine ev_getI (z := M 1 0) d_Sg_isFull_5 rfl lk_Sg_9 lx_1 rfl (rfl) ?_
  refine ev_icmp_lt (tgt := 15) d_Sg_isFull_8 (by decide) rfl (fun h1 => ?_) (fun h1 => ?_)
  · refine ev_iconst d_Sg_isFull_15 rfl ⟨by decide, by decide⟩ ?_
    exact ev_retI d_Sg_isFull_16 (by first | rfl | omega | simp_all) rfl (Or.inr ⟨rfl, by omega⟩)
  · refine ev_iconst d_Sg_isFull_11 rfl ⟨by decide, by decide⟩ ?_
    refine ev_goto (tgt := 16) d_Sg_isFull_12 (by decide) ?_
    exact ev_retI d_Sg_isFull_16 (by first | rfl | omega | simp_all) rfl (Or.inr ⟨rfl, by omega⟩)
theorem c_Sg_has_c (d : Nat) (M : g_M) (h : Int)  : Con y_Sg_has w_Sg_has (g_rm (d)) LX M [g_r 1, g_i h] LX M (some (g_i (if 0 ≤ h ∧ h < M 1 4 then 1 else 0))) := by
  refine con_of (av := [g_r 1, g_i h]) (ls0 := [some (g_r 1), some (g_i h)]) (by decide) rfl (Nat.le_of_ble_eq_true rfl) (g_hls (av := [g_r 1, g_i h]) (k := 0)) (fun _ h9 => List.mem_cons_of_mem _ h9) ?_
  refine ev_iload_n (i := 1) d_Sg_has_0 rfl rfl rfl ?_
  refine ev_if_lt (tgt := 16) d_Sg_has_1 (by decide) rfl (fun h1 => ?_) (fun h1 => ?_)
  · refine ev_iconst d_Sg_has_16 rfl ⟨by decide, by decide⟩ ?_
    exact ev_retI d_Sg_has_17 (by first | rfl | omega | simp_all) rfl (Or.inr ⟨rfl, by omega⟩)
  · refine ev_iload_n (i := 1) d_Sg_has_4 rfl rfl rfl ?_
    refine ev_aload_n (i := 0) d_Sg_has_5 rfl rfl rfl ?_
    refine ev_getI (z := M 1 4) d_Sg_has_6 rfl lk_Sg_25 lx_1 rfl (rfl) ?_
    refine ev_icmp_ge (tgt := 16) d_Sg_has_9 (by decide) rfl (fun h2 => ?_) (fun h2 => ?_)
    · refine ev_iconst d_Sg_has_16 rfl ⟨by decide, by decide⟩ ?_
      exact ev_retI d_Sg_has_17 (by first | rfl | omega | simp_all) rfl (Or.inr ⟨rfl, by omega⟩)
    · refine ev_iconst d_Sg_has_12 rfl ⟨by decide, by decide⟩ ?_
      refine ev_goto (tgt := 17) d_Sg_has_13 (by decide) ?_
      exact ev_retI d_Sg_has_17 (by first | rfl | omega | simp_all) rfl (Or.inr ⟨rfl, by omega⟩)
theorem c_Sg_type_c (d : Nat) (M : g_M) (h : Nat) (hh : h < 8) : Con y_Sg_type w_Sg_type (g_rm (d)) LX M [g_r 1, g_i (h : Int)] LX M (some (g_i (M 2 h))) := by
  refine con_of (av := [g_r 1, g_i (h : Int)]) (ls0 := [some (g_r 1), some (g_i (h : Int))]) (by decide) rfl (Nat.le_of_ble_eq_true rfl) (g_hls (av := [g_r 1, g_i (h : Int)]) (k := 0)) (fun _ h9 => List.mem_cons_of_mem _ h9) ?_
  refine ev_aload_n (i := 0) d_Sg_type_0 rfl rfl rfl ?_
  refine ev_getR d_Sg_type_1 rfl lk_Sg_15 lx_1 rfl ?_
  refine ev_iload_n (i := 1) d_Sg_type_4 rfl rfl rfl ?_
  refine ev_iaload (z := M 2 ((h : Int)).toNat) d_Sg_type_5 rfl lx_2 (by omega) (by omega) (rfl) ?_
  exact ev_retI d_Sg_type_6 (by first | rfl | omega | simp_all) rfl (Or.inl rfl)
theorem c_Sg_width_c (d : Nat) (M : g_M) (h : Nat) (hh : h < 8) : Con y_Sg_width w_Sg_width (g_rm (d)) LX M [g_r 1, g_i (h : Int)] LX M (some (g_i (M 3 h))) := by
  refine con_of (av := [g_r 1, g_i (h : Int)]) (ls0 := [some (g_r 1), some (g_i (h : Int))]) (by decide) rfl (Nat.le_of_ble_eq_true rfl) (g_hls (av := [g_r 1, g_i (h : Int)]) (k := 0)) (fun _ h9 => List.mem_cons_of_mem _ h9) ?_
  refine ev_aload_n (i := 0) d_Sg_width_0 rfl rfl rfl ?_
  refine ev_getR d_Sg_width_1 rfl lk_Sg_19 lx_1 rfl ?_
  refine ev_iload_n (i := 1) d_Sg_width_4 rfl rfl rfl ?_
  refine ev_iaload (z := M 3 ((h : Int)).toNat) d_Sg_width_5 rfl lx_3 (by omega) (by omega) (rfl) ?_
  exact ev_retI d_Sg_width_6 (by first | rfl | omega | simp_all) rfl (Or.inl rfl)
theorem c_Sg_placeType_c (d : Nat) (M : g_M) (h i : Nat) (hh : h < 8) (hi : i < 3) : Con y_Sg_placeType w_Sg_placeType (g_rm (d)) LX M [g_r 1, g_i (h : Int), g_i (i : Int)] LX M (some (g_i (M 4 (3 * h + i)))) := by
  refine con_of (av := [g_r 1, g_i (h : Int), g_i (i : Int)]) (ls0 := [some (g_r 1), some (g_i (h : Int)), some (g_i (i : Int))]) (by decide) rfl (Nat.le_of_ble_eq_true rfl) (g_hls (av := [g_r 1, g_i (h : Int), g_i (i : Int)]) (k := 0)) (fun _ h9 => List.mem_cons_of_mem _ h9) ?_
  refine ev_aload_n (i := 0) d_Sg_placeType_0 rfl rfl rfl ?_
  refine ev_getR d_Sg_placeType_1 rfl lk_Sg_22 lx_1 rfl ?_
  refine ev_iload_n (i := 1) d_Sg_placeType_4 rfl rfl rfl ?_
  refine ev_iconst d_Sg_placeType_5 rfl ⟨by decide, by decide⟩ ?_
  refine ev_imul (z := (h : Int) * 3) d_Sg_placeType_6 rfl (g_w_id (by unfold g_rg; omega)) ?_
  refine ev_iload_n (i := 2) d_Sg_placeType_7 rfl rfl rfl ?_
  refine ev_iadd (z := ((h : Int) * 3) + (i : Int)) d_Sg_placeType_8 rfl (g_w_id (by unfold g_rg; omega)) ?_
  refine ev_iaload (z := M 4 (3 * h + i)) d_Sg_placeType_9 rfl lx_4 (by omega) (by omega) (by congr 1; omega) ?_
  exact ev_retI d_Sg_placeType_10 (by first | rfl | omega | simp_all) rfl (Or.inl rfl)
theorem c_Sg_howMany_f (d : Nat) (M : g_M)   : Con y_Sg_howMany w_Sg_howMany (g_rm (d)) LX M [g_r 5] LX M (some (g_i (M 5 4))) := by
  refine con_of (av := [g_r 5]) (ls0 := [some (g_r 5)]) (by decide) rfl (Nat.le_of_ble_eq_true rfl) (g_hls (av := [g_r 5]) (k := 0)) (fun _ h9 => List.mem_cons_of_mem _ h9) ?_
  refine ev_aload_n (i := 0) d_Sg_howMany_0 rfl rfl rfl ?_
  refine ev_getI (z := M 5 4) d_Sg_howMany_1 rfl lk_Sg_25 lx_5 rfl (rfl) ?_
  exact ev_retI d_Sg_howMany_4 (by first | rfl | omega | simp_all) rfl (Or.inl rfl)
theorem c_Sg_isFull_f (d : Nat) (M : g_M)   : Con y_Sg_isFull w_Sg_isFull (g_rm (d)) LX M [g_r 5] LX M (some (g_i (if M 5 0 ≤ M 5 4 then 1 else 0))) := by
  refine con_of (av := [g_r 5]) (ls0 := [some (g_r 5)]) (by decide) rfl (Nat.le_of_ble_eq_true rfl) (g_hls (av := [g_r 5]) (k := 0)) (fun _ h9 => List.mem_cons_of_mem _ h9) ?_
  refine ev_aload_n (i := 0) d_Sg_isFull_0 rfl rfl rfl ?_
  refine ev_getI (z := M 5 4) d_Sg_isFull_1 rfl lk_Sg_25 lx_5 rfl (rfl) ?_
  refine ev_aload_n (i := 0) d_Sg_isFull_4 rfl rfl rfl ?_
  refine ev_getI (z := M 5 0) d_Sg_isFull_5 rfl lk_Sg_9 lx_5 rfl (rfl) ?_
  refine ev_icmp_lt (tgt := 15) d_Sg_isFull_8 (by decide) rfl (fun h1 => ?_) (fun h1 => ?_)
  · refine ev_iconst d_Sg_isFull_15 rfl ⟨by decide, by decide⟩ ?_
    exact ev_retI d_Sg_isFull_16 (by first | rfl | omega | simp_all) rfl (Or.inr ⟨rfl, by omega⟩)
  · refine ev_iconst d_Sg_isFull_11 rfl ⟨by decide, by decide⟩ ?_
    refine ev_goto (tgt := 16) d_Sg_isFull_12 (by decide) ?_
    exact ev_retI d_Sg_isFull_16 (by first | rfl | omega | simp_all) rfl (Or.inr ⟨rfl, by omega⟩)
theorem c_Sg_has_f (d : Nat) (M : g_M) (h : Int)  : Con y_Sg_has w_Sg_has (g_rm (d)) LX M [g_r 5, g_i h] LX M (some (g_i (if 0 ≤ h ∧ h < M 5 4 then 1 else 0))) := by
  refine con_of (av := [g_r 5, g_i h]) (ls0 := [some (g_r 5), some (g_i h)]) (by decide) rfl (Nat.le_of_ble_eq_true rfl) (g_hls (av := [g_r 5, g_i h]) (k := 0)) (fun _ h9 => List.mem_cons_of_mem _ h9) ?_
  refine ev_iload_n (i := 1) d_Sg_has_0 rfl rfl rfl ?_
  refine ev_if_lt (tgt := 16) d_Sg_has_1 (by decide) rfl (fun h1 => ?_) (fun h1 => ?_)
  · refine ev_iconst d_Sg_has_16 rfl ⟨by decide, by decide⟩ ?_
    exact ev_retI d_Sg_has_17 (by first | rfl | omega | simp_all) rfl (Or.inr ⟨rfl, by omega⟩)
  · refine ev_iload_n (i := 1) d_Sg_has_4 rfl rfl rfl ?_
    refine ev_aload_n (i := 0) d_Sg_has_5 rfl rfl rfl ?_
    refine ev_getI (z := M 5 4) d_Sg_has_6 rfl lk_Sg_25 lx_5 rfl (rfl) ?_
    refine ev_icmp_ge (tgt := 16) d_Sg_has_9 (by decide) rfl (fun h2 => ?_) (fun h2 => ?_)
    · refine ev_iconst d_Sg_has_16 rfl ⟨by decide, by decide⟩ ?_
      exact ev_retI d_Sg_has_17 (by first | rfl | omega | simp_all) rfl (Or.inr ⟨rfl, by omega⟩)
    · refine ev_iconst d_Sg_has_12 rfl ⟨by decide, by decide⟩ ?_
      refine ev_goto (tgt := 17) d_Sg_has_13 (by decide) ?_
      exact ev_retI d_Sg_has_17 (by first | rfl | omega | simp_all) rfl (Or.inr ⟨rfl, by omega⟩)
theorem c_Sg_type_f (d : Nat) (M : g_M) (h : Nat) (hh : h < 6) : Con y_Sg_type w_Sg_type (g_rm (d)) LX M [g_r 5, g_i (h : Int)] LX M (some (g_i (M 6 h))) := by
  refine con_of (av := [g_r 5, g_i (h : Int)]) (ls0 := [some (g_r 5), some (g_i (h : Int))]) (by decide) rfl (Nat.le_of_ble_eq_true rfl) (g_hls (av := [g_r 5, g_i (h : Int)]) (k := 0)) (fun _ h9 => List.mem_cons_of_mem _ h9) ?_
  refine ev_aload_n (i := 0) d_Sg_type_0 rfl rfl rfl ?_
  refine ev_getR d_Sg_type_1 rfl lk_Sg_15 lx_5 rfl ?_
  refine ev_iload_n (i := 1) d_Sg_type_4 rfl rfl rfl ?_
  refine ev_iaload (z := M 6 ((h : Int)).toNat) d_Sg_type_5 rfl lx_6 (by omega) (by omega) (rfl) ?_
  exact ev_retI d_Sg_type_6 (by first | rfl | omega | simp_all) rfl (Or.inl rfl)
theorem c_Sg_width_f (d : Nat) (M : g_M) (h : Nat) (hh : h < 6) : Con y_Sg_width w_Sg_width (g_rm (d)) LX M [g_r 5, g_i (h : Int)] LX M (some (g_i (M 7 h))) := by
  refine con_of (av := [g_r 5, g_i (h : Int)]) (ls0 := [some (g_r 5), some (g_i (h : Int))]) (by decide) rfl (Nat.le_of_ble_eq_true rfl) (g_hls (av := [g_r 5, g_i (h : Int)]) (k := 0)) (fun _ h9 => List.mem_cons_of_mem _ h9) ?_
  refine ev_aload_n (i := 0) d_Sg_width_0 rfl rfl rfl ?_
  refine ev_getR d_Sg_width_1 rfl lk_Sg_19 lx_5 rfl ?_
  refine ev_iload_n (i := 1) d_Sg_width_4 rfl rfl rfl ?_
  refine ev_iaload (z := M 7 ((h : Int)).toNat) d_Sg_width_5 rfl lx_7 (by omega) (by omega) (rfl) ?_
  exact ev_retI d_Sg_width_6 (by first | rfl | omega | simp_all) rfl (Or.inl rfl)
theorem c_Sg_placeType_f (d : Nat) (M : g_M) (h i : Nat) (hh : h < 6) (hi : i < 3) : Con y_Sg_placeType w_Sg_placeType (g_rm (d)) LX M [g_r 5, g_i (h : Int), g_i (i : Int)] LX M (some (g_i (M 8 (3 * h + i)))) := by
  refine con_of (av := [g_r 5, g_i (h : Int), g_i (i : Int)]) (ls0 := [some (g_r 5), some (g_i (h : Int)), some (g_i (i : Int))]) (by decide) rfl (Nat.le_of_ble_eq_true rfl) (g_hls (av := [g_r 5, g_i (h : Int), g_i (i : Int)]) (k := 0)) (fun _ h9 => List.mem_cons_of_mem _ h9) ?_
  refine ev_aload_n (i := 0) d_Sg_placeType_0 rfl rfl rfl ?_
  refine ev_getR d_Sg_placeType_1 rfl lk_Sg_22 lx_5 rfl ?_
  refine ev_iload_n (i := 1) d_Sg_placeType_4 rfl rfl rfl ?_
  refine ev_iconst d_Sg_placeType_5 rfl ⟨by decide, by decide⟩ ?_
  refine ev_imul (z := (h : Int) * 3) d_Sg_placeType_6 rfl (g_w_id (by unfold g_rg; omega)) ?_
  refine ev_iload_n (i := 2) d_Sg_placeType_7 rfl rfl rfl ?_
  refine ev_iadd (z := ((h : Int) * 3) + (i : Int)) d_Sg_placeType_8 rfl (g_w_id (by unfold g_rg; omega)) ?_
  refine ev_iaload (z := M 8 (3 * h + i)) d_Sg_placeType_9 rfl lx_8 (by omega) (by omega) (by congr 1; omega) ?_
  exact ev_retI d_Sg_placeType_10 (by first | rfl | omega | simp_all) rfl (Or.inl rfl)
