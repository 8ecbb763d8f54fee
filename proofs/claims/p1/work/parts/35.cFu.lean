theorem s_shl : ∀ v : Nat, v < 8 → g_b (fun a b => a <<< (b &&& 31)) 1 (v : Int) = ((2 ^ v : Nat) : Int) := by decide +kernel
theorem c_Fu_constructor (d : Nat) (M : g_M) (n : Nat) (t a b c : Int) (hs : s_ok t a b c) (hm : M 1 0 = 8) (hn : M 1 4 = n) (hl : n < 8) : Con y_Fu_constructor w_Fu_constructor (g_rm (d + 2)) LX M [g_r 0, g_i t, g_i a, g_i b, g_i c] LX (s_dec (g_up M 0 8 (-1)) 1 2 n t a b c) (some (g_i (n : Int))) := by
  refine con_of (av := [g_r 0, g_i t, g_i a, g_i b, g_i c]) (ls0 := [some (g_r 0), some (g_i t), some (g_i a), some (g_i b), some (g_i c)]) (by decide) rfl (Nat.le_of_ble_eq_true rfl) (g_hls (av := [g_r 0, g_i t, g_i a, g_i b, g_i c]) (k := 0)) (fun _ h9 => List.mem_cons_of_mem _ h9) ?_
  refine ev_iload_n (i := 1) d_Fu_constructor_0 rfl rfl rfl ?_
  refine ev_iload_n (i := 2) d_Fu_constructor_1 rfl rfl rfl ?_
  refine ev_iload_n (i := 3) d_Fu_constructor_2 rfl rfl rfl ?_
  refine ev_iload (i := 4) d_Fu_constructor_3 rfl rfl ?_
  refine ev_callS (As := [g_i t, g_i a, g_i b, g_i c]) d_Fu_constructor_5 rfl cl_Fu_73 (c_Fu_areTypes (d + 0) M t a b c) (g_hR (by decide)) g_h0 rfl rfl (Nat.le_of_ble_eq_true rfl) rfl rfl ?_
  refine ev_if_ne_t (tgt := 21) d_Fu_constructor_8 (by decide) (by rw [if_pos hs]; decide) ?_
  refine ev_aload_n (i := 0) d_Fu_constructor_21 rfl rfl rfl ?_
  refine ev_getR d_Fu_constructor_22 rfl lk_Fu_14 lx_0 rfl ?_
  refine ev_callV (As := []) d_Fu_constructor_25 rfl cl_Fu_84 (c_Sg_isFull_c (d + 1) M) (g_hR (by decide)) g_h0 lx_1 rfl rfl (Nat.le_of_ble_eq_true rfl) rfl rfl ?_
  refine ev_if_eq_t (tgt := 41) d_Fu_constructor_28 (by decide) (by rw [if_neg (by omega)]) ?_
  refine ev_aload_n (i := 0) d_Fu_constructor_41 rfl rfl rfl ?_
  refine ev_iconst d_Fu_constructor_42 rfl ⟨by decide, by decide⟩ ?_
  refine ev_putI d_Fu_constructor_43 rfl lk_Fu_69 fp_Fu_8 (Or.inl rfl) lx_0 rfl ?_
  refine ev_aload_n (i := 0) d_Fu_constructor_46 rfl rfl rfl ?_
  refine ev_getR d_Fu_constructor_47 rfl lk_Fu_14 lx_0 rfl ?_
  refine ev_iload_n (i := 1) d_Fu_constructor_50 rfl rfl rfl ?_
  refine ev_iload_n (i := 2) d_Fu_constructor_51 rfl rfl rfl ?_
  refine ev_iload_n (i := 3) d_Fu_constructor_52 rfl rfl rfl ?_
  refine ev_iload (i := 4) d_Fu_constructor_53 rfl rfl ?_
  refine ev_callV (As := [g_i t, g_i a, g_i b, g_i c]) d_Fu_constructor_55 rfl cl_Fu_93 (c_Sg_declare_c (d + 0) (g_up M 0 8 (-1)) n t a b c (by simp [g_up, hn]) hl) (g_hR (by decide)) g_h0 lx_1 rfl rfl (Nat.le_of_ble_eq_true rfl) rfl rfl ?_
  exact ev_retI d_Fu_constructor_58 (by first | rfl | omega | simp_all) rfl (Or.inl rfl)
theorem c_Fu_constructor_x1 (d : Nat) (M : g_M) (t a b c : Int) (hs : ¬ s_ok t a b c) : CoX y_Fu_constructor w_Fu_constructor (g_ra (d + 6) 1 6) LX M [g_r 0, g_i t, g_i a, g_i b, g_i c] M x_E1 := by
  refine conX_of (av := [g_r 0, g_i t, g_i a, g_i b, g_i c]) (ls0 := [some (g_r 0), some (g_i t), some (g_i a), some (g_i b), some (g_i c)]) (by decide) rfl (Nat.le_of_ble_eq_true rfl) (g_hls (av := [g_r 0, g_i t, g_i a, g_i b, g_i c]) (k := 0)) (fun _ h9 => List.mem_cons_of_mem _ h9) rfl ⟨by show 6 ≤ d + 6; omega, by show 90 ≤ 40 * (d + 6); omega⟩ ⟨Nat.le_refl _, Nat.le_refl _⟩ ?_
  refine ev_iload_n (i := 1) d_Fu_constructor_0 rfl rfl rfl ?_
  refine ev_iload_n (i := 2) d_Fu_constructor_1 rfl rfl rfl ?_
  refine ev_iload_n (i := 3) d_Fu_constructor_2 rfl rfl rfl ?_
  refine ev_iload (i := 4) d_Fu_constructor_3 rfl rfl ?_
  refine ev_callS (As := [g_i t, g_i a, g_i b, g_i c]) d_Fu_constructor_5 rfl cl_Fu_73 (c_Fu_areTypes (d + 4) M t a b c) (g_hR (by decide)) ⟨Nat.zero_le _, Nat.zero_le _⟩ rfl rfl (Nat.le_of_ble_eq_true rfl) rfl rfl ?_
  refine ev_if_ne_f (tgt := 21) d_Fu_constructor_8 (by decide) rfl (by rw [if_neg hs]) ?_
  exact ev_done ⟨rfl, rfl, rfl, rfl, rfl, 77, 79, 81, _, x_ex1, List.mem_of_getElem? (i := 0) rfl, d_Fu_constructor_11, d_Fu_constructor_14, d_Fu_constructor_15, d_Fu_constructor_17, d_Fu_constructor_20⟩
theorem c_Fu_constructor_x2 (d : Nat) (M : g_M) (t a b c : Int) (hs : s_ok t a b c) (hm : M 1 0 = 8) (hf : 8 ≤ M 1 4) : CoX y_Fu_constructor w_Fu_constructor (g_ra (d + 6) 1 6) LX M [g_r 0, g_i t, g_i a, g_i b, g_i c] M x_E2 := by
  refine conX_of (av := [g_r 0, g_i t, g_i a, g_i b, g_i c]) (ls0 := [some (g_r 0), some (g_i t), some (g_i a), some (g_i b), some (g_i c)]) (by decide) rfl (Nat.le_of_ble_eq_true rfl) (g_hls (av := [g_r 0, g_i t, g_i a, g_i b, g_i c]) (k := 0)) (fun _ h9 => List.mem_cons_of_mem _ h9) rfl ⟨by show 6 ≤ d + 6; omega, by show 90 ≤ 40 * (d + 6); omega⟩ ⟨Nat.le_refl _, Nat.le_refl _⟩ ?_
  refine ev_iload_n (i := 1) d_Fu_constructor_0 rfl rfl rfl ?_
  refine ev_iload_n (i := 2) d_Fu_constructor_1 rfl rfl rfl ?_
  refine ev_iload_n (i := 3) d_Fu_constructor_2 rfl rfl rfl ?_
  refine ev_iload (i := 4) d_Fu_constructor_3 rfl rfl ?_
  refine ev_callS (As := [g_i t, g_i a, g_i b, g_i c]) d_Fu_constructor_5 rfl cl_Fu_73 (c_Fu_areTypes (d + 4) M t a b c) (g_hR (by decide)) ⟨Nat.zero_le _, Nat.zero_le _⟩ rfl rfl (Nat.le_of_ble_eq_true rfl) rfl rfl ?_
  refine ev_if_ne_t (tgt := 21) d_Fu_constructor_8 (by decide) (by rw [if_pos hs]; decide) ?_
  refine ev_aload_n (i := 0) d_Fu_constructor_21 rfl rfl rfl ?_
  refine ev_getR d_Fu_constructor_22 rfl lk_Fu_14 lx_0 rfl ?_
  refine ev_callV (As := []) d_Fu_constructor_25 rfl cl_Fu_84 (c_Sg_isFull_c (d + 5) M) (g_hR (by decide)) ⟨Nat.zero_le _, Nat.zero_le _⟩ lx_1 rfl rfl (Nat.le_of_ble_eq_true rfl) rfl rfl ?_
  refine ev_if_eq_f (tgt := 41) d_Fu_constructor_28 (by decide) rfl (by rw [if_pos (by omega)]; decide) ?_
  exact ev_done ⟨rfl, rfl, rfl, rfl, rfl, 88, 90, 92, _, x_ex2, List.mem_of_getElem? (i := 1) rfl, d_Fu_constructor_31, d_Fu_constructor_34, d_Fu_constructor_35, d_Fu_constructor_37, d_Fu_constructor_40⟩
theorem c_Fu_function (d : Nat) (M : g_M) (n : Nat) (t a b c : Int) (hs : s_ok t a b c) (hm : M 5 0 = 6) (hn : M 5 4 = n) (hl : n < 6) : Con y_Fu_function w_Fu_function (g_rm (d + 2)) LX M [g_r 0, g_i t, g_i a, g_i b, g_i c] LX (s_dec (g_up M 0 8 (-1)) 5 6 n t a b c) (some (g_i (n : Int))) := by
  refine con_of (av := [g_r 0, g_i t, g_i a, g_i b, g_i c]) (ls0 := [some (g_r 0), some (g_i t), some (g_i a), some (g_i b), some (g_i c)]) (by decide) rfl (Nat.le_of_ble_eq_true rfl) (g_hls (av := [g_r 0, g_i t, g_i a, g_i b, g_i c]) (k := 0)) (fun _ h9 => List.mem_cons_of_mem _ h9) ?_
  refine ev_iload_n (i := 1) d_Fu_function_0 rfl rfl rfl ?_
  refine ev_iload_n (i := 2) d_Fu_function_1 rfl rfl rfl ?_
  refine ev_iload_n (i := 3) d_Fu_function_2 rfl rfl rfl ?_
  refine ev_iload (i := 4) d_Fu_function_3 rfl rfl ?_
  refine ev_callS (As := [g_i t, g_i a, g_i b, g_i c]) d_Fu_function_5 rfl cl_Fu_73 (c_Fu_areTypes (d + 0) M t a b c) (g_hR (by decide)) g_h0 rfl rfl (Nat.le_of_ble_eq_true rfl) rfl rfl ?_
  refine ev_if_ne_t (tgt := 21) d_Fu_function_8 (by decide) (by rw [if_pos hs]; decide) ?_
  refine ev_aload_n (i := 0) d_Fu_function_21 rfl rfl rfl ?_
  refine ev_getR d_Fu_function_22 rfl lk_Fu_18 lx_0 rfl ?_
  refine ev_callV (As := []) d_Fu_function_25 rfl cl_Fu_84 (c_Sg_isFull_f (d + 1) M) (g_hR (by decide)) g_h0 lx_5 rfl rfl (Nat.le_of_ble_eq_true rfl) rfl rfl ?_
  refine ev_if_eq_t (tgt := 41) d_Fu_function_28 (by decide) (by rw [if_neg (by omega)]) ?_
  refine ev_aload_n (i := 0) d_Fu_function_41 rfl rfl rfl ?_
  refine ev_iconst d_Fu_function_42 rfl ⟨by decide, by decide⟩ ?_
  refine ev_putI d_Fu_function_43 rfl lk_Fu_69 fp_Fu_8 (Or.inl rfl) lx_0 rfl ?_
  refine ev_aload_n (i := 0) d_Fu_function_46 rfl rfl rfl ?_
  refine ev_getR d_Fu_function_47 rfl lk_Fu_18 lx_0 rfl ?_
  refine ev_iload_n (i := 1) d_Fu_function_50 rfl rfl rfl ?_
  refine ev_iload_n (i := 2) d_Fu_function_51 rfl rfl rfl ?_
  refine ev_iload_n (i := 3) d_Fu_function_52 rfl rfl rfl ?_
  refine ev_iload (i := 4) d_Fu_function_53 rfl rfl ?_
  refine ev_callV (As := [g_i t, g_i a, g_i b, g_i c]) d_Fu_function_55 rfl cl_Fu_93 (c_Sg_declare_f (d + 0) (g_up M 0 8 (-1)) n t a b c (by simp [g_up, hn]) hl) (g_hR (by decide)) g_h0 lx_5 rfl rfl (Nat.le_of_ble_eq_true rfl) rfl rfl ?_
  exact ev_retI d_Fu_function_58 (by first | rfl | omega | simp_all) rfl (Or.inl rfl)
theorem c_Fu_function_x1 (d : Nat) (M : g_M) (t a b c : Int) (hs : ¬ s_ok t a b c) : CoX y_Fu_function w_Fu_function (g_ra (d + 6) 1 6) LX M [g_r 0, g_i t, g_i a, g_i b, g_i c] M x_E1 := by
  refine conX_of (av := [g_r 0, g_i t, g_i a, g_i b, g_i c]) (ls0 := [some (g_r 0), some (g_i t), some (g_i a), some (g_i b), some (g_i c)]) (by decide) rfl (Nat.le_of_ble_eq_true rfl) (g_hls (av := [g_r 0, g_i t, g_i a, g_i b, g_i c]) (k := 0)) (fun _ h9 => List.mem_cons_of_mem _ h9) rfl ⟨by show 6 ≤ d + 6; omega, by show 90 ≤ 40 * (d + 6); omega⟩ ⟨Nat.le_refl _, Nat.le_refl _⟩ ?_
  refine ev_iload_n (i := 1) d_Fu_function_0 rfl rfl rfl ?_
  refine ev_iload_n (i := 2) d_Fu_function_1 rfl rfl rfl ?_
  refine ev_iload_n (i := 3) d_Fu_function_2 rfl rfl rfl ?_
  refine ev_iload (i := 4) d_Fu_function_3 rfl rfl ?_
  refine ev_callS (As := [g_i t, g_i a, g_i b, g_i c]) d_Fu_function_5 rfl cl_Fu_73 (c_Fu_areTypes (d + 4) M t a b c) (g_hR (by decide)) ⟨Nat.zero_le _, Nat.zero_le _⟩ rfl rfl (Nat.le_of_ble_eq_true rfl) rfl rfl ?_
  refine ev_if_ne_f (tgt := 21) d_Fu_function_8 (by decide) rfl (by rw [if_neg hs]) ?_
  exact ev_done ⟨rfl, rfl, rfl, rfl, rfl, 77, 79, 81, _, x_ex1, List.mem_of_getElem? (i := 0) rfl, d_Fu_function_11, d_Fu_function_14, d_Fu_function_15, d_Fu_function_17, d_Fu_function_20⟩
theorem c_Fu_function_x2 (d : Nat) (M : g_M) (t a b c : Int) (hs : s_ok t a b c) (hm : M 5 0 = 6) (hf : 6 ≤ M 5 4) : CoX y_Fu_function w_Fu_function (g_ra (d + 6) 1 6) LX M [g_r 0, g_i t, g_i a, g_i b, g_i c] M x_E2 := by
  refine conX_of (av := [g_r 0, g_i t, g_i a, g_i b, g_i c]) (ls0 := [some (g_r 0), some (g_i t), some (g_i a), some (g_i b), some (g_i c)]) (by decide) rfl (Nat.le_of_ble_eq_true rfl) (g_hls (av := [g_r 0, g_i t, g_i a, g_i b, g_i c]) (k := 0)) (fun _ h9 => List.mem_cons_of_mem _ h9) rfl ⟨by show 6 ≤ d + 6; omega, by show 90 ≤ 40 * (d + 6); omega⟩ ⟨Nat.le_refl _, Nat.le_refl _⟩ ?_
  refine ev_iload_n (i := 1) d_Fu_function_0 rfl rfl rfl ?_
  refine ev_iload_n (i := 2) d_Fu_function_1 rfl rfl rfl ?_
  refine ev_iload_n (i := 3) d_Fu_function_2 rfl rfl rfl ?_
  refine ev_iload (i := 4) d_Fu_function_3 rfl rfl ?_
  refine ev_callS (As := [g_i t, g_i a, g_i b, g_i c]) d_Fu_function_5 rfl cl_Fu_73 (c_Fu_areTypes (d + 4) M t a b c) (g_hR (by decide)) ⟨Nat.zero_le _, Nat.zero_le _⟩ rfl rfl (Nat.le_of_ble_eq_true rfl) rfl rfl ?_
  refine ev_if_ne_t (tgt := 21) d_Fu_function_8 (by decide) (by rw [if_pos hs]; decide) ?_
  refine ev_aload_n (i := 0) d_Fu_function_21 rfl rfl rfl ?_
  refine ev_getR d_Fu_function_22 rfl lk_Fu_18 lx_0 rfl ?_
  refine ev_callV (As := []) d_Fu_function_25 rfl cl_Fu_84 (c_Sg_isFull_f (d + 5) M) (g_hR (by decide)) ⟨Nat.zero_le _, Nat.zero_le _⟩ lx_5 rfl rfl (Nat.le_of_ble_eq_true rfl) rfl rfl ?_
  refine ev_if_eq_f (tgt := 41) d_Fu_function_28 (by decide) rfl (by rw [if_pos (by omega)]; decide) ?_
  exact ev_done ⟨rfl, rfl, rfl, rfl, rfl, 88, 97, 92, _, x_ex2, List.mem_of_getElem? (i := 2) rfl, d_Fu_function_31, d_Fu_function_34, d_Fu_function_35, d_Fu_function_37, d_Fu_function_40⟩
theorem c_Te_addVariable (d : Nat) (M : g_M) (n v : Nat) (hn : M 9 9 = n) (hl : n < 100) (hv : v < 8) : Con y_Te_addVariable w_Te_addVariable (g_rm (d)) LX M [g_r 9, g_i (v : Int)] LX (g_up (g_up (g_up (g_up (g_up M 10 n 0) 11 n v) 15 n 1) 16 n ((2 ^ v : Nat) : Int)) 9 9 ((n : Int) + 1)) (some (g_i (n : Int))) := by
  refine con_of (av := [g_r 9, g_i (v : Int)]) (ls0 := [some (g_r 9), some (g_i (v : Int))]) (by decide) rfl (Nat.le_of_ble_eq_true rfl) (g_hls (av := [g_r 9, g_i (v : Int)]) (k := 0)) (fun _ h9 => List.mem_cons_of_mem _ h9) ?_
  refine ev_aload_n (i := 0) d_Te_addVariable_0 rfl rfl rfl ?_
  refine ev_getR d_Te_addVariable_1 rfl lk_Te_9 lx_9 rfl ?_
  refine ev_aload_n (i := 0) d_Te_addVariable_4 rfl rfl rfl ?_
  refine ev_getI (z := (n : Int)) d_Te_addVariable_5 rfl lk_Te_40 lx_9 rfl (by simp [g_up, hn]) ?_
  refine ev_iconst d_Te_addVariable_8 rfl ⟨by decide, by decide⟩ ?_
  refine ev_iastore d_Te_addVariable_9 rfl lx_10 (by omega) (by omega) ?_
  rw [show (((n : Int))).toNat = n by rfl]
  refine ev_aload_n (i := 0) d_Te_addVariable_10 rfl rfl rfl ?_
  refine ev_getR d_Te_addVariable_11 rfl lk_Te_15 lx_9 rfl ?_
  refine ev_aload_n (i := 0) d_Te_addVariable_14 rfl rfl rfl ?_
  refine ev_getI (z := (n : Int)) d_Te_addVariable_15 rfl lk_Te_40 lx_9 rfl (by simp [g_up, hn]) ?_
  refine ev_iload_n (i := 1) d_Te_addVariable_18 rfl rfl rfl ?_
  refine ev_iastore d_Te_addVariable_19 rfl lx_11 (by omega) (by omega) ?_
  rw [show (((n : Int))).toNat = n by rfl]
  refine ev_aload_n (i := 0) d_Te_addVariable_20 rfl rfl rfl ?_
  refine ev_getR d_Te_addVariable_21 rfl lk_Te_27 lx_9 rfl ?_
  refine ev_aload_n (i := 0) d_Te_addVariable_24 rfl rfl rfl ?_
  refine ev_getI (z := (n : Int)) d_Te_addVariable_25 rfl lk_Te_40 lx_9 rfl (by simp [g_up, hn]) ?_
  refine ev_iconst d_Te_addVariable_28 rfl ⟨by decide, by decide⟩ ?_
  refine ev_iastore d_Te_addVariable_29 rfl lx_15 (by omega) (by omega) ?_
  rw [show (((n : Int))).toNat = n by rfl]
  refine ev_aload_n (i := 0) d_Te_addVariable_30 rfl rfl rfl ?_
  refine ev_getR d_Te_addVariable_31 rfl lk_Te_30 lx_9 rfl ?_
  refine ev_aload_n (i := 0) d_Te_addVariable_34 rfl rfl rfl ?_
  refine ev_getI (z := (n : Int)) d_Te_addVariable_35 rfl lk_Te_40 lx_9 rfl (by simp [g_up, hn]) ?_
  refine ev_iconst d_Te_addVariable_38 rfl ⟨by decide, by decide⟩ ?_
  refine ev_iload_n (i := 1) d_Te_addVariable_39 rfl rfl rfl ?_
  refine ev_ishl (z := ((2 ^ v : Nat) : Int)) d_Te_addVariable_40 rfl (s_shl v hv) ?_
  refine ev_iastore d_Te_addVariable_41 rfl lx_16 (by omega) (by omega) ?_
  rw [show (((n : Int))).toNat = n by rfl]
  refine ev_aload_n (i := 0) d_Te_addVariable_42 rfl rfl rfl ?_
  refine ev_dup d_Te_addVariable_43 rfl rfl ?_
  refine ev_getI (z := (n : Int)) d_Te_addVariable_44 rfl lk_Te_40 lx_9 rfl (by simp [g_up, hn]) ?_
  refine ev_dup_x1 d_Te_addVariable_47 rfl rfl rfl ?_
  refine ev_iconst d_Te_addVariable_48 rfl ⟨by decide, by decide⟩ ?_
  refine ev_iadd (z := ((n : Int)) + 1) d_Te_addVariable_49 rfl (g_w_id (by unfold g_rg; omega)) ?_
  refine ev_putI d_Te_addVariable_50 rfl lk_Te_40 fp_Te_9 (Or.inl rfl) lx_9 rfl ?_
  exact ev_retI d_Te_addVariable_53 (by first | rfl | omega | simp_all) rfl (Or.inl rfl)
theorem c_Fu_variable (d : Nat) (M : g_M) (n v : Nat) (hn : M 9 9 = n) (hl : n < 100) (hv : v < 8) : Con y_Fu_variable w_Fu_variable (g_rm (d + 1)) LX M [g_r 0, g_i (v : Int)] LX (g_up (g_up (g_up (g_up (g_up M 10 n 0) 11 n v) 15 n 1) 16 n ((2 ^ v : Nat) : Int)) 9 9 ((n : Int) + 1)) (some (g_i (n : Int))) := by
  refine con_of (av := [g_r 0, g_i (v : Int)]) (ls0 := [some (g_r 0), some (g_i (v : Int))]) (by decide) rfl (Nat.le_of_ble_eq_true rfl) (g_hls (av := [g_r 0, g_i (v : Int)]) (k := 0)) (fun _ h9 => List.mem_cons_of_mem _ h9) ?_
  refine ev_iload_n (i := 1) d_Fu_variable_0 rfl rfl rfl ?_
  refine ev_if_lt_f (tgt := 10) d_Fu_variable_1 (by decide) rfl (by omega) ?_
  refine ev_iload_n (i := 1) d_Fu_variable_4 rfl rfl rfl ?_
  refine ev_bipush d_Fu_variable_5 rfl (by decide +kernel) ⟨by decide, by decide⟩ ?_
  refine ev_icmp_lt_t (tgt := 20) d_Fu_variable_7 (by decide) (by omega) ?_
  refine ev_aload_n (i := 0) d_Fu_variable_20 rfl rfl rfl ?_
  refine ev_getR d_Fu_variable_21 rfl lk_Fu_24 lx_0 rfl ?_
  refine ev_callV (As := []) d_Fu_variable_24 rfl cl_Fu_101 (c_Te_isFull (d + 0) M) (g_hR (by decide)) g_h0 lx_9 rfl rfl (Nat.le_of_ble_eq_true rfl) rfl rfl ?_
  refine ev_if_eq_t (tgt := 40) d_Fu_variable_27 (by decide) (by rw [if_neg (by omega)]) ?_
  refine ev_aload_n (i := 0) d_Fu_variable_40 rfl rfl rfl ?_
  refine ev_getR d_Fu_variable_41 rfl lk_Fu_24 lx_0 rfl ?_
  refine ev_iload_n (i := 1) d_Fu_variable_44 rfl rfl rfl ?_
  refine ev_callV (As := [g_i (v : Int)]) d_Fu_variable_45 rfl cl_Fu_104 (c_Te_addVariable (d + 0) M n v hn hl hv) (g_hR (by decide)) g_h0 lx_9 rfl rfl (Nat.le_of_ble_eq_true rfl) rfl rfl ?_
  exact ev_retI d_Fu_variable_48 (by first | rfl | omega | simp_all) rfl (Or.inl rfl)
theorem c_Fu_variable_x1 (d : Nat) (M : g_M) (v : Int) (hv : v < 0 ∨ 8 ≤ v) : CoX y_Fu_variable w_Fu_variable (g_ra (d + 6) 1 6) LX M [g_r 0, g_i v] M x_E1 := by
  refine conX_of (av := [g_r 0, g_i v]) (ls0 := [some (g_r 0), some (g_i v)]) (by decide) rfl (Nat.le_of_ble_eq_true rfl) (g_hls (av := [g_r 0, g_i v]) (k := 0)) (fun _ h9 => List.mem_cons_of_mem _ h9) rfl ⟨by show 6 ≤ d + 6; omega, by show 90 ≤ 40 * (d + 6); omega⟩ ⟨Nat.le_refl _, Nat.le_refl _⟩ ?_
  refine ev_iload_n (i := 1) d_Fu_variable_0 rfl rfl rfl ?_
  refine ev_if_lt (tgt := 10) d_Fu_variable_1 (by decide) rfl (fun h1 => ?_) (fun h1 => ?_)
  · exact ev_done ⟨rfl, rfl, rfl, rfl, rfl, 77, 99, 81, _, x_ex1, List.mem_of_getElem? (i := 3) rfl, d_Fu_variable_10, d_Fu_variable_13, d_Fu_variable_14, d_Fu_variable_16, d_Fu_variable_19⟩
  · refine ev_iload_n (i := 1) d_Fu_variable_4 rfl rfl rfl ?_
    refine ev_bipush d_Fu_variable_5 rfl (by decide +kernel) ⟨by decide, by decide⟩ ?_
    refine ev_icmp_lt_f (tgt := 20) d_Fu_variable_7 (by decide) rfl (by omega) ?_
    exact ev_done ⟨rfl, rfl, rfl, rfl, rfl, 77, 99, 81, _, x_ex1, List.mem_of_getElem? (i := 3) rfl, d_Fu_variable_10, d_Fu_variable_13, d_Fu_variable_14, d_Fu_variable_16, d_Fu_variable_19⟩
theorem c_Fu_variable_x2 (d : Nat) (M : g_M) (v : Int) (hv : 0 ≤ v ∧ v < 8) (hf : 100 ≤ M 9 9) : CoX y_Fu_variable w_Fu_variable (g_ra (d + 6) 1 6) LX M [g_r 0, g_i v] M x_E2 := by
  refine conX_of (av := [g_r 0, g_i v]) (ls0 := [some (g_r 0), some (g_i v)]) (by decide) rfl (Nat.le_of_ble_eq_true rfl) (g_hls (av := [g_r 0, g_i v]) (k := 0)) (fun _ h9 => List.mem_cons_of_mem _ h9) rfl ⟨by show 6 ≤ d + 6; omega, by show 90 ≤ 40 * (d + 6); omega⟩ ⟨Nat.le_refl _, Nat.le_refl _⟩ ?_
  refine ev_iload_n (i := 1) d_Fu_variable_0 rfl rfl rfl ?_
  refine ev_if_lt_f (tgt := 10) d_Fu_variable_1 (by decide) rfl (by omega) ?_
  refine ev_iload_n (i := 1) d_Fu_variable_4 rfl rfl rfl ?_
  refine ev_bipush d_Fu_variable_5 rfl (by decide +kernel) ⟨by decide, by decide⟩ ?_
  refine ev_icmp_lt_t (tgt := 20) d_Fu_variable_7 (by decide) (by omega) ?_
  refine ev_aload_n (i := 0) d_Fu_variable_20 rfl rfl rfl ?_
  refine ev_getR d_Fu_variable_21 rfl lk_Fu_24 lx_0 rfl ?_
  refine ev_callV (As := []) d_Fu_variable_24 rfl cl_Fu_101 (c_Te_isFull (d + 5) M) (g_hR (by decide)) ⟨Nat.zero_le _, Nat.zero_le _⟩ lx_9 rfl rfl (Nat.le_of_ble_eq_true rfl) rfl rfl ?_
  refine ev_if_eq_f (tgt := 40) d_Fu_variable_27 (by decide) rfl (by rw [if_pos hf]; decide) ?_
  exact ev_done ⟨rfl, rfl, rfl, rfl, rfl, 88, 102, 92, _, x_ex2, List.mem_of_getElem? (i := 4) rfl, d_Fu_variable_30, d_Fu_variable_33, d_Fu_variable_34, d_Fu_variable_36, d_Fu_variable_39⟩
theorem c_Fu_make_x0 (d : Nat) (M : g_M) (h x y z : Int) (hh : ¬ (0 ≤ h ∧ h < M 1 4)) : CoX y_Fu_make w_Fu_make (g_ra (d + 6) 1 6) LX M [g_r 0, g_i h, g_i x, g_i y, g_i z] M x_E1 := by
  refine conX_of (av := [g_r 0, g_i h, g_i x, g_i y, g_i z]) (ls0 := [some (g_r 0), some (g_i h), some (g_i x), some (g_i y), some (g_i z)]) (by decide) rfl (Nat.le_of_ble_eq_true rfl) (g_hls (av := [g_r 0, g_i h, g_i x, g_i y, g_i z]) (k := 0)) (fun _ h9 => List.mem_cons_of_mem _ h9) rfl ⟨by show 6 ≤ d + 6; omega, by show 90 ≤ 40 * (d + 6); omega⟩ ⟨Nat.le_refl _, Nat.le_refl _⟩ ?_
  refine ev_aload_n (i := 0) d_Fu_make_0 rfl rfl rfl ?_
  refine ev_getR d_Fu_make_1 rfl lk_Fu_14 lx_0 rfl ?_
  refine ev_iload_n (i := 1) d_Fu_make_4 rfl rfl rfl ?_
  refine ev_callV (As := [g_i h]) d_Fu_make_5 rfl cl_Fu_108 (c_Sg_has_c (d + 5) M h) (g_hR (by decide)) ⟨Nat.zero_le _, Nat.zero_le _⟩ lx_1 rfl rfl (Nat.le_of_ble_eq_true rfl) rfl rfl ?_
  refine ev_if_eq_t (tgt := 33) d_Fu_make_8 (by decide) (by rw [if_neg hh]) ?_
  exact ev_done ⟨rfl, rfl, rfl, rfl, rfl, 77, 118, 81, _, x_ex1, List.mem_of_getElem? (i := 5) rfl, d_Fu_make_33, d_Fu_make_36, d_Fu_make_37, d_Fu_make_39, d_Fu_make_42⟩
theorem c_Fu_call_x0 (d : Nat) (M : g_M) (h x y z : Int) (hh : ¬ (0 ≤ h ∧ h < M 5 4)) : CoX y_Fu_call w_Fu_call (g_ra (d + 6) 1 6) LX M [g_r 0, g_i h, g_i x, g_i y, g_i z] M x_E1 := by
  refine conX_of (av := [g_r 0, g_i h, g_i x, g_i y, g_i z]) (ls0 := [some (g_r 0), some (g_i h), some (g_i x), some (g_i y), some (g_i z)]) (by decide) rfl (Nat.le_of_ble_eq_true rfl) (g_hls (av := [g_r 0, g_i h, g_i x, g_i y, g_i z]) (k := 0)) (fun _ h9 => List.mem_cons_of_mem _ h9) rfl ⟨by show 6 ≤ d + 6; omega, by show 90 ≤ 40 * (d + 6); omega⟩ ⟨Nat.le_refl _, Nat.le_refl _⟩ ?_
  refine ev_aload_n (i := 0) d_Fu_call_0 rfl rfl rfl ?_
  refine ev_getR d_Fu_call_1 rfl lk_Fu_18 lx_0 rfl ?_
  refine ev_iload_n (i := 1) d_Fu_call_4 rfl rfl rfl ?_
  refine ev_callV (As := [g_i h]) d_Fu_call_5 rfl cl_Fu_108 (c_Sg_has_f (d + 5) M h) (g_hR (by decide)) ⟨Nat.zero_le _, Nat.zero_le _⟩ lx_5 rfl rfl (Nat.le_of_ble_eq_true rfl) rfl rfl ?_
  refine ev_if_eq_t (tgt := 33) d_Fu_call_8 (by decide) (by rw [if_neg hh]) ?_
  exact ev_done ⟨rfl, rfl, rfl, rfl, rfl, 77, 124, 81, _, x_ex1, List.mem_of_getElem? (i := 6) rfl, d_Fu_call_33, d_Fu_call_36, d_Fu_call_37, d_Fu_call_39, d_Fu_call_42⟩
theorem c_Fu_clause_x0 (d : Nat) (M : g_M) (h x y z b : Int) (hh : ¬ (0 ≤ h ∧ h < M 5 4)) : CoX y_Fu_clause w_Fu_clause (g_ra (d + 6) 1 6) LX M [g_r 0, g_i h, g_i x, g_i y, g_i z, g_i b] M x_E1 := by
  refine conX_of (av := [g_r 0, g_i h, g_i x, g_i y, g_i z, g_i b]) (ls0 := [some (g_r 0), some (g_i h), some (g_i x), some (g_i y), some (g_i z), some (g_i b)]) (by decide) rfl (Nat.le_of_ble_eq_true rfl) (g_hls (av := [g_r 0, g_i h, g_i x, g_i y, g_i z, g_i b]) (k := 0)) (fun _ h9 => List.mem_cons_of_mem _ h9) rfl ⟨by show 6 ≤ d + 6; omega, by show 90 ≤ 40 * (d + 6); omega⟩ ⟨Nat.le_refl _, Nat.le_refl _⟩ ?_
  refine ev_aload_n (i := 0) d_Fu_clause_0 rfl rfl rfl ?_
  refine ev_getR d_Fu_clause_1 rfl lk_Fu_18 lx_0 rfl ?_
  refine ev_iload_n (i := 1) d_Fu_clause_4 rfl rfl rfl ?_
  refine ev_callV (As := [g_i h]) d_Fu_clause_5 rfl cl_Fu_108 (c_Sg_has_f (d + 5) M h) (g_hR (by decide)) ⟨Nat.zero_le _, Nat.zero_le _⟩ lx_5 rfl rfl (Nat.le_of_ble_eq_true rfl) rfl rfl ?_
  refine ev_if_eq_t (tgt := 35) d_Fu_clause_8 (by decide) (by rw [if_neg hh]) ?_
  exact ev_done ⟨rfl, rfl, rfl, rfl, rfl, 77, 133, 81, _, x_ex1, List.mem_of_getElem? (i := 7) rfl, d_Fu_clause_35, d_Fu_clause_38, d_Fu_clause_39, d_Fu_clause_41, d_Fu_clause_44⟩
theorem c_Fu_graphs (d : Nat) (M : g_M)   : Con y_Fu_graphs w_Fu_graphs (g_rm (d)) LX M [g_r 0] LX M (some (g_i (M 0 9))) := by
  refine con_of (av := [g_r 0]) (ls0 := [some (g_r 0)]) (by decide) rfl (Nat.le_of_ble_eq_true rfl) (g_hls (av := [g_r 0]) (k := 0)) (fun _ h9 => List.mem_cons_of_mem _ h9) ?_
  refine ev_aload_n (i := 0) d_Fu_graphs_0 rfl rfl rfl ?_
  refine ev_getI (z := M 0 9) d_Fu_graphs_1 rfl lk_Fu_146 lx_0 rfl (rfl) ?_
  exact ev_retI d_Fu_graphs_4 (by first | rfl | omega | simp_all) rfl (Or.inl rfl)
theorem c_Fu_arc_x0 (d : Nat) (M : g_M) (h x y z : Int) (hh : ¬ (0 ≤ h ∧ h < M 19 7)) : CoX y_Fu_arc w_Fu_arc (g_ra (d + 6) 1 6) LX M [g_r 0, g_i h, g_i x, g_i y, g_i z] M x_E1 := by
  refine conX_of (av := [g_r 0, g_i h, g_i x, g_i y, g_i z]) (ls0 := [some (g_r 0), some (g_i h), some (g_i x), some (g_i y), some (g_i z), none, none]) (by decide) rfl (Nat.le_of_ble_eq_true rfl) (g_hls (av := [g_r 0, g_i h, g_i x, g_i y, g_i z]) (k := 2)) (fun _ h9 => List.mem_cons_of_mem _ h9) rfl ⟨by show 6 ≤ d + 6; omega, by show 90 ≤ 40 * (d + 6); omega⟩ ⟨Nat.le_refl _, Nat.le_refl _⟩ ?_
  refine ev_aload_n (i := 0) d_Fu_arc_0 rfl rfl rfl ?_
  refine ev_getR d_Fu_arc_1 rfl lk_Fu_33 lx_0 rfl ?_
  refine ev_iload_n (i := 1) d_Fu_arc_4 rfl rfl rfl ?_
  refine ev_callV (As := [g_i h]) d_Fu_arc_5 rfl cl_Fu_149 (c_Cl_has (d + 5) M h) (g_hR (by decide)) ⟨Nat.zero_le _, Nat.zero_le _⟩ lx_19 rfl rfl (Nat.le_of_ble_eq_true rfl) rfl rfl ?_
  refine ev_if_ne_f (tgt := 21) d_Fu_arc_8 (by decide) rfl (by rw [if_neg hh]) ?_
  exact ev_done ⟨rfl, rfl, rfl, rfl, rfl, 77, 150, 81, _, x_ex1, List.mem_of_getElem? (i := 9) rfl, d_Fu_arc_11, d_Fu_arc_14, d_Fu_arc_15, d_Fu_arc_17, d_Fu_arc_20⟩
theorem c_Fu_isValue_0 (d : Nat) (M : g_M) (t y : Int) (hh : ¬ (0 ≤ y ∧ y < 3) ∨ ¬ (0 ≤ t ∧ t < M 9 9)) : Con y_Fu_isValue w_Fu_isValue (g_rm (d + 1)) LX M [g_r 0, g_i t, g_i y] LX M (some (g_i 0)) := by
  refine con_of (av := [g_r 0, g_i t, g_i y]) (ls0 := [some (g_r 0), some (g_i t), some (g_i y)]) (by decide) rfl (Nat.le_of_ble_eq_true rfl) (g_hls (av := [g_r 0, g_i t, g_i y]) (k := 0)) (fun _ h9 => List.mem_cons_of_mem _ h9) ?_
  refine ev_iload_n (i := 2) d_Fu_isValue_0 rfl rfl rfl ?_
  refine ev_callS (As := [g_i y]) d_Fu_isValue_1 rfl cl_Fu_173 (c_Fu_isType (d + 0) M y) (g_hR (by decide)) g_h0 rfl rfl (Nat.le_of_ble_eq_true rfl) rfl rfl ?_
  refine ev_beq (tgt := 34) d_Fu_isValue_4 (by decide) rfl (fun h1 => ?_) (fun h1 => ?_)
  · refine ev_iconst d_Fu_isValue_34 rfl ⟨by decide, by decide⟩ ?_
    exact ev_retI d_Fu_isValue_35 (by first | rfl | omega | simp_all) rfl (Or.inr ⟨rfl, by omega⟩)
  · refine ev_aload_n (i := 0) d_Fu_isValue_7 rfl rfl rfl ?_
    refine ev_getR d_Fu_isValue_8 rfl lk_Fu_24 lx_0 rfl ?_
    refine ev_iload_n (i := 1) d_Fu_isValue_11 rfl rfl rfl ?_
    refine ev_callV (As := [g_i t]) d_Fu_isValue_12 rfl cl_Fu_176 (c_Te_has (d + 0) M t) (g_hR (by decide)) g_h0 lx_9 rfl rfl (Nat.le_of_ble_eq_true rfl) rfl rfl ?_
    refine ev_if_eq_t (tgt := 34) d_Fu_isValue_15 (by decide) (by rw [if_neg (by omega)]) ?_
    refine ev_iconst d_Fu_isValue_34 rfl ⟨by decide, by decide⟩ ?_
    exact ev_retI d_Fu_isValue_35 (by first | rfl | omega | simp_all) rfl (Or.inr ⟨rfl, by omega⟩)
theorem c_Fu_run_x0 (d : Nat) (M : g_M) (h x y z : Int) (hh : M 0 8 ≠ 0) : CoX y_Fu_run w_Fu_run (g_ra (d + 6) 1 6) LX M [g_r 0, g_i h, g_i x, g_i y, g_i z] M x_E2 := by
  refine conX_of (av := [g_r 0, g_i h, g_i x, g_i y, g_i z]) (ls0 := [some (g_r 0), some (g_i h), some (g_i x), some (g_i y), some (g_i z)]) (by decide) rfl (Nat.le_of_ble_eq_true rfl) (g_hls (av := [g_r 0, g_i h, g_i x, g_i y, g_i z]) (k := 0)) (fun _ h9 => List.mem_cons_of_mem _ h9) rfl ⟨by show 6 ≤ d + 6; omega, by show 90 ≤ 40 * (d + 6); omega⟩ ⟨Nat.le_refl _, Nat.le_refl _⟩ ?_
  refine ev_aload_n (i := 0) d_Fu_run_0 rfl rfl rfl ?_
  refine ev_getI (z := M 0 8) d_Fu_run_1 rfl lk_Fu_69 lx_0 rfl (rfl) ?_
  refine ev_if_eq_f (tgt := 17) d_Fu_run_4 (by decide) rfl (hh) ?_
  exact ev_done ⟨rfl, rfl, rfl, rfl, rfl, 88, 181, 92, _, x_ex2, List.mem_of_getElem? (i := 12) rfl, d_Fu_run_7, d_Fu_run_10, d_Fu_run_11, d_Fu_run_13, d_Fu_run_16⟩
theorem c_Fu_answer (d : Nat) (M : g_M) (i : Nat) (hi : i < 60) (hs : (i : Int) < M 34 14) : Con y_Fu_answer w_Fu_answer (g_rm (d + 1)) LX M [g_r 0, g_i (i : Int)] LX M (some (g_i (M 44 i))) := by
  refine con_of (av := [g_r 0, g_i (i : Int)]) (ls0 := [some (g_r 0), some (g_i (i : Int))]) (by decide) rfl (Nat.le_of_ble_eq_true rfl) (g_hls (av := [g_r 0, g_i (i : Int)]) (k := 0)) (fun _ h9 => List.mem_cons_of_mem _ h9) ?_
  refine ev_iload_n (i := 1) d_Fu_answer_0 rfl rfl rfl ?_
  refine ev_if_lt_f (tgt := 15) d_Fu_answer_1 (by decide) rfl (by omega) ?_
  refine ev_iload_n (i := 1) d_Fu_answer_4 rfl rfl rfl ?_
  refine ev_aload_n (i := 0) d_Fu_answer_5 rfl rfl rfl ?_
  refine ev_getR d_Fu_answer_6 rfl lk_Fu_65 lx_0 rfl ?_
  refine ev_callV (As := []) d_Fu_answer_9 rfl cl_Fu_191 (c_Ma_answerSize (d + 0) M) (g_hR (by decide)) g_h0 lx_34 rfl rfl (Nat.le_of_ble_eq_true rfl) rfl rfl ?_
  refine ev_icmp_lt_t (tgt := 25) d_Fu_answer_12 (by decide) (hs) ?_
  refine ev_aload_n (i := 0) d_Fu_answer_25 rfl rfl rfl ?_
  refine ev_getR d_Fu_answer_26 rfl lk_Fu_65 lx_0 rfl ?_
  refine ev_iload_n (i := 1) d_Fu_answer_29 rfl rfl rfl ?_
  refine ev_callV (As := [g_i (i : Int)]) d_Fu_answer_30 rfl cl_Fu_199 (c_Ma_answerAt (d + 0) M i hi) (g_hR (by decide)) g_h0 lx_34 rfl rfl (Nat.le_of_ble_eq_true rfl) rfl rfl ?_
  exact ev_retI d_Fu_answer_33 (by first | rfl | omega | simp_all) rfl (Or.inl rfl)
theorem c_Fu_answer_x (d : Nat) (M : g_M) (i : Int) (hs : i < 0 ∨ M 34 14 ≤ i) : CoX y_Fu_answer w_Fu_answer (g_ra (d + 6) 1 6) LX M [g_r 0, g_i i] M x_E3 := by
  refine conX_of (av := [g_r 0, g_i i]) (ls0 := [some (g_r 0), some (g_i i)]) (by decide) rfl (Nat.le_of_ble_eq_true rfl) (g_hls (av := [g_r 0, g_i i]) (k := 0)) (fun _ h9 => List.mem_cons_of_mem _ h9) rfl ⟨by show 6 ≤ d + 6; omega, by show 90 ≤ 40 * (d + 6); omega⟩ ⟨Nat.le_refl _, Nat.le_refl _⟩ ?_
  refine ev_iload_n (i := 1) d_Fu_answer_0 rfl rfl rfl ?_
  refine ev_if_lt (tgt := 15) d_Fu_answer_1 (by decide) rfl (fun h1 => ?_) (fun h1 => ?_)
  · exact ev_done ⟨rfl, rfl, rfl, rfl, rfl, 194, 196, 198, _, x_ex3, List.mem_of_getElem? (i := 14) rfl, d_Fu_answer_15, d_Fu_answer_18, d_Fu_answer_19, d_Fu_answer_21, d_Fu_answer_24⟩
  · refine ev_iload_n (i := 1) d_Fu_answer_4 rfl rfl rfl ?_
    refine ev_aload_n (i := 0) d_Fu_answer_5 rfl rfl rfl ?_
    refine ev_getR d_Fu_answer_6 rfl lk_Fu_65 lx_0 rfl ?_
    refine ev_callV (As := []) d_Fu_answer_9 rfl cl_Fu_191 (c_Ma_answerSize (d + 5) M) (g_hR (by decide)) ⟨Nat.zero_le _, Nat.zero_le _⟩ lx_34 rfl rfl (Nat.le_of_ble_eq_true rfl) rfl rfl ?_
    refine ev_icmp_lt_f (tgt := 25) d_Fu_answer_12 (by decide) rfl (by omega) ?_
    exact ev_done ⟨rfl, rfl, rfl, rfl, rfl, 194, 196, 198, _, x_ex3, List.mem_of_getElem? (i := 14) rfl, d_Fu_answer_15, d_Fu_answer_18, d_Fu_answer_19, d_Fu_answer_21, d_Fu_answer_24⟩
theorem c_Fu_count_0 (d : Nat) (M : g_M)   : Con y_Fu_count w_Fu_count (g_rm (d + 1)) LX M [g_r 0, g_i 0] LX M (some (g_i (M 34 11))) := by
  refine con_of (av := [g_r 0, g_i 0]) (ls0 := [some (g_r 0), some (g_i 0)]) (by decide) rfl (Nat.le_of_ble_eq_true rfl) (g_hls (av := [g_r 0, g_i 0]) (k := 0)) (fun _ h9 => List.mem_cons_of_mem _ h9) ?_
  refine ev_iload_n (i := 1) d_Fu_count_0 rfl rfl rfl ?_
  refine ev_tsIn (tgt := 40) d_Fu_count_1 (by omega) (by omega) (rfl) (by decide) ?_
  refine ev_aload_n (i := 0) d_Fu_count_40 rfl rfl rfl ?_
  refine ev_getR d_Fu_count_41 rfl lk_Fu_65 lx_0 rfl ?_
  refine ev_callV (As := []) d_Fu_count_44 rfl cl_Fu_202 (c_Ma_steps (d + 0) M) (g_hR (by decide)) g_h0 lx_34 rfl rfl (Nat.le_of_ble_eq_true rfl) rfl rfl ?_
  exact ev_retI d_Fu_count_47 (by first | rfl | omega | simp_all) rfl (Or.inl rfl)
theorem c_Fu_count_1 (d : Nat) (M : g_M)   : Con y_Fu_count w_Fu_count (g_rm (d + 1)) LX M [g_r 0, g_i 1] LX M (some (g_i (M 1 4))) := by
  refine con_of (av := [g_r 0, g_i 1]) (ls0 := [some (g_r 0), some (g_i 1)]) (by decide) rfl (Nat.le_of_ble_eq_true rfl) (g_hls (av := [g_r 0, g_i 1]) (k := 0)) (fun _ h9 => List.mem_cons_of_mem _ h9) ?_
  refine ev_iload_n (i := 1) d_Fu_count_0 rfl rfl rfl ?_
  refine ev_tsIn (tgt := 48) d_Fu_count_1 (by omega) (by omega) (rfl) (by decide) ?_
  refine ev_aload_n (i := 0) d_Fu_count_48 rfl rfl rfl ?_
  refine ev_getR d_Fu_count_49 rfl lk_Fu_14 lx_0 rfl ?_
  refine ev_callV (As := []) d_Fu_count_52 rfl cl_Fu_205 (c_Sg_howMany_c (d + 0) M) (g_hR (by decide)) g_h0 lx_1 rfl rfl (Nat.le_of_ble_eq_true rfl) rfl rfl ?_
  exact ev_retI d_Fu_count_55 (by first | rfl | omega | simp_all) rfl (Or.inl rfl)
theorem c_Fu_count_2 (d : Nat) (M : g_M)   : Con y_Fu_count w_Fu_count (g_rm (d + 1)) LX M [g_r 0, g_i 2] LX M (some (g_i (M 5 4))) := by
  refine con_of (av := [g_r 0, g_i 2]) (ls0 := [some (g_r 0), some (g_i 2)]) (by decide) rfl (Nat.le_of_ble_eq_true rfl) (g_hls (av := [g_r 0, g_i 2]) (k := 0)) (fun _ h9 => List.mem_cons_of_mem _ h9) ?_
  refine ev_iload_n (i := 1) d_Fu_count_0 rfl rfl rfl ?_
  refine ev_tsIn (tgt := 56) d_Fu_count_1 (by omega) (by omega) (rfl) (by decide) ?_
  refine ev_aload_n (i := 0) d_Fu_count_56 rfl rfl rfl ?_
  refine ev_getR d_Fu_count_57 rfl lk_Fu_18 lx_0 rfl ?_
  refine ev_callV (As := []) d_Fu_count_60 rfl cl_Fu_205 (c_Sg_howMany_f (d + 0) M) (g_hR (by decide)) g_h0 lx_5 rfl rfl (Nat.le_of_ble_eq_true rfl) rfl rfl ?_
  exact ev_retI d_Fu_count_63 (by first | rfl | omega | simp_all) rfl (Or.inl rfl)
theorem c_Fu_count_3 (d : Nat) (M : g_M)   : Con y_Fu_count w_Fu_count (g_rm (d + 1)) LX M [g_r 0, g_i 3] LX M (some (g_i (M 9 9))) := by
  refine con_of (av := [g_r 0, g_i 3]) (ls0 := [some (g_r 0), some (g_i 3)]) (by decide) rfl (Nat.le_of_ble_eq_true rfl) (g_hls (av := [g_r 0, g_i 3]) (k := 0)) (fun _ h9 => List.mem_cons_of_mem _ h9) ?_
  refine ev_iload_n (i := 1) d_Fu_count_0 rfl rfl rfl ?_
  refine ev_tsIn (tgt := 64) d_Fu_count_1 (by omega) (by omega) (rfl) (by decide) ?_
  refine ev_aload_n (i := 0) d_Fu_count_64 rfl rfl rfl ?_
  refine ev_getR d_Fu_count_65 rfl lk_Fu_24 lx_0 rfl ?_
  refine ev_callV (As := []) d_Fu_count_68 rfl cl_Fu_208 (c_Te_howMany (d + 0) M) (g_hR (by decide)) g_h0 lx_9 rfl rfl (Nat.le_of_ble_eq_true rfl) rfl rfl ?_
  exact ev_retI d_Fu_count_71 (by first | rfl | omega | simp_all) rfl (Or.inl rfl)
theorem c_Fu_count_4 (d : Nat) (M : g_M)   : Con y_Fu_count w_Fu_count (g_rm (d + 1)) LX M [g_r 0, g_i 4] LX M (some (g_i (M 19 7))) := by
  refine con_of (av := [g_r 0, g_i 4]) (ls0 := [some (g_r 0), some (g_i 4)]) (by decide) rfl (Nat.le_of_ble_eq_true rfl) (g_hls (av := [g_r 0, g_i 4]) (k := 0)) (fun _ h9 => List.mem_cons_of_mem _ h9) ?_
  refine ev_iload_n (i := 1) d_Fu_count_0 rfl rfl rfl ?_
  refine ev_tsIn (tgt := 72) d_Fu_count_1 (by omega) (by omega) (rfl) (by decide) ?_
  refine ev_aload_n (i := 0) d_Fu_count_72 rfl rfl rfl ?_
  refine ev_getR d_Fu_count_73 rfl lk_Fu_33 lx_0 rfl ?_
  refine ev_callV (As := []) d_Fu_count_76 rfl cl_Fu_209 (c_Cl_howMany (d + 0) M) (g_hR (by decide)) g_h0 lx_19 rfl rfl (Nat.le_of_ble_eq_true rfl) rfl rfl ?_
  exact ev_retI d_Fu_count_79 (by first | rfl | omega | simp_all) rfl (Or.inl rfl)
theorem c_Fu_count_5 (d : Nat) (M : g_M)   : Con y_Fu_count w_Fu_count (g_rm (d + 1)) LX M [g_r 0, g_i 5] LX M (some (g_i (if M 0 8 = 0 then 1 else 0))) := by
  refine con_of (av := [g_r 0, g_i 5]) (ls0 := [some (g_r 0), some (g_i 5)]) (by decide) rfl (Nat.le_of_ble_eq_true rfl) (g_hls (av := [g_r 0, g_i 5]) (k := 0)) (fun _ h9 => List.mem_cons_of_mem _ h9) ?_
  refine ev_iload_n (i := 1) d_Fu_count_0 rfl rfl rfl ?_
  refine ev_tsIn (tgt := 80) d_Fu_count_1 (by omega) (by omega) (rfl) (by decide) ?_
  refine ev_aload_n (i := 0) d_Fu_count_80 rfl rfl rfl ?_
  refine ev_getI (z := M 0 8) d_Fu_count_81 rfl lk_Fu_69 lx_0 rfl (rfl) ?_
  refine ev_if_ne (tgt := 91) d_Fu_count_84 (by decide) rfl (fun h1 => ?_) (fun h1 => ?_)
  · refine ev_iconst d_Fu_count_91 rfl ⟨by decide, by decide⟩ ?_
    exact ev_retI d_Fu_count_92 (by first | rfl | omega | simp_all) rfl (Or.inl rfl)
  · refine ev_iconst d_Fu_count_87 rfl ⟨by decide, by decide⟩ ?_
    refine ev_goto (tgt := 92) d_Fu_count_88 (by decide) ?_
    exact ev_retI d_Fu_count_92 (by first | rfl | omega | simp_all) rfl (Or.inl rfl)
theorem c_Fu_count_9 (d : Nat) (M : g_M) (w : Int) (hw : w < 0 ∨ 5 < w) : Con y_Fu_count w_Fu_count (g_rm (d + 1)) LX M [g_r 0, g_i w] LX M (some (g_i (-1))) := by
  refine con_of (av := [g_r 0, g_i w]) (ls0 := [some (g_r 0), some (g_i w)]) (by decide) rfl (Nat.le_of_ble_eq_true rfl) (g_hls (av := [g_r 0, g_i w]) (k := 0)) (fun _ h9 => List.mem_cons_of_mem _ h9) ?_
  refine ev_iload_n (i := 1) d_Fu_count_0 rfl rfl rfl ?_
  refine ev_tsOut (tgt := 93) d_Fu_count_1 (hw) (by decide) ?_
  refine ev_iconst d_Fu_count_93 rfl ⟨by decide, by decide⟩ ?_
  exact ev_retI d_Fu_count_94 (by first | rfl | omega | simp_all) rfl (Or.inl rfl)
