/-- the table of graphs, emptied up to i -/
def s_tb (M : g_M) (i : Nat) : g_M := fun k b => if k = 33 ∧ b < i then -1 else M k b
theorem s_tb_up (M : g_M) (i : Nat) : g_up (s_tb M i) 33 i (-1) = s_tb M (i + 1) := by
  funext k b
  simp only [g_up, s_tb]
  by_cases hk : k = 33
  · subst hk
    by_cases hb : b = i
    · subst hb; simp
    · by_cases h : b < i
      · have : b < i + 1 := by omega
        simp [hb, h, this]
      · have : ¬ b < i + 1 := by omega
        simp [hb, h, this]
  · simp [hk]
theorem s_tb_0 (M : g_M) : M = s_tb M 0 := by
  funext k b
  simp [s_tb]
theorem s_tb_ne (M : g_M) (i k b : Nat) (h : k ≠ 33) : s_tb M i k b = M k b := by simp [s_tb, h]
theorem c_Sg_typesUsed_c_e (d : Nat) (M : g_M)  (h0 : M 1 4 = 0) : Con y_Sg_typesUsed w_Sg_typesUsed (g_rm (d)) LX M [g_r 1] LX M (some (g_i 0)) := by
  refine con_of (av := [g_r 1]) (ls0 := [some (g_r 1), none, none]) (by decide) rfl (Nat.le_of_ble_eq_true rfl) (g_hls (av := [g_r 1]) (k := 2)) (fun _ h9 => List.mem_cons_of_mem _ h9) ?_
  refine ev_iconst d_Sg_typesUsed_0 rfl ⟨by decide, by decide⟩ ?_
  refine ev_istore_n (i := 1) d_Sg_typesUsed_1 rfl rfl (by decide) rfl ?_
  refine ev_iconst d_Sg_typesUsed_2 rfl ⟨by decide, by decide⟩ ?_
  refine ev_istore_n (i := 2) d_Sg_typesUsed_3 rfl rfl (by decide) rfl ?_
  refine ev_iload_n (i := 2) d_Sg_typesUsed_4 rfl rfl rfl ?_
  refine ev_aload_n (i := 0) d_Sg_typesUsed_5 rfl rfl rfl ?_
  refine ev_getI (z := 0) d_Sg_typesUsed_6 rfl lk_Sg_25 lx_1 rfl (h0) ?_
  refine ev_icmp_ge_t (tgt := 35) d_Sg_typesUsed_9 (by decide) (by decide) ?_
  refine ev_iload_n (i := 1) d_Sg_typesUsed_35 rfl rfl rfl ?_
  exact ev_retI d_Sg_typesUsed_36 (by first | rfl | omega | simp_all) rfl (Or.inl rfl)
theorem c_Sg_typesUsed_f_e (d : Nat) (M : g_M)  (h0 : M 5 4 = 0) : Con y_Sg_typesUsed w_Sg_typesUsed (g_rm (d)) LX M [g_r 5] LX M (some (g_i 0)) := by
  refine con_of (av := [g_r 5]) (ls0 := [some (g_r 5), none, none]) (by decide) rfl (Nat.le_of_ble_eq_true rfl) (g_hls (av := [g_r 5]) (k := 2)) (fun _ h9 => List.mem_cons_of_mem _ h9) ?_
  refine ev_iconst d_Sg_typesUsed_0 rfl ⟨by decide, by decide⟩ ?_
  refine ev_istore_n (i := 1) d_Sg_typesUsed_1 rfl rfl (by decide) rfl ?_
  refine ev_iconst d_Sg_typesUsed_2 rfl ⟨by decide, by decide⟩ ?_
  refine ev_istore_n (i := 2) d_Sg_typesUsed_3 rfl rfl (by decide) rfl ?_
  refine ev_iload_n (i := 2) d_Sg_typesUsed_4 rfl rfl rfl ?_
  refine ev_aload_n (i := 0) d_Sg_typesUsed_5 rfl rfl rfl ?_
  refine ev_getI (z := 0) d_Sg_typesUsed_6 rfl lk_Sg_25 lx_5 rfl (h0) ?_
  refine ev_icmp_ge_t (tgt := 35) d_Sg_typesUsed_9 (by decide) (by decide) ?_
  refine ev_iload_n (i := 1) d_Sg_typesUsed_35 rfl rfl rfl ?_
  exact ev_retI d_Sg_typesUsed_36 (by first | rfl | omega | simp_all) rfl (Or.inl rfl)
theorem c_Ty_typesWithValues_e (d : Nat) (M : g_M)  (h0 : M 1 4 = 0) : Con y_Ty_typesWithValues w_Ty_typesWithValues (g_rm (d + 1)) LX M [g_r 25] LX M (some (g_i 0)) := by
  refine con_of (av := [g_r 25]) (ls0 := [some (g_r 25), none, none, none]) (by decide) rfl (Nat.le_of_ble_eq_true rfl) (g_hls (av := [g_r 25]) (k := 3)) (fun _ h9 => List.mem_cons_of_mem _ h9) ?_
  refine ev_iconst d_Ty_typesWithValues_0 rfl ⟨by decide, by decide⟩ ?_
  refine ev_istore_n (i := 1) d_Ty_typesWithValues_1 rfl rfl (by decide) rfl ?_
  refine ev_iconst d_Ty_typesWithValues_2 rfl ⟨by decide, by decide⟩ ?_
  refine ev_istore_n (i := 2) d_Ty_typesWithValues_3 rfl rfl (by decide) rfl ?_
  refine ev_iload_n (i := 2) d_Ty_typesWithValues_4 rfl rfl rfl ?_
  refine ev_iconst d_Ty_typesWithValues_5 rfl ⟨by decide, by decide⟩ ?_
  refine ev_icmp_ge_f (tgt := 62) d_Ty_typesWithValues_6 (by decide) rfl (by decide) ?_
  refine ev_iconst d_Ty_typesWithValues_9 rfl ⟨by decide, by decide⟩ ?_
  refine ev_istore_n (i := 3) d_Ty_typesWithValues_10 rfl rfl (by decide) rfl ?_
  refine ev_iload_n (i := 3) d_Ty_typesWithValues_11 rfl rfl rfl ?_
  refine ev_aload_n (i := 0) d_Ty_typesWithValues_12 rfl rfl rfl ?_
  refine ev_getR d_Ty_typesWithValues_13 rfl lk_Ty_9 lx_25 rfl ?_
  refine ev_callV (As := []) d_Ty_typesWithValues_16 rfl cl_Ty_39 (c_Sg_howMany_c (d + 0) M ) (g_hR (by decide)) g_h0 lx_1 rfl rfl (Nat.le_of_ble_eq_true rfl) rfl rfl ?_
  refine ev_icmp_ge_t (tgt := 56) d_Ty_typesWithValues_19 (by decide) (by omega) ?_
  refine ev_iinc (z := 1) d_Ty_typesWithValues_56 rfl rfl (by decide) (by decide +kernel) rfl ?_
  refine ev_goto (tgt := 4) d_Ty_typesWithValues_59 (by decide) ?_
  refine ev_iload_n (i := 2) d_Ty_typesWithValues_4 rfl rfl rfl ?_
  refine ev_iconst d_Ty_typesWithValues_5 rfl ⟨by decide, by decide⟩ ?_
  refine ev_icmp_ge_f (tgt := 62) d_Ty_typesWithValues_6 (by decide) rfl (by decide) ?_
  refine ev_iconst d_Ty_typesWithValues_9 rfl ⟨by decide, by decide⟩ ?_
  refine ev_istore_n (i := 3) d_Ty_typesWithValues_10 rfl rfl (by decide) rfl ?_
  refine ev_iload_n (i := 3) d_Ty_typesWithValues_11 rfl rfl rfl ?_
  refine ev_aload_n (i := 0) d_Ty_typesWithValues_12 rfl rfl rfl ?_
  refine ev_getR d_Ty_typesWithValues_13 rfl lk_Ty_9 lx_25 rfl ?_
  refine ev_callV (As := []) d_Ty_typesWithValues_16 rfl cl_Ty_39 (c_Sg_howMany_c (d + 0) M ) (g_hR (by decide)) g_h0 lx_1 rfl rfl (Nat.le_of_ble_eq_true rfl) rfl rfl ?_
  refine ev_icmp_ge_t (tgt := 56) d_Ty_typesWithValues_19 (by decide) (by omega) ?_
  refine ev_iinc (z := 2) d_Ty_typesWithValues_56 rfl rfl (by decide) (by decide +kernel) rfl ?_
  refine ev_goto (tgt := 4) d_Ty_typesWithValues_59 (by decide) ?_
  refine ev_iload_n (i := 2) d_Ty_typesWithValues_4 rfl rfl rfl ?_
  refine ev_iconst d_Ty_typesWithValues_5 rfl ⟨by decide, by decide⟩ ?_
  refine ev_icmp_ge_f (tgt := 62) d_Ty_typesWithValues_6 (by decide) rfl (by decide) ?_
  refine ev_iconst d_Ty_typesWithValues_9 rfl ⟨by decide, by decide⟩ ?_
  refine ev_istore_n (i := 3) d_Ty_typesWithValues_10 rfl rfl (by decide) rfl ?_
  refine ev_iload_n (i := 3) d_Ty_typesWithValues_11 rfl rfl rfl ?_
  refine ev_aload_n (i := 0) d_Ty_typesWithValues_12 rfl rfl rfl ?_
  refine ev_getR d_Ty_typesWithValues_13 rfl lk_Ty_9 lx_25 rfl ?_
  refine ev_callV (As := []) d_Ty_typesWithValues_16 rfl cl_Ty_39 (c_Sg_howMany_c (d + 0) M ) (g_hR (by decide)) g_h0 lx_1 rfl rfl (Nat.le_of_ble_eq_true rfl) rfl rfl ?_
  refine ev_icmp_ge_t (tgt := 56) d_Ty_typesWithValues_19 (by decide) (by omega) ?_
  refine ev_iinc (z := 3) d_Ty_typesWithValues_56 rfl rfl (by decide) (by decide +kernel) rfl ?_
  refine ev_goto (tgt := 4) d_Ty_typesWithValues_59 (by decide) ?_
  refine ev_iload_n (i := 2) d_Ty_typesWithValues_4 rfl rfl rfl ?_
  refine ev_iconst d_Ty_typesWithValues_5 rfl ⟨by decide, by decide⟩ ?_
  refine ev_icmp_ge_t (tgt := 62) d_Ty_typesWithValues_6 (by decide) (by decide) ?_
  refine ev_iload_n (i := 1) d_Ty_typesWithValues_62 rfl rfl rfl ?_
  exact ev_retI d_Ty_typesWithValues_63 (by first | rfl | omega | simp_all) rfl (Or.inl rfl)
theorem c_Ty_allInhabited_e (d : Nat) (M : g_M)  (h0 : M 1 4 = 0) (h1 : M 5 4 = 0) : Con y_Ty_allInhabited w_Ty_allInhabited (g_rm (d + 2)) LX M [g_r 25] LX M (some (g_i 1)) := by
  refine con_of (av := [g_r 25]) (ls0 := [some (g_r 25), none]) (by decide) rfl (Nat.le_of_ble_eq_true rfl) (g_hls (av := [g_r 25]) (k := 1)) (fun _ h9 => List.mem_cons_of_mem _ h9) ?_
  refine ev_aload_n (i := 0) d_Ty_allInhabited_0 rfl rfl rfl ?_
  refine ev_getR d_Ty_allInhabited_1 rfl lk_Ty_9 lx_25 rfl ?_
  refine ev_callV (As := []) d_Ty_allInhabited_4 rfl cl_Ty_30 (c_Sg_typesUsed_c_e (d + 1) M h0) (g_hR (by decide)) g_h0 lx_1 rfl rfl (Nat.le_of_ble_eq_true rfl) rfl rfl ?_
  refine ev_aload_n (i := 0) d_Ty_allInhabited_7 rfl rfl rfl ?_
  refine ev_getR d_Ty_allInhabited_8 rfl lk_Ty_15 lx_25 rfl ?_
  refine ev_callV (As := []) d_Ty_allInhabited_11 rfl cl_Ty_30 (c_Sg_typesUsed_f_e (d + 1) M h1) (g_hR (by decide)) g_h0 lx_5 rfl rfl (Nat.le_of_ble_eq_true rfl) rfl rfl ?_
  refine ev_ior (z := 0) d_Ty_allInhabited_14 rfl (by decide +kernel) ?_
  refine ev_istore_n (i := 1) d_Ty_allInhabited_15 rfl rfl (by decide) rfl ?_
  refine ev_iload_n (i := 1) d_Ty_allInhabited_16 rfl rfl rfl ?_
  refine ev_aload_n (i := 0) d_Ty_allInhabited_17 rfl rfl rfl ?_
  refine ev_callV (As := []) d_Ty_allInhabited_18 rfl cl_Ty_36 (c_Ty_typesWithValues_e (d + 0) M h0) (g_hR (by decide)) g_h0 lx_25 rfl rfl (Nat.le_of_ble_eq_true rfl) rfl rfl ?_
  refine ev_iconst d_Ty_allInhabited_21 rfl ⟨by decide, by decide⟩ ?_
  refine ev_ixor (z := (-1)) d_Ty_allInhabited_22 rfl (by decide +kernel) ?_
  refine ev_iand (z := 0) d_Ty_allInhabited_23 rfl (by decide +kernel) ?_
  refine ev_if_ne_f (tgt := 31) d_Ty_allInhabited_24 (by decide) rfl (by decide) ?_
  refine ev_iconst d_Ty_allInhabited_27 rfl ⟨by decide, by decide⟩ ?_
  refine ev_goto (tgt := 32) d_Ty_allInhabited_28 (by decide) ?_
  exact ev_retI d_Ty_allInhabited_32 (by first | rfl | omega | simp_all) rfl (Or.inr ⟨rfl, by omega⟩)
theorem c_Ty_allTyped_e (d : Nat) (M : g_M)  (h0 : M 19 7 = 0) : Con y_Ty_allTyped w_Ty_allTyped (g_rm (d + 1)) LX M [g_r 25] LX M (some (g_i 1)) := by
  refine con_of (av := [g_r 25]) (ls0 := [some (g_r 25), none]) (by decide) rfl (Nat.le_of_ble_eq_true rfl) (g_hls (av := [g_r 25]) (k := 1)) (fun _ h9 => List.mem_cons_of_mem _ h9) ?_
  refine ev_iconst d_Ty_allTyped_0 rfl ⟨by decide, by decide⟩ ?_
  refine ev_istore_n (i := 1) d_Ty_allTyped_1 rfl rfl (by decide) rfl ?_
  refine ev_iload_n (i := 1) d_Ty_allTyped_2 rfl rfl rfl ?_
  refine ev_aload_n (i := 0) d_Ty_allTyped_3 rfl rfl rfl ?_
  refine ev_getR d_Ty_allTyped_4 rfl lk_Ty_22 lx_25 rfl ?_
  refine ev_callV (As := []) d_Ty_allTyped_7 rfl cl_Ty_49 (c_Cl_howMany (d + 0) M ) (g_hR (by decide)) g_h0 lx_19 rfl rfl (Nat.le_of_ble_eq_true rfl) rfl rfl ?_
  refine ev_icmp_ge_t (tgt := 29) d_Ty_allTyped_10 (by decide) (by omega) ?_
  refine ev_iconst d_Ty_allTyped_29 rfl ⟨by decide, by decide⟩ ?_
  exact ev_retI d_Ty_allTyped_30 (by first | rfl | omega | simp_all) rfl (Or.inr ⟨rfl, by omega⟩)
theorem c_Co_allCovered_e (d : Nat) (M : g_M)  (h0 : M 5 4 = 0) : Con y_Co_allCovered w_Co_allCovered (g_rm (d + 1)) LX M [g_r 27] LX M (some (g_i 1)) := by
  refine con_of (av := [g_r 27]) (ls0 := [some (g_r 27), none, none]) (by decide) rfl (Nat.le_of_ble_eq_true rfl) (g_hls (av := [g_r 27]) (k := 2)) (fun _ h9 => List.mem_cons_of_mem _ h9) ?_
  refine ev_iconst d_Co_allCovered_0 rfl ⟨by decide, by decide⟩ ?_
  refine ev_istore_n (i := 1) d_Co_allCovered_1 rfl rfl (by decide) rfl ?_
  refine ev_iload_n (i := 1) d_Co_allCovered_2 rfl rfl rfl ?_
  refine ev_aload_n (i := 0) d_Co_allCovered_3 rfl rfl rfl ?_
  refine ev_getR d_Co_allCovered_4 rfl lk_Co_15 lx_27 rfl ?_
  refine ev_callV (As := []) d_Co_allCovered_7 rfl cl_Co_33 (c_Sg_howMany_f (d + 0) M ) (g_hR (by decide)) g_h0 lx_5 rfl rfl (Nat.le_of_ble_eq_true rfl) rfl rfl ?_
  refine ev_icmp_ge_t (tgt := 56) d_Co_allCovered_10 (by decide) (by omega) ?_
  refine ev_iconst d_Co_allCovered_56 rfl ⟨by decide, by decide⟩ ?_
  exact ev_retI d_Co_allCovered_57 (by first | rfl | omega | simp_all) rfl (Or.inr ⟨rfl, by omega⟩)
theorem c_En_addCompositions_e (d : Nat) (M : g_M) (n : Int) (h0 : M 30 6 = 0) : Con y_En_addCompositions w_En_addCompositions (g_rm (d + 1)) LX M [g_r 30, g_i n] LX M none := by
  refine con_of (av := [g_r 30, g_i n]) (ls0 := [some (g_r 30), some (g_i n), none, none]) (by decide) rfl (Nat.le_of_ble_eq_true rfl) (g_hls (av := [g_r 30, g_i n]) (k := 2)) (fun _ h9 => List.mem_cons_of_mem _ h9) ?_
  refine ev_iconst d_En_addCompositions_0 rfl ⟨by decide, by decide⟩ ?_
  refine ev_istore_n (i := 2) d_En_addCompositions_1 rfl rfl (by decide) rfl ?_
  refine ev_iload_n (i := 2) d_En_addCompositions_2 rfl rfl rfl ?_
  refine ev_sipush d_En_addCompositions_3 rfl (by decide +kernel) ⟨by decide, by decide⟩ ?_
  refine ev_icmp_ge_f (tgt := 83) d_En_addCompositions_6 (by decide) rfl (by decide) ?_
  refine ev_iload_n (i := 2) d_En_addCompositions_9 rfl rfl rfl ?_
  refine ev_aload_n (i := 0) d_En_addCompositions_10 rfl rfl rfl ?_
  refine ev_getI (z := 0) d_En_addCompositions_11 rfl lk_En_79 lx_30 rfl (h0) ?_
  refine ev_icmp_ge_t (tgt := 83) d_En_addCompositions_14 (by decide) (by decide) ?_
  exact ev_retV d_En_addCompositions_83 rfl
theorem c_En_makeGraphs_e (d : Nat) (M : g_M)  (h0 : M 19 7 = 0) : Con y_En_makeGraphs w_En_makeGraphs (g_rm (d + 2)) LX M [g_r 30] LX (s_tb (g_up (g_up M 30 6 0) 30 7 0) 512) (some (g_i 0)) := by
  refine con_of (av := [g_r 30]) (ls0 := [some (g_r 30), none, none]) (by decide) rfl (Nat.le_of_ble_eq_true rfl) (g_hls (av := [g_r 30]) (k := 2)) (fun _ h9 => List.mem_cons_of_mem _ h9) ?_
  refine ev_aload_n (i := 0) d_En_makeGraphs_0 rfl rfl rfl ?_
  refine ev_iconst d_En_makeGraphs_1 rfl ⟨by decide, by decide⟩ ?_
  refine ev_putI d_En_makeGraphs_2 rfl lk_En_79 fp_En_6 (Or.inl rfl) lx_30 rfl ?_
  refine ev_aload_n (i := 0) d_En_makeGraphs_5 rfl rfl rfl ?_
  refine ev_iconst d_En_makeGraphs_6 rfl ⟨by decide, by decide⟩ ?_
  refine ev_putI d_En_makeGraphs_7 rfl lk_En_82 fp_En_7 (Or.inr ⟨rfl, by omega⟩) lx_30 rfl ?_
  refine ev_iconst d_En_makeGraphs_10 rfl ⟨by decide, by decide⟩ ?_
  refine ev_istore_n (i := 1) d_En_makeGraphs_11 rfl rfl (by decide) rfl ?_
  refine ev_lp (fun i : Nat => [some (g_r 30), some (g_i (i : Int)), none]) (fun i : Nat => (s_tb (g_up (g_up M 30 6 0) 30 7 0) i)) 512 ?_ ?_ (rfl) (s_tb_0 _)
  · intro i hi K12
    refine ev_iload_n (i := 1) d_En_makeGraphs_12 rfl rfl rfl ?_
    refine ev_sipush d_En_makeGraphs_13 rfl (by decide +kernel) ⟨by decide, by decide⟩ ?_
    refine ev_icmp_ge_f (tgt := 32) d_En_makeGraphs_16 (by decide) rfl (by omega) ?_
    refine ev_aload_n (i := 0) d_En_makeGraphs_19 rfl rfl rfl ?_
    refine ev_getR d_En_makeGraphs_20 rfl lk_En_30 lx_30 rfl ?_
    refine ev_iload_n (i := 1) d_En_makeGraphs_23 rfl rfl rfl ?_
    refine ev_iconst d_En_makeGraphs_24 rfl ⟨by decide, by decide⟩ ?_
    refine ev_iastore d_En_makeGraphs_25 rfl lx_33 (by omega) (by omega) ?_
    rw [show Int.toNat ((i : Int)) = i by rfl]
    refine ev_iinc (z := (i : Int) + 1) d_En_makeGraphs_26 rfl rfl (by decide) (g_w_id (by unfold g_rg; omega)) rfl ?_
    refine ev_goto (tgt := 12) d_En_makeGraphs_29 (by decide) ?_
    exact ev_eq (rfl) (s_tb_up _ _) K12
  · refine ev_iload_n (i := 1) d_En_makeGraphs_12 rfl rfl rfl ?_
    refine ev_sipush d_En_makeGraphs_13 rfl (by decide +kernel) ⟨by decide, by decide⟩ ?_
    refine ev_icmp_ge_t (tgt := 32) d_En_makeGraphs_16 (by decide) (by decide) ?_
    refine ev_iconst d_En_makeGraphs_32 rfl ⟨by decide, by decide⟩ ?_
    refine ev_istore_n (i := 1) d_En_makeGraphs_33 rfl rfl (by decide) rfl ?_
    refine ev_iload_n (i := 1) d_En_makeGraphs_34 rfl rfl rfl ?_
    refine ev_aload_n (i := 0) d_En_makeGraphs_35 rfl rfl rfl ?_
    refine ev_getR d_En_makeGraphs_36 rfl lk_En_19 lx_30 rfl ?_
    refine ev_callV (As := []) d_En_makeGraphs_39 rfl cl_En_86 (c_Cl_howMany (d + 1) (s_tb (g_up (g_up M 30 6 0) 30 7 0) 512) ) (g_hR (by decide)) g_h0 lx_19 rfl rfl (Nat.le_of_ble_eq_true rfl) rfl rfl ?_
    refine ev_icmp_ge_t (tgt := 94) d_En_makeGraphs_42 (by decide) (by simp [s_tb, g_up, h0]) ?_
    refine ev_aload_n (i := 0) d_En_makeGraphs_94 rfl rfl rfl ?_
    refine ev_aload_n (i := 0) d_En_makeGraphs_95 rfl rfl rfl ?_
    refine ev_getI (z := 0) d_En_makeGraphs_96 rfl lk_En_79 lx_30 rfl (by simp [s_tb, g_up]) ?_
    refine ev_callV (As := [g_i 0]) d_En_makeGraphs_99 rfl cl_En_96 (c_En_addCompositions_e (d + 0) (s_tb (g_up (g_up M 30 6 0) 30 7 0) 512) 0 (by simp [s_tb, g_up])) (g_hR (by decide)) g_h0 lx_30 rfl rfl (Nat.le_of_ble_eq_true rfl) rfl rfl ?_
    refine ev_aload_n (i := 0) d_En_makeGraphs_102 rfl rfl rfl ?_
    refine ev_getI (z := 0) d_En_makeGraphs_103 rfl lk_En_82 lx_30 rfl (by simp [s_tb, g_up]) ?_
    refine ev_if_eq_t (tgt := 115) d_En_makeGraphs_106 (by decide) (by decide) ?_
    refine ev_aload_n (i := 0) d_En_makeGraphs_115 rfl rfl rfl ?_
    refine ev_getI (z := 0) d_En_makeGraphs_116 rfl lk_En_79 lx_30 rfl (by simp [s_tb, g_up]) ?_
    exact ev_retI d_En_makeGraphs_119 (by first | rfl | omega | simp_all) rfl (Or.inl rfl)
theorem c_En_allEnd_e (d : Nat) (M : g_M)  (h0 : M 30 6 = 0) (h1 : M 30 7 = 0) : Con y_En_allEnd w_En_allEnd (g_rm (d + 1)) LX M [g_r 30] LX M (some (g_i 1)) := by
  refine con_of (av := [g_r 30]) (ls0 := [some (g_r 30), none, none]) (by decide) rfl (Nat.le_of_ble_eq_true rfl) (g_hls (av := [g_r 30]) (k := 2)) (fun _ h9 => List.mem_cons_of_mem _ h9) ?_
  refine ev_aload_n (i := 0) d_En_allEnd_0 rfl rfl rfl ?_
  refine ev_getI (z := 0) d_En_allEnd_1 rfl lk_En_82 lx_30 rfl (h1) ?_
  refine ev_if_eq_t (tgt := 9) d_En_allEnd_4 (by decide) (by decide) ?_
  refine ev_iconst d_En_allEnd_9 rfl ⟨by decide, by decide⟩ ?_
  refine ev_istore_n (i := 1) d_En_allEnd_10 rfl rfl (by decide) rfl ?_
  refine ev_iload_n (i := 1) d_En_allEnd_11 rfl rfl rfl ?_
  refine ev_aload_n (i := 0) d_En_allEnd_12 rfl rfl rfl ?_
  refine ev_getI (z := 0) d_En_allEnd_13 rfl lk_En_79 lx_30 rfl (h0) ?_
  refine ev_icmp_ge_t (tgt := 98) d_En_allEnd_16 (by decide) (by decide) ?_
  refine ev_iconst d_En_allEnd_98 rfl ⟨by decide, by decide⟩ ?_
  exact ev_retI d_En_allEnd_99 (by first | rfl | omega | simp_all) rfl (Or.inr ⟨rfl, by omega⟩)
theorem c_Fu_findWhatIsWrong_e (d : Nat) (M : g_M)  (h0 : M 1 4 = 0) (h1 : M 5 4 = 0) (h2 : M 19 7 = 0) : Con y_Fu_findWhatIsWrong w_Fu_findWhatIsWrong (g_rm (d + 3)) LX M [g_r 0] LX (g_up (s_tb (g_up (g_up (g_up M 0 9 0) 30 6 0) 30 7 0) 512) 0 9 0) (some (g_i 0)) := by
  refine con_of (av := [g_r 0]) (ls0 := [some (g_r 0)]) (by decide) rfl (Nat.le_of_ble_eq_true rfl) (g_hls (av := [g_r 0]) (k := 0)) (fun _ h9 => List.mem_cons_of_mem _ h9) ?_
  refine ev_aload_n (i := 0) d_Fu_findWhatIsWrong_0 rfl rfl rfl ?_
  refine ev_iconst d_Fu_findWhatIsWrong_1 rfl ⟨by decide, by decide⟩ ?_
  refine ev_putI d_Fu_findWhatIsWrong_2 rfl lk_Fu_146 fp_Fu_9 (Or.inl rfl) lx_0 rfl ?_
  refine ev_aload_n (i := 0) d_Fu_findWhatIsWrong_5 rfl rfl rfl ?_
  refine ev_getR d_Fu_findWhatIsWrong_6 rfl lk_Fu_42 lx_0 rfl ?_
  refine ev_callV (As := []) d_Fu_findWhatIsWrong_9 rfl cl_Fu_210 (c_Ty_allInhabited_e (d + 0) (g_up M 0 9 0) (by simp [g_up, h0]) (by simp [g_up, h1])) (g_hR (by decide)) g_h0 lx_25 rfl rfl (Nat.le_of_ble_eq_true rfl) rfl rfl ?_
  refine ev_if_ne_t (tgt := 17) d_Fu_findWhatIsWrong_12 (by decide) (by decide) ?_
  refine ev_aload_n (i := 0) d_Fu_findWhatIsWrong_17 rfl rfl rfl ?_
  refine ev_getR d_Fu_findWhatIsWrong_18 rfl lk_Fu_42 lx_0 rfl ?_
  refine ev_callV (As := []) d_Fu_findWhatIsWrong_21 rfl cl_Fu_213 (c_Ty_allTyped_e (d + 1) (g_up M 0 9 0) (by simp [g_up, h2])) (g_hR (by decide)) g_h0 lx_25 rfl rfl (Nat.le_of_ble_eq_true rfl) rfl rfl ?_
  refine ev_if_ne_t (tgt := 29) d_Fu_findWhatIsWrong_24 (by decide) (by decide) ?_
  refine ev_aload_n (i := 0) d_Fu_findWhatIsWrong_29 rfl rfl rfl ?_
  refine ev_getR d_Fu_findWhatIsWrong_30 rfl lk_Fu_49 lx_0 rfl ?_
  refine ev_callV (As := []) d_Fu_findWhatIsWrong_33 rfl cl_Fu_216 (c_Co_allCovered_e (d + 1) (g_up M 0 9 0) (by simp [g_up, h1])) (g_hR (by decide)) g_h0 lx_27 rfl rfl (Nat.le_of_ble_eq_true rfl) rfl rfl ?_
  refine ev_if_ne_t (tgt := 41) d_Fu_findWhatIsWrong_36 (by decide) (by decide) ?_
  refine ev_aload_n (i := 0) d_Fu_findWhatIsWrong_41 rfl rfl rfl ?_
  refine ev_aload_n (i := 0) d_Fu_findWhatIsWrong_42 rfl rfl rfl ?_
  refine ev_getR d_Fu_findWhatIsWrong_43 rfl lk_Fu_58 lx_0 rfl ?_
  refine ev_callV (As := []) d_Fu_findWhatIsWrong_46 rfl cl_Fu_219 (c_En_makeGraphs_e (d + 0) (g_up M 0 9 0) (by simp [g_up, h2])) (g_hR (by decide)) g_h0 lx_30 rfl rfl (Nat.le_of_ble_eq_true rfl) rfl rfl ?_
  refine ev_putI d_Fu_findWhatIsWrong_49 rfl lk_Fu_146 fp_Fu_9 (Or.inl rfl) lx_0 rfl ?_
  refine ev_aload_n (i := 0) d_Fu_findWhatIsWrong_52 rfl rfl rfl ?_
  refine ev_getR d_Fu_findWhatIsWrong_53 rfl lk_Fu_58 lx_0 rfl ?_
  refine ev_callV (As := []) d_Fu_findWhatIsWrong_56 rfl cl_Fu_222 (c_En_allEnd_e (d + 1) (g_up (s_tb (g_up (g_up (g_up M 0 9 0) 30 6 0) 30 7 0) 512) 0 9 0) (by simp [s_tb, g_up]) (by simp [s_tb, g_up])) (g_hR (by decide)) g_h0 lx_30 rfl rfl (Nat.le_of_ble_eq_true rfl) rfl rfl ?_
  refine ev_if_eq_f (tgt := 66) d_Fu_findWhatIsWrong_59 (by decide) rfl (by decide) ?_
  refine ev_iconst d_Fu_findWhatIsWrong_62 rfl ⟨by decide, by decide⟩ ?_
  refine ev_goto (tgt := 67) d_Fu_findWhatIsWrong_63 (by decide) ?_
  exact ev_retI d_Fu_findWhatIsWrong_67 (by first | rfl | omega | simp_all) rfl (Or.inl rfl)
theorem c_Fu_check_e (d : Nat) (M : g_M)  (hv : M 0 8 = -1) (h0 : M 1 4 = 0) (h1 : M 5 4 = 0) (h2 : M 19 7 = 0) : Con y_Fu_check w_Fu_check (g_rm (d + 4)) LX M [g_r 0] LX (g_up (g_up (s_tb (g_up (g_up (g_up M 0 9 0) 30 6 0) 30 7 0) 512) 0 9 0) 0 8 0) (some (g_i 0)) := by
  refine con_of (av := [g_r 0]) (ls0 := [some (g_r 0)]) (by decide) rfl (Nat.le_of_ble_eq_true rfl) (g_hls (av := [g_r 0]) (k := 0)) (fun _ h9 => List.mem_cons_of_mem _ h9) ?_
  refine ev_aload_n (i := 0) d_Fu_check_0 rfl rfl rfl ?_
  refine ev_getI (z := (-1)) d_Fu_check_1 rfl lk_Fu_69 lx_0 rfl (hv) ?_
  refine ev_iconst d_Fu_check_4 rfl ⟨by decide, by decide⟩ ?_
  refine ev_icmp_ne_f (tgt := 16) d_Fu_check_5 (by decide) rfl (by decide) ?_
  refine ev_aload_n (i := 0) d_Fu_check_8 rfl rfl rfl ?_
  refine ev_aload_n (i := 0) d_Fu_check_9 rfl rfl rfl ?_
  refine ev_callV (As := []) d_Fu_check_10 rfl cl_Fu_142 (c_Fu_findWhatIsWrong_e (d + 0) M h0 h1 h2) (g_hR (by decide)) g_h0 lx_0 rfl rfl (Nat.le_of_ble_eq_true rfl) rfl rfl ?_
  refine ev_putI d_Fu_check_13 rfl lk_Fu_69 fp_Fu_8 (Or.inl rfl) lx_0 rfl ?_
  refine ev_aload_n (i := 0) d_Fu_check_16 rfl rfl rfl ?_
  refine ev_getI (z := 0) d_Fu_check_17 rfl lk_Fu_69 lx_0 rfl (by simp [g_up]) ?_
  exact ev_retI d_Fu_check_20 (by first | rfl | omega | simp_all) rfl (Or.inl rfl)
theorem c_Mo_allInhabited_e (d : Nat) (M : g_M)  (h0 : M 45 0 = 0) (h1 : M 45 4 = 0) : Con y_Mo_allInhabited w_Mo_allInhabited (g_rm (d + 1)) LX M [g_r 45] LX (g_up (g_up (g_up M 66 0 0) 66 1 0) 66 2 0) (some (g_i 1)) := by
  refine con_of (av := [g_r 45]) (ls0 := [some (g_r 45), none, none, none, none]) (by decide) rfl (Nat.le_of_ble_eq_true rfl) (g_hls (av := [g_r 45]) (k := 4)) (fun _ h9 => List.mem_cons_of_mem _ h9) ?_
  refine ev_iconst d_Mo_allInhabited_0 rfl ⟨by decide, by decide⟩ ?_
  refine ev_istore_n (i := 1) d_Mo_allInhabited_1 rfl rfl (by decide) rfl ?_
  refine ev_iload_n (i := 1) d_Mo_allInhabited_2 rfl rfl rfl ?_
  refine ev_iconst d_Mo_allInhabited_3 rfl ⟨by decide, by decide⟩ ?_
  refine ev_icmp_ge_f (tgt := 20) d_Mo_allInhabited_4 (by decide) rfl (by decide) ?_
  refine ev_aload_n (i := 0) d_Mo_allInhabited_7 rfl rfl rfl ?_
  refine ev_getR d_Mo_allInhabited_8 rfl lk_Mo_71 lx_45 rfl ?_
  refine ev_iload_n (i := 1) d_Mo_allInhabited_11 rfl rfl rfl ?_
  refine ev_iconst d_Mo_allInhabited_12 rfl ⟨by decide, by decide⟩ ?_
  refine ev_bastore d_Mo_allInhabited_13 rfl lx_66 (by omega) (by omega) (by omega) ?_
  rw [show Int.toNat (0) = 0 by rfl]
  refine ev_iinc (z := 1) d_Mo_allInhabited_14 rfl rfl (by decide) (by decide +kernel) rfl ?_
  refine ev_goto (tgt := 2) d_Mo_allInhabited_17 (by decide) ?_
  refine ev_iload_n (i := 1) d_Mo_allInhabited_2 rfl rfl rfl ?_
  refine ev_iconst d_Mo_allInhabited_3 rfl ⟨by decide, by decide⟩ ?_
  refine ev_icmp_ge_f (tgt := 20) d_Mo_allInhabited_4 (by decide) rfl (by decide) ?_
  refine ev_aload_n (i := 0) d_Mo_allInhabited_7 rfl rfl rfl ?_
  refine ev_getR d_Mo_allInhabited_8 rfl lk_Mo_71 lx_45 rfl ?_
  refine ev_iload_n (i := 1) d_Mo_allInhabited_11 rfl rfl rfl ?_
  refine ev_iconst d_Mo_allInhabited_12 rfl ⟨by decide, by decide⟩ ?_
  refine ev_bastore d_Mo_allInhabited_13 rfl lx_66 (by omega) (by omega) (by omega) ?_
  rw [show Int.toNat (1) = 1 by rfl]
  refine ev_iinc (z := 2) d_Mo_allInhabited_14 rfl rfl (by decide) (by decide +kernel) rfl ?_
  refine ev_goto (tgt := 2) d_Mo_allInhabited_17 (by decide) ?_
  refine ev_iload_n (i := 1) d_Mo_allInhabited_2 rfl rfl rfl ?_
  refine ev_iconst d_Mo_allInhabited_3 rfl ⟨by decide, by decide⟩ ?_
  refine ev_icmp_ge_f (tgt := 20) d_Mo_allInhabited_4 (by decide) rfl (by decide) ?_
  refine ev_aload_n (i := 0) d_Mo_allInhabited_7 rfl rfl rfl ?_
  refine ev_getR d_Mo_allInhabited_8 rfl lk_Mo_71 lx_45 rfl ?_
  refine ev_iload_n (i := 1) d_Mo_allInhabited_11 rfl rfl rfl ?_
  refine ev_iconst d_Mo_allInhabited_12 rfl ⟨by decide, by decide⟩ ?_
  refine ev_bastore d_Mo_allInhabited_13 rfl lx_66 (by omega) (by omega) (by omega) ?_
  rw [show Int.toNat (2) = 2 by rfl]
  refine ev_iinc (z := 3) d_Mo_allInhabited_14 rfl rfl (by decide) (by decide +kernel) rfl ?_
  refine ev_goto (tgt := 2) d_Mo_allInhabited_17 (by decide) ?_
  refine ev_iload_n (i := 1) d_Mo_allInhabited_2 rfl rfl rfl ?_
  refine ev_iconst d_Mo_allInhabited_3 rfl ⟨by decide, by decide⟩ ?_
  refine ev_icmp_ge_t (tgt := 20) d_Mo_allInhabited_4 (by decide) (by decide) ?_
  refine ev_iconst d_Mo_allInhabited_20 rfl ⟨by decide, by decide⟩ ?_
  refine ev_istore_n (i := 1) d_Mo_allInhabited_21 rfl rfl (by decide) rfl ?_
  refine ev_iload_n (i := 1) d_Mo_allInhabited_22 rfl rfl rfl ?_
  refine ev_iconst d_Mo_allInhabited_23 rfl ⟨by decide, by decide⟩ ?_
  refine ev_icmp_ge_f (tgt := 134) d_Mo_allInhabited_24 (by decide) rfl (by decide) ?_
  refine ev_iconst d_Mo_allInhabited_27 rfl ⟨by decide, by decide⟩ ?_
  refine ev_istore_n (i := 2) d_Mo_allInhabited_28 rfl rfl (by decide) rfl ?_
  refine ev_iload_n (i := 2) d_Mo_allInhabited_29 rfl rfl rfl ?_
  refine ev_aload_n (i := 0) d_Mo_allInhabited_30 rfl rfl rfl ?_
  refine ev_getI (z := 0) d_Mo_allInhabited_31 rfl lk_Mo_116 lx_45 rfl (by simp [g_up, h0]) ?_
  refine ev_icmp_ge_t (tgt := 128) d_Mo_allInhabited_34 (by decide) (by decide) ?_
  refine ev_iinc (z := 1) d_Mo_allInhabited_128 rfl rfl (by decide) (by decide +kernel) rfl ?_
  refine ev_goto (tgt := 22) d_Mo_allInhabited_131 (by decide) ?_
  refine ev_iload_n (i := 1) d_Mo_allInhabited_22 rfl rfl rfl ?_
  refine ev_iconst d_Mo_allInhabited_23 rfl ⟨by decide, by decide⟩ ?_
  refine ev_icmp_ge_f (tgt := 134) d_Mo_allInhabited_24 (by decide) rfl (by decide) ?_
  refine ev_iconst d_Mo_allInhabited_27 rfl ⟨by decide, by decide⟩ ?_
  refine ev_istore_n (i := 2) d_Mo_allInhabited_28 rfl rfl (by decide) rfl ?_
  refine ev_iload_n (i := 2) d_Mo_allInhabited_29 rfl rfl rfl ?_
  refine ev_aload_n (i := 0) d_Mo_allInhabited_30 rfl rfl rfl ?_
  refine ev_getI (z := 0) d_Mo_allInhabited_31 rfl lk_Mo_116 lx_45 rfl (by simp [g_up, h0]) ?_
  refine ev_icmp_ge_t (tgt := 128) d_Mo_allInhabited_34 (by decide) (by decide) ?_
  refine ev_iinc (z := 2) d_Mo_allInhabited_128 rfl rfl (by decide) (by decide +kernel) rfl ?_
  refine ev_goto (tgt := 22) d_Mo_allInhabited_131 (by decide) ?_
  refine ev_iload_n (i := 1) d_Mo_allInhabited_22 rfl rfl rfl ?_
  refine ev_iconst d_Mo_allInhabited_23 rfl ⟨by decide, by decide⟩ ?_
  refine ev_icmp_ge_f (tgt := 134) d_Mo_allInhabited_24 (by decide) rfl (by decide) ?_
  refine ev_iconst d_Mo_allInhabited_27 rfl ⟨by decide, by decide⟩ ?_
  refine ev_istore_n (i := 2) d_Mo_allInhabited_28 rfl rfl (by decide) rfl ?_
  refine ev_iload_n (i := 2) d_Mo_allInhabited_29 rfl rfl rfl ?_
  refine ev_aload_n (i := 0) d_Mo_allInhabited_30 rfl rfl rfl ?_
  refine ev_getI (z := 0) d_Mo_allInhabited_31 rfl lk_Mo_116 lx_45 rfl (by simp [g_up, h0]) ?_
  refine ev_icmp_ge_t (tgt := 128) d_Mo_allInhabited_34 (by decide) (by decide) ?_
  refine ev_iinc (z := 3) d_Mo_allInhabited_128 rfl rfl (by decide) (by decide +kernel) rfl ?_
  refine ev_goto (tgt := 22) d_Mo_allInhabited_131 (by decide) ?_
  refine ev_iload_n (i := 1) d_Mo_allInhabited_22 rfl rfl rfl ?_
  refine ev_iconst d_Mo_allInhabited_23 rfl ⟨by decide, by decide⟩ ?_
  refine ev_icmp_ge_t (tgt := 134) d_Mo_allInhabited_24 (by decide) (by decide) ?_
  refine ev_iconst d_Mo_allInhabited_134 rfl ⟨by decide, by decide⟩ ?_
  refine ev_istore_n (i := 1) d_Mo_allInhabited_135 rfl rfl (by decide) rfl ?_
  refine ev_iconst d_Mo_allInhabited_136 rfl ⟨by decide, by decide⟩ ?_
  refine ev_istore_n (i := 2) d_Mo_allInhabited_137 rfl rfl (by decide) rfl ?_
  refine ev_iload_n (i := 2) d_Mo_allInhabited_138 rfl rfl rfl ?_
  refine ev_aload_n (i := 0) d_Mo_allInhabited_139 rfl rfl rfl ?_
  refine ev_getI (z := 0) d_Mo_allInhabited_140 rfl lk_Mo_116 lx_45 rfl (by simp [g_up, h0]) ?_
  refine ev_icmp_ge_t (tgt := 222) d_Mo_allInhabited_143 (by decide) (by decide) ?_
  refine ev_iconst d_Mo_allInhabited_222 rfl ⟨by decide, by decide⟩ ?_
  refine ev_istore_n (i := 2) d_Mo_allInhabited_223 rfl rfl (by decide) rfl ?_
  refine ev_iload_n (i := 2) d_Mo_allInhabited_224 rfl rfl rfl ?_
  refine ev_aload_n (i := 0) d_Mo_allInhabited_225 rfl rfl rfl ?_
  refine ev_getI (z := 0) d_Mo_allInhabited_226 rfl lk_Mo_127 lx_45 rfl (by simp [g_up, h1]) ?_
  refine ev_icmp_ge_t (tgt := 308) d_Mo_allInhabited_229 (by decide) (by decide) ?_
  refine ev_iload_n (i := 1) d_Mo_allInhabited_308 rfl rfl rfl ?_
  exact ev_retI d_Mo_allInhabited_309 (by first | rfl | omega | simp_all) rfl (Or.inr ⟨rfl, by omega⟩)
theorem c_Mo_allTyped_e (d : Nat) (M : g_M)  (h0 : M 45 13 = 0) : Con y_Mo_allTyped w_Mo_allTyped (g_rm (d + 1)) LX M [g_r 45] LX M (some (g_i 1)) := by
  refine con_of (av := [g_r 45]) (ls0 := [some (g_r 45), none, none, none]) (by decide) rfl (Nat.le_of_ble_eq_true rfl) (g_hls (av := [g_r 45]) (k := 3)) (fun _ h9 => List.mem_cons_of_mem _ h9) ?_
  refine ev_iconst d_Mo_allTyped_0 rfl ⟨by decide, by decide⟩ ?_
  refine ev_istore_n (i := 1) d_Mo_allTyped_1 rfl rfl (by decide) rfl ?_
  refine ev_iload_n (i := 1) d_Mo_allTyped_2 rfl rfl rfl ?_
  refine ev_aload_n (i := 0) d_Mo_allTyped_3 rfl rfl rfl ?_
  refine ev_getI (z := 0) d_Mo_allTyped_4 rfl lk_Mo_166 lx_45 rfl (h0) ?_
  refine ev_icmp_ge_t (tgt := 93) d_Mo_allTyped_7 (by decide) (by decide) ?_
  refine ev_iconst d_Mo_allTyped_93 rfl ⟨by decide, by decide⟩ ?_
  exact ev_retI d_Mo_allTyped_94 (by first | rfl | omega | simp_all) rfl (Or.inr ⟨rfl, by omega⟩)
theorem c_Mo_callGraphs_e (d : Nat) (M : g_M)  (h0 : M 45 13 = 0) : Con y_Mo_callGraphs w_Mo_callGraphs (g_rm (d + 1)) LX M [g_r 45] LX (g_up M 45 18 0) none := by
  refine con_of (av := [g_r 45]) (ls0 := [some (g_r 45), none, none, none, none, none, none, none]) (by decide) rfl (Nat.le_of_ble_eq_true rfl) (g_hls (av := [g_r 45]) (k := 7)) (fun _ h9 => List.mem_cons_of_mem _ h9) ?_
  refine ev_aload_n (i := 0) d_Mo_callGraphs_0 rfl rfl rfl ?_
  refine ev_iconst d_Mo_callGraphs_1 rfl ⟨by decide, by decide⟩ ?_
  refine ev_putI d_Mo_callGraphs_2 rfl lk_Mo_192 fp_Mo_18 (Or.inl rfl) lx_45 rfl ?_
  refine ev_iconst d_Mo_callGraphs_5 rfl ⟨by decide, by decide⟩ ?_
  refine ev_istore_n (i := 1) d_Mo_callGraphs_6 rfl rfl (by decide) rfl ?_
  refine ev_iload_n (i := 1) d_Mo_callGraphs_7 rfl rfl rfl ?_
  refine ev_aload_n (i := 0) d_Mo_callGraphs_8 rfl rfl rfl ?_
  refine ev_getI (z := 0) d_Mo_callGraphs_9 rfl lk_Mo_166 lx_45 rfl (by simp [g_up, h0]) ?_
  refine ev_icmp_ge_t (tgt := 146) d_Mo_callGraphs_12 (by decide) (by decide) ?_
  exact ev_retV d_Mo_callGraphs_146 rfl
theorem c_Mo_isEnding_e (d : Nat) (M : g_M)  (h0 : M 45 13 = 0) : Con y_Mo_isEnding w_Mo_isEnding (g_rm (d + 2)) LX M [g_r 45] LX (g_up M 45 18 0) (some (g_i 1)) := by
  refine con_of (av := [g_r 45]) (ls0 := [some (g_r 45), none, none, none]) (by decide) rfl (Nat.le_of_ble_eq_true rfl) (g_hls (av := [g_r 45]) (k := 3)) (fun _ h9 => List.mem_cons_of_mem _ h9) ?_
  refine ev_aload_n (i := 0) d_Mo_isEnding_0 rfl rfl rfl ?_
  refine ev_callV (As := []) d_Mo_isEnding_1 rfl cl_Mo_209 (c_Mo_callGraphs_e (d + 0) M h0) (g_hR (by decide)) g_h0 lx_45 rfl rfl (Nat.le_of_ble_eq_true rfl) rfl rfl ?_
  refine ev_iconst d_Mo_isEnding_4 rfl ⟨by decide, by decide⟩ ?_
  refine ev_istore_n (i := 1) d_Mo_isEnding_5 rfl rfl (by decide) rfl ?_
  refine ev_iload_n (i := 1) d_Mo_isEnding_6 rfl rfl rfl ?_
  refine ev_aload_n (i := 0) d_Mo_isEnding_7 rfl rfl rfl ?_
  refine ev_getI (z := 0) d_Mo_isEnding_8 rfl lk_Mo_192 lx_45 rfl (by simp [g_up]) ?_
  refine ev_icmp_ge_t (tgt := 145) d_Mo_isEnding_11 (by decide) (by decide) ?_
  refine ev_aload_n (i := 0) d_Mo_isEnding_145 rfl rfl rfl ?_
  refine ev_getI (z := 0) d_Mo_isEnding_146 rfl lk_Mo_192 lx_45 rfl (by simp [g_up]) ?_
  refine ev_sipush d_Mo_isEnding_149 rfl (by decide +kernel) ⟨by decide, by decide⟩ ?_
  refine ev_icmp_ge_f (tgt := 159) d_Mo_isEnding_152 (by decide) rfl (by decide) ?_
  refine ev_iconst d_Mo_isEnding_155 rfl ⟨by decide, by decide⟩ ?_
  refine ev_goto (tgt := 160) d_Mo_isEnding_156 (by decide) ?_
  refine ev_istore_n (i := 1) d_Mo_isEnding_160 rfl rfl (by decide) rfl ?_
  refine ev_iconst d_Mo_isEnding_161 rfl ⟨by decide, by decide⟩ ?_
  refine ev_istore_n (i := 2) d_Mo_isEnding_162 rfl rfl (by decide) rfl ?_
  refine ev_iload_n (i := 2) d_Mo_isEnding_163 rfl rfl rfl ?_
  refine ev_aload_n (i := 0) d_Mo_isEnding_164 rfl rfl rfl ?_
  refine ev_getI (z := 0) d_Mo_isEnding_165 rfl lk_Mo_192 lx_45 rfl (by simp [g_up]) ?_
  refine ev_icmp_ge_t (tgt := 248) d_Mo_isEnding_168 (by decide) (by decide) ?_
  refine ev_iload_n (i := 1) d_Mo_isEnding_248 rfl rfl rfl ?_
  exact ev_retI d_Mo_isEnding_249 (by first | rfl | omega | simp_all) rfl (Or.inr ⟨rfl, by omega⟩)
theorem c_Mo_check_e (d : Nat) (M : g_M)  (h0 : M 45 0 = 0) (h1 : M 45 4 = 0) (h2 : M 45 13 = 0) : Con y_Mo_check w_Mo_check (g_rm (d + 3)) LX M [g_r 45] LX (g_up (g_up (g_up (g_up (g_up (g_up (g_up M 45 44 0) 45 18 0) 66 0 0) 66 1 0) 66 2 0) 45 18 0) 45 17 1) (some (g_i 0)) := by
  refine con_of (av := [g_r 45]) (ls0 := [some (g_r 45), none, none]) (by decide) rfl (Nat.le_of_ble_eq_true rfl) (g_hls (av := [g_r 45]) (k := 2)) (fun _ h9 => List.mem_cons_of_mem _ h9) ?_
  refine ev_aload_n (i := 0) d_Mo_check_0 rfl rfl rfl ?_
  refine ev_iconst d_Mo_check_1 rfl ⟨by decide, by decide⟩ ?_
  refine ev_putI d_Mo_check_2 rfl lk_Mo_104 fp_Mo_44 (Or.inl rfl) lx_45 rfl ?_
  refine ev_aload_n (i := 0) d_Mo_check_5 rfl rfl rfl ?_
  refine ev_iconst d_Mo_check_6 rfl ⟨by decide, by decide⟩ ?_
  refine ev_putI d_Mo_check_7 rfl lk_Mo_192 fp_Mo_18 (Or.inl rfl) lx_45 rfl ?_
  refine ev_aload_n (i := 0) d_Mo_check_10 rfl rfl rfl ?_
  refine ev_callV (As := []) d_Mo_check_11 rfl cl_Mo_215 (c_Mo_allInhabited_e (d + 1) (g_up (g_up M 45 44 0) 45 18 0) (by simp [g_up, h0]) (by simp [g_up, h1])) (g_hR (by decide)) g_h0 lx_45 rfl rfl (Nat.le_of_ble_eq_true rfl) rfl rfl ?_
  refine ev_if_ne_t (tgt := 21) d_Mo_check_14 (by decide) (by decide) ?_
  refine ev_aload_n (i := 0) d_Mo_check_21 rfl rfl rfl ?_
  refine ev_callV (As := []) d_Mo_check_22 rfl cl_Mo_219 (c_Mo_allTyped_e (d + 1) (g_up (g_up (g_up (g_up (g_up M 45 44 0) 45 18 0) 66 0 0) 66 1 0) 66 2 0) (by simp [g_up, h2])) (g_hR (by decide)) g_h0 lx_45 rfl rfl (Nat.le_of_ble_eq_true rfl) rfl rfl ?_
  refine ev_if_ne_t (tgt := 32) d_Mo_check_25 (by decide) (by decide) ?_
  refine ev_iconst d_Mo_check_32 rfl ⟨by decide, by decide⟩ ?_
  refine ev_istore_n (i := 1) d_Mo_check_33 rfl rfl (by decide) rfl ?_
  refine ev_iconst d_Mo_check_34 rfl ⟨by decide, by decide⟩ ?_
  refine ev_istore_n (i := 2) d_Mo_check_35 rfl rfl (by decide) rfl ?_
  refine ev_iload_n (i := 2) d_Mo_check_36 rfl rfl rfl ?_
  refine ev_aload_n (i := 0) d_Mo_check_37 rfl rfl rfl ?_
  refine ev_getI (z := 0) d_Mo_check_38 rfl lk_Mo_127 lx_45 rfl (by simp [g_up, h1]) ?_
  refine ev_icmp_ge_t (tgt := 68) d_Mo_check_41 (by decide) (by decide) ?_
  refine ev_iload_n (i := 1) d_Mo_check_68 rfl rfl rfl ?_
  refine ev_if_ne_f (tgt := 83) d_Mo_check_69 (by decide) rfl (by decide) ?_
  refine ev_aload_n (i := 0) d_Mo_check_72 rfl rfl rfl ?_
  refine ev_callV (As := []) d_Mo_check_73 rfl cl_Mo_225 (c_Mo_isEnding_e (d + 0) (g_up (g_up (g_up (g_up (g_up M 45 44 0) 45 18 0) 66 0 0) 66 1 0) 66 2 0) (by simp [g_up, h2])) (g_hR (by decide)) g_h0 lx_45 rfl rfl (Nat.le_of_ble_eq_true rfl) rfl rfl ?_
  refine ev_if_ne_t (tgt := 83) d_Mo_check_76 (by decide) (by decide) ?_
  refine ev_iload_n (i := 1) d_Mo_check_83 rfl rfl rfl ?_
  refine ev_istore_n (i := 1) d_Mo_check_84 rfl rfl (by decide) rfl ?_
  refine ev_aload_n (i := 0) d_Mo_check_85 rfl rfl rfl ?_
  refine ev_iload_n (i := 1) d_Mo_check_86 rfl rfl rfl ?_
  refine ev_if_ne_f (tgt := 94) d_Mo_check_87 (by decide) rfl (by decide) ?_
  refine ev_iconst d_Mo_check_90 rfl ⟨by decide, by decide⟩ ?_
  refine ev_goto (tgt := 95) d_Mo_check_91 (by decide) ?_
  refine ev_putI d_Mo_check_95 rfl lk_Mo_123 fp_Mo_17 (Or.inr ⟨rfl, by omega⟩) lx_45 rfl ?_
  refine ev_iload_n (i := 1) d_Mo_check_98 rfl rfl rfl ?_
  exact ev_retI d_Mo_check_99 (by first | rfl | omega | simp_all) rfl (Or.inl rfl)
