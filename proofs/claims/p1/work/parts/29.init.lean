set_option maxRecDepth 100000 in
theorem c_Sg_init_1 (d : Nat) : Con y_Sg_init w_Sg_init (g_ra (d + 1) 3 40) la_2 mm_0 [g_r 1, g_i 8] la_8 mm_1 none := by
  refine con_of (av := [g_r 1, g_i 8]) (ls0 := [some (g_r 1), some (g_i 8)]) (by decide) rfl (Nat.le_of_ble_eq_true rfl) (g_hls (av := [g_r 1, g_i 8]) (k := 0)) (fun _ h9 => List.mem_cons_of_mem _ h9) ?_
  refine ev_aload_n (i := 0) d_Sg_init_0 rfl rfl rfl ?_
  refine ev_objInit d_Sg_init_1 rfl gm_25 gm_18 gm_19 ⟨by show 1 ≤ _ + 1; omega, by show _ ≤ 40 * (_ + 1); simp [g_cw, g_nj]; omega⟩ ?_
  refine ev_aload_n (i := 0) d_Sg_init_4 rfl rfl rfl ?_
  refine ev_iload_n (i := 1) d_Sg_init_5 rfl rfl rfl ?_
  refine ev_putFI d_Sg_init_6 rfl lk_Sg_9 fp_Sg_0 rfl rfl lz_2_1 rfl ?_
  change Ev _ _ _ _ _ _ _ mm_1 _ _
  refine ev_aload_n (i := 0) d_Sg_init_9 rfl rfl rfl ?_
  refine ev_iload_n (i := 1) d_Sg_init_10 rfl rfl rfl ?_
  refine ev_cArr0 (m := 8) (k0 := 2) (L' := la_3) d_Sg_init_11 rfl gm_36 rfl (by decide) rfl (fun _ => rfl) rfl ⟨Nat.le_of_ble_eq_true rfl, Nat.le_of_ble_eq_true rfl⟩ (nc' := 1) (ns' := 8) rfl rfl ?_
  refine ev_putFR (L' := la_4) d_Sg_init_13 rfl lk_Sg_15 fp_Sg_1 rfl rfl (Or.inr ⟨_, rfl⟩) lz_3_1 (by decide) rfl ?_
  refine ev_aload_n (i := 0) d_Sg_init_16 rfl rfl rfl ?_
  refine ev_iload_n (i := 1) d_Sg_init_17 rfl rfl rfl ?_
  refine ev_cArr0 (m := 8) (k0 := 3) (L' := la_5) d_Sg_init_18 rfl gm_36 rfl (by decide) rfl (fun _ => rfl) rfl ⟨Nat.le_of_ble_eq_true rfl, Nat.le_of_ble_eq_true rfl⟩ (nc' := 2) (ns' := 16) rfl rfl ?_
  refine ev_putFR (L' := la_6) d_Sg_init_20 rfl lk_Sg_19 fp_Sg_2 rfl rfl (Or.inr ⟨_, rfl⟩) lz_5_1 (by decide) rfl ?_
  refine ev_aload_n (i := 0) d_Sg_init_23 rfl rfl rfl ?_
  refine ev_iload_n (i := 1) d_Sg_init_24 rfl rfl rfl ?_
  refine ev_iconst d_Sg_init_25 rfl ⟨by decide, by decide⟩ ?_
  refine ev_imul (z := 24) d_Sg_init_26 rfl (by decide +kernel) ?_
  refine ev_cArr0 (m := 24) (k0 := 4) (L' := la_7) d_Sg_init_27 rfl gm_36 rfl (by decide) rfl (fun _ => rfl) rfl ⟨Nat.le_of_ble_eq_true rfl, Nat.le_of_ble_eq_true rfl⟩ (nc' := 3) (ns' := 40) rfl rfl ?_
  refine ev_putFR (L' := la_8) d_Sg_init_29 rfl lk_Sg_22 fp_Sg_3 rfl rfl (Or.inr ⟨_, rfl⟩) lz_7_1 (by decide) rfl ?_
  exact ev_retV d_Sg_init_32 rfl
set_option maxRecDepth 100000 in
theorem c_Sg_init_5 (d : Nat) : Con y_Sg_init w_Sg_init (g_ra (d + 1) 3 30) la_10 mm_1 [g_r 5, g_i 6] la_16 mm_2 none := by
  refine con_of (av := [g_r 5, g_i 6]) (ls0 := [some (g_r 5), some (g_i 6)]) (by decide) rfl (Nat.le_of_ble_eq_true rfl) (g_hls (av := [g_r 5, g_i 6]) (k := 0)) (fun _ h9 => List.mem_cons_of_mem _ h9) ?_
  refine ev_aload_n (i := 0) d_Sg_init_0 rfl rfl rfl ?_
  refine ev_objInit d_Sg_init_1 rfl gm_25 gm_18 gm_19 ⟨by show 1 ≤ _ + 1; omega, by show _ ≤ 40 * (_ + 1); simp [g_cw, g_nj]; omega⟩ ?_
  refine ev_aload_n (i := 0) d_Sg_init_4 rfl rfl rfl ?_
  refine ev_iload_n (i := 1) d_Sg_init_5 rfl rfl rfl ?_
  refine ev_putFI d_Sg_init_6 rfl lk_Sg_9 fp_Sg_0 rfl rfl lz_10_5 rfl ?_
  change Ev _ _ _ _ _ _ _ mm_2 _ _
  refine ev_aload_n (i := 0) d_Sg_init_9 rfl rfl rfl ?_
  refine ev_iload_n (i := 1) d_Sg_init_10 rfl rfl rfl ?_
  refine ev_cArr0 (m := 6) (k0 := 6) (L' := la_11) d_Sg_init_11 rfl gm_36 rfl (by decide) rfl (fun _ => rfl) rfl ⟨Nat.le_of_ble_eq_true rfl, Nat.le_of_ble_eq_true rfl⟩ (nc' := 1) (ns' := 6) rfl rfl ?_
  refine ev_putFR (L' := la_12) d_Sg_init_13 rfl lk_Sg_15 fp_Sg_1 rfl rfl (Or.inr ⟨_, rfl⟩) lz_11_5 (by decide) rfl ?_
  refine ev_aload_n (i := 0) d_Sg_init_16 rfl rfl rfl ?_
  refine ev_iload_n (i := 1) d_Sg_init_17 rfl rfl rfl ?_
  refine ev_cArr0 (m := 6) (k0 := 7) (L' := la_13) d_Sg_init_18 rfl gm_36 rfl (by decide) rfl (fun _ => rfl) rfl ⟨Nat.le_of_ble_eq_true rfl, Nat.le_of_ble_eq_true rfl⟩ (nc' := 2) (ns' := 12) rfl rfl ?_
  refine ev_putFR (L' := la_14) d_Sg_init_20 rfl lk_Sg_19 fp_Sg_2 rfl rfl (Or.inr ⟨_, rfl⟩) lz_13_5 (by decide) rfl ?_
  refine ev_aload_n (i := 0) d_Sg_init_23 rfl rfl rfl ?_
  refine ev_iload_n (i := 1) d_Sg_init_24 rfl rfl rfl ?_
  refine ev_iconst d_Sg_init_25 rfl ⟨by decide, by decide⟩ ?_
  refine ev_imul (z := 18) d_Sg_init_26 rfl (by decide +kernel) ?_
  refine ev_cArr0 (m := 18) (k0 := 8) (L' := la_15) d_Sg_init_27 rfl gm_36 rfl (by decide) rfl (fun _ => rfl) rfl ⟨Nat.le_of_ble_eq_true rfl, Nat.le_of_ble_eq_true rfl⟩ (nc' := 3) (ns' := 30) rfl rfl ?_
  refine ev_putFR (L' := la_16) d_Sg_init_29 rfl lk_Sg_22 fp_Sg_3 rfl rfl (Or.inr ⟨_, rfl⟩) lz_15_5 (by decide) rfl ?_
  exact ev_retV d_Sg_init_32 rfl
set_option maxRecDepth 100000 in
theorem c_Te_init_9 (d : Nat) : Con y_Te_init w_Te_init (g_ra (d + 1) 9 1100) la_18 mm_2 [g_r 9] la_36 mm_2 none := by
  refine con_of (av := [g_r 9]) (ls0 := [some (g_r 9)]) (by decide) rfl (Nat.le_of_ble_eq_true rfl) (g_hls (av := [g_r 9]) (k := 0)) (fun _ h9 => List.mem_cons_of_mem _ h9) ?_
  refine ev_aload_n (i := 0) d_Te_init_0 rfl rfl rfl ?_
  refine ev_objInit d_Te_init_1 rfl gm_42 gm_18 gm_19 ⟨by show 1 ≤ _ + 1; omega, by show _ ≤ 40 * (_ + 1); simp [g_cw, g_nj]; omega⟩ ?_
  refine ev_aload_n (i := 0) d_Te_init_4 rfl rfl rfl ?_
  refine ev_bipush d_Te_init_5 rfl (by decide +kernel) ⟨by decide, by decide⟩ ?_
  refine ev_cArr0 (m := 100) (k0 := 10) (L' := la_19) d_Te_init_7 rfl gm_36 rfl (by decide) rfl (fun _ => rfl) rfl ⟨Nat.le_of_ble_eq_true rfl, Nat.le_of_ble_eq_true rfl⟩ (nc' := 1) (ns' := 100) rfl rfl ?_
  refine ev_putFR (L' := la_20) d_Te_init_9 rfl lk_Te_9 fp_Te_0 rfl rfl (Or.inr ⟨_, rfl⟩) lz_19_9 (by decide) rfl ?_
  refine ev_aload_n (i := 0) d_Te_init_12 rfl rfl rfl ?_
  refine ev_bipush d_Te_init_13 rfl (by decide +kernel) ⟨by decide, by decide⟩ ?_
  refine ev_cArr0 (m := 100) (k0 := 11) (L' := la_21) d_Te_init_15 rfl gm_36 rfl (by decide) rfl (fun _ => rfl) rfl ⟨Nat.le_of_ble_eq_true rfl, Nat.le_of_ble_eq_true rfl⟩ (nc' := 2) (ns' := 200) rfl rfl ?_
  refine ev_putFR (L' := la_22) d_Te_init_17 rfl lk_Te_15 fp_Te_1 rfl rfl (Or.inr ⟨_, rfl⟩) lz_21_9 (by decide) rfl ?_
  refine ev_aload_n (i := 0) d_Te_init_20 rfl rfl rfl ?_
  refine ev_bipush d_Te_init_21 rfl (by decide +kernel) ⟨by decide, by decide⟩ ?_
  refine ev_cArr0 (m := 100) (k0 := 12) (L' := la_23) d_Te_init_23 rfl gm_36 rfl (by decide) rfl (fun _ => rfl) rfl ⟨Nat.le_of_ble_eq_true rfl, Nat.le_of_ble_eq_true rfl⟩ (nc' := 3) (ns' := 300) rfl rfl ?_
  refine ev_putFR (L' := la_24) d_Te_init_25 rfl lk_Te_18 fp_Te_2 rfl rfl (Or.inr ⟨_, rfl⟩) lz_23_9 (by decide) rfl ?_
  refine ev_aload_n (i := 0) d_Te_init_28 rfl rfl rfl ?_
  refine ev_sipush d_Te_init_29 rfl (by decide +kernel) ⟨by decide, by decide⟩ ?_
  refine ev_cArr0 (m := 300) (k0 := 13) (L' := la_25) d_Te_init_32 rfl gm_36 rfl (by decide) rfl (fun _ => rfl) rfl ⟨Nat.le_of_ble_eq_true rfl, Nat.le_of_ble_eq_true rfl⟩ (nc' := 4) (ns' := 600) rfl rfl ?_
  refine ev_putFR (L' := la_26) d_Te_init_34 rfl lk_Te_21 fp_Te_3 rfl rfl (Or.inr ⟨_, rfl⟩) lz_25_9 (by decide) rfl ?_
  refine ev_aload_n (i := 0) d_Te_init_37 rfl rfl rfl ?_
  refine ev_bipush d_Te_init_38 rfl (by decide +kernel) ⟨by decide, by decide⟩ ?_
  refine ev_cArr0 (m := 100) (k0 := 14) (L' := la_27) d_Te_init_40 rfl gm_36 rfl (by decide) rfl (fun _ => rfl) rfl ⟨Nat.le_of_ble_eq_true rfl, Nat.le_of_ble_eq_true rfl⟩ (nc' := 5) (ns' := 700) rfl rfl ?_
  refine ev_putFR (L' := la_28) d_Te_init_42 rfl lk_Te_24 fp_Te_4 rfl rfl (Or.inr ⟨_, rfl⟩) lz_27_9 (by decide) rfl ?_
  refine ev_aload_n (i := 0) d_Te_init_45 rfl rfl rfl ?_
  refine ev_bipush d_Te_init_46 rfl (by decide +kernel) ⟨by decide, by decide⟩ ?_
  refine ev_cArr0 (m := 100) (k0 := 15) (L' := la_29) d_Te_init_48 rfl gm_36 rfl (by decide) rfl (fun _ => rfl) rfl ⟨Nat.le_of_ble_eq_true rfl, Nat.le_of_ble_eq_true rfl⟩ (nc' := 6) (ns' := 800) rfl rfl ?_
  refine ev_putFR (L' := la_30) d_Te_init_50 rfl lk_Te_27 fp_Te_5 rfl rfl (Or.inr ⟨_, rfl⟩) lz_29_9 (by decide) rfl ?_
  refine ev_aload_n (i := 0) d_Te_init_53 rfl rfl rfl ?_
  refine ev_bipush d_Te_init_54 rfl (by decide +kernel) ⟨by decide, by decide⟩ ?_
  refine ev_cArr0 (m := 100) (k0 := 16) (L' := la_31) d_Te_init_56 rfl gm_36 rfl (by decide) rfl (fun _ => rfl) rfl ⟨Nat.le_of_ble_eq_true rfl, Nat.le_of_ble_eq_true rfl⟩ (nc' := 7) (ns' := 900) rfl rfl ?_
  refine ev_putFR (L' := la_32) d_Te_init_58 rfl lk_Te_30 fp_Te_6 rfl rfl (Or.inr ⟨_, rfl⟩) lz_31_9 (by decide) rfl ?_
  refine ev_aload_n (i := 0) d_Te_init_61 rfl rfl rfl ?_
  refine ev_bipush d_Te_init_62 rfl (by decide +kernel) ⟨by decide, by decide⟩ ?_
  refine ev_cArr1 (m := 100) (k0 := 17) (L' := la_33) d_Te_init_64 rfl gm_63 rfl (by decide) rfl (fun _ => rfl) rfl ⟨Nat.le_of_ble_eq_true rfl, Nat.le_of_ble_eq_true rfl⟩ (nc' := 8) (ns' := 1000) rfl rfl ?_
  refine ev_putFR (L' := la_34) d_Te_init_66 rfl lk_Te_33 fp_Te_7 rfl rfl (Or.inr ⟨_, rfl⟩) lz_33_9 (by decide) rfl ?_
  refine ev_aload_n (i := 0) d_Te_init_69 rfl rfl rfl ?_
  refine ev_bipush d_Te_init_70 rfl (by decide +kernel) ⟨by decide, by decide⟩ ?_
  refine ev_cArr1 (m := 100) (k0 := 18) (L' := la_35) d_Te_init_72 rfl gm_63 rfl (by decide) rfl (fun _ => rfl) rfl ⟨Nat.le_of_ble_eq_true rfl, Nat.le_of_ble_eq_true rfl⟩ (nc' := 9) (ns' := 1100) rfl rfl ?_
  refine ev_putFR (L' := la_36) d_Te_init_74 rfl lk_Te_37 fp_Te_8 rfl rfl (Or.inr ⟨_, rfl⟩) lz_35_9 (by decide) rfl ?_
  exact ev_retV d_Te_init_77 rfl
set_option maxRecDepth 100000 in
theorem c_Cl_init_19 (d : Nat) : Con y_Cl_init w_Cl_init (g_ra (d + 1) 5 162) la_38 mm_2 [g_r 19, g_r 5, g_r 9] la_50 mm_2 none := by
  refine con_of (av := [g_r 19, g_r 5, g_r 9]) (ls0 := [some (g_r 19), some (g_r 5), some (g_r 9)]) (by decide) rfl (Nat.le_of_ble_eq_true rfl) (g_hls (av := [g_r 19, g_r 5, g_r 9]) (k := 0)) (fun _ h9 => List.mem_cons_of_mem _ h9) ?_
  refine ev_aload_n (i := 0) d_Cl_init_0 rfl rfl rfl ?_
  refine ev_objInit d_Cl_init_1 rfl gm_69 gm_18 gm_19 ⟨by show 1 ≤ _ + 1; omega, by show _ ≤ 40 * (_ + 1); simp [g_cw, g_nj]; omega⟩ ?_
  refine ev_aload_n (i := 0) d_Cl_init_4 rfl rfl rfl ?_
  refine ev_aload_n (i := 1) d_Cl_init_5 rfl rfl rfl ?_
  refine ev_putFR (L' := la_39) d_Cl_init_6 rfl lk_Cl_9 fp_Cl_0 rfl rfl (Or.inl ⟨_, rfl⟩) lz_38_19 (by decide) rfl ?_
  refine ev_aload_n (i := 0) d_Cl_init_9 rfl rfl rfl ?_
  refine ev_aload_n (i := 2) d_Cl_init_10 rfl rfl rfl ?_
  refine ev_putFR (L' := la_40) d_Cl_init_11 rfl lk_Cl_15 fp_Cl_1 rfl rfl (Or.inl ⟨_, rfl⟩) lz_39_19 (by decide) rfl ?_
  refine ev_aload_n (i := 0) d_Cl_init_14 rfl rfl rfl ?_
  refine ev_bipush d_Cl_init_15 rfl (by decide +kernel) ⟨by decide, by decide⟩ ?_
  refine ev_cArr0 (m := 24) (k0 := 20) (L' := la_41) d_Cl_init_17 rfl gm_36 rfl (by decide) rfl (fun _ => rfl) rfl ⟨Nat.le_of_ble_eq_true rfl, Nat.le_of_ble_eq_true rfl⟩ (nc' := 1) (ns' := 24) rfl rfl ?_
  refine ev_putFR (L' := la_42) d_Cl_init_19 rfl lk_Cl_19 fp_Cl_2 rfl rfl (Or.inr ⟨_, rfl⟩) lz_41_19 (by decide) rfl ?_
  refine ev_aload_n (i := 0) d_Cl_init_22 rfl rfl rfl ?_
  refine ev_bipush d_Cl_init_23 rfl (by decide +kernel) ⟨by decide, by decide⟩ ?_
  refine ev_cArr0 (m := 72) (k0 := 21) (L' := la_43) d_Cl_init_25 rfl gm_36 rfl (by decide) rfl (fun _ => rfl) rfl ⟨Nat.le_of_ble_eq_true rfl, Nat.le_of_ble_eq_true rfl⟩ (nc' := 2) (ns' := 96) rfl rfl ?_
  refine ev_putFR (L' := la_44) d_Cl_init_27 rfl lk_Cl_23 fp_Cl_3 rfl rfl (Or.inr ⟨_, rfl⟩) lz_43_19 (by decide) rfl ?_
  refine ev_aload_n (i := 0) d_Cl_init_30 rfl rfl rfl ?_
  refine ev_bipush d_Cl_init_31 rfl (by decide +kernel) ⟨by decide, by decide⟩ ?_
  refine ev_cArr0 (m := 24) (k0 := 22) (L' := la_45) d_Cl_init_33 rfl gm_36 rfl (by decide) rfl (fun _ => rfl) rfl ⟨Nat.le_of_ble_eq_true rfl, Nat.le_of_ble_eq_true rfl⟩ (nc' := 3) (ns' := 120) rfl rfl ?_
  refine ev_putFR (L' := la_46) d_Cl_init_35 rfl lk_Cl_26 fp_Cl_4 rfl rfl (Or.inr ⟨_, rfl⟩) lz_45_19 (by decide) rfl ?_
  refine ev_aload_n (i := 0) d_Cl_init_38 rfl rfl rfl ?_
  refine ev_bipush d_Cl_init_39 rfl (by decide +kernel) ⟨by decide, by decide⟩ ?_
  refine ev_cArr0 (m := 36) (k0 := 23) (L' := la_47) d_Cl_init_41 rfl gm_36 rfl (by decide) rfl (fun _ => rfl) rfl ⟨Nat.le_of_ble_eq_true rfl, Nat.le_of_ble_eq_true rfl⟩ (nc' := 4) (ns' := 156) rfl rfl ?_
  refine ev_putFR (L' := la_48) d_Cl_init_43 rfl lk_Cl_29 fp_Cl_5 rfl rfl (Or.inr ⟨_, rfl⟩) lz_47_19 (by decide) rfl ?_
  refine ev_aload_n (i := 0) d_Cl_init_46 rfl rfl rfl ?_
  refine ev_bipush d_Cl_init_47 rfl (by decide +kernel) ⟨by decide, by decide⟩ ?_
  refine ev_cArr0 (m := 6) (k0 := 24) (L' := la_49) d_Cl_init_49 rfl gm_36 rfl (by decide) rfl (fun _ => rfl) rfl ⟨Nat.le_of_ble_eq_true rfl, Nat.le_of_ble_eq_true rfl⟩ (nc' := 5) (ns' := 162) rfl rfl ?_
  refine ev_putFR (L' := la_50) d_Cl_init_51 rfl lk_Cl_32 fp_Cl_6 rfl rfl (Or.inr ⟨_, rfl⟩) lz_49_19 (by decide) rfl ?_
  exact ev_retV d_Cl_init_54 rfl
set_option maxRecDepth 100000 in
theorem c_Ty_init_25 (d : Nat) : Con y_Ty_init w_Ty_init (g_ra (d + 1) 1 8) la_52 mm_2 [g_r 25, g_r 1, g_r 5, g_r 9, g_r 19] la_58 mm_2 none := by
  refine con_of (av := [g_r 25, g_r 1, g_r 5, g_r 9, g_r 19]) (ls0 := [some (g_r 25), some (g_r 1), some (g_r 5), some (g_r 9), some (g_r 19)]) (by decide) rfl (Nat.le_of_ble_eq_true rfl) (g_hls (av := [g_r 25, g_r 1, g_r 5, g_r 9, g_r 19]) (k := 0)) (fun _ h9 => List.mem_cons_of_mem _ h9) ?_
  refine ev_aload_n (i := 0) d_Ty_init_0 rfl rfl rfl ?_
  refine ev_objInit d_Ty_init_1 rfl gm_91 gm_18 gm_19 ⟨by show 1 ≤ _ + 1; omega, by show _ ≤ 40 * (_ + 1); simp [g_cw, g_nj]; omega⟩ ?_
  refine ev_aload_n (i := 0) d_Ty_init_4 rfl rfl rfl ?_
  refine ev_aload_n (i := 1) d_Ty_init_5 rfl rfl rfl ?_
  refine ev_putFR (L' := la_53) d_Ty_init_6 rfl lk_Ty_9 fp_Ty_0 rfl rfl (Or.inl ⟨_, rfl⟩) lz_52_25 (by decide) rfl ?_
  refine ev_aload_n (i := 0) d_Ty_init_9 rfl rfl rfl ?_
  refine ev_aload_n (i := 2) d_Ty_init_10 rfl rfl rfl ?_
  refine ev_putFR (L' := la_54) d_Ty_init_11 rfl lk_Ty_15 fp_Ty_1 rfl rfl (Or.inl ⟨_, rfl⟩) lz_53_25 (by decide) rfl ?_
  refine ev_aload_n (i := 0) d_Ty_init_14 rfl rfl rfl ?_
  refine ev_aload_n (i := 3) d_Ty_init_15 rfl rfl rfl ?_
  refine ev_putFR (L' := la_55) d_Ty_init_16 rfl lk_Ty_18 fp_Ty_2 rfl rfl (Or.inl ⟨_, rfl⟩) lz_54_25 (by decide) rfl ?_
  refine ev_aload_n (i := 0) d_Ty_init_19 rfl rfl rfl ?_
  refine ev_aload (i := 4) d_Ty_init_20 rfl rfl ?_
  refine ev_putFR (L' := la_56) d_Ty_init_22 rfl lk_Ty_22 fp_Ty_3 rfl rfl (Or.inl ⟨_, rfl⟩) lz_55_25 (by decide) rfl ?_
  refine ev_aload_n (i := 0) d_Ty_init_25 rfl rfl rfl ?_
  refine ev_bipush d_Ty_init_26 rfl (by decide +kernel) ⟨by decide, by decide⟩ ?_
  refine ev_cArr0 (m := 8) (k0 := 26) (L' := la_57) d_Ty_init_28 rfl gm_36 rfl (by decide) rfl (fun _ => rfl) rfl ⟨Nat.le_of_ble_eq_true rfl, Nat.le_of_ble_eq_true rfl⟩ (nc' := 1) (ns' := 8) rfl rfl ?_
  refine ev_putFR (L' := la_58) d_Ty_init_30 rfl lk_Ty_26 fp_Ty_4 rfl rfl (Or.inr ⟨_, rfl⟩) lz_57_25 (by decide) rfl ?_
  exact ev_retV d_Ty_init_33 rfl
set_option maxRecDepth 100000 in
theorem c_Co_init_27 (d : Nat) : Con y_Co_init w_Co_init (g_ra (d + 1) 2 84) la_60 mm_2 [g_r 27, g_r 1, g_r 5, g_r 9, g_r 19] la_68 mm_2 none := by
  refine con_of (av := [g_r 27, g_r 1, g_r 5, g_r 9, g_r 19]) (ls0 := [some (g_r 27), some (g_r 1), some (g_r 5), some (g_r 9), some (g_r 19)]) (by decide) rfl (Nat.le_of_ble_eq_true rfl) (g_hls (av := [g_r 27, g_r 1, g_r 5, g_r 9, g_r 19]) (k := 0)) (fun _ h9 => List.mem_cons_of_mem _ h9) ?_
  refine ev_aload_n (i := 0) d_Co_init_0 rfl rfl rfl ?_
  refine ev_objInit d_Co_init_1 rfl gm_107 gm_18 gm_19 ⟨by show 1 ≤ _ + 1; omega, by show _ ≤ 40 * (_ + 1); simp [g_cw, g_nj]; omega⟩ ?_
  refine ev_aload_n (i := 0) d_Co_init_4 rfl rfl rfl ?_
  refine ev_aload_n (i := 1) d_Co_init_5 rfl rfl rfl ?_
  refine ev_putFR (L' := la_61) d_Co_init_6 rfl lk_Co_11 fp_Co_0 rfl rfl (Or.inl ⟨_, rfl⟩) lz_60_27 (by decide) rfl ?_
  refine ev_aload_n (i := 0) d_Co_init_9 rfl rfl rfl ?_
  refine ev_aload_n (i := 2) d_Co_init_10 rfl rfl rfl ?_
  refine ev_putFR (L' := la_62) d_Co_init_11 rfl lk_Co_15 fp_Co_1 rfl rfl (Or.inl ⟨_, rfl⟩) lz_61_27 (by decide) rfl ?_
  refine ev_aload_n (i := 0) d_Co_init_14 rfl rfl rfl ?_
  refine ev_aload_n (i := 3) d_Co_init_15 rfl rfl rfl ?_
  refine ev_putFR (L' := la_63) d_Co_init_16 rfl lk_Co_18 fp_Co_2 rfl rfl (Or.inl ⟨_, rfl⟩) lz_62_27 (by decide) rfl ?_
  refine ev_aload_n (i := 0) d_Co_init_19 rfl rfl rfl ?_
  refine ev_aload (i := 4) d_Co_init_20 rfl rfl ?_
  refine ev_putFR (L' := la_64) d_Co_init_22 rfl lk_Co_22 fp_Co_3 rfl rfl (Or.inl ⟨_, rfl⟩) lz_63_27 (by decide) rfl ?_
  refine ev_aload_n (i := 0) d_Co_init_25 rfl rfl rfl ?_
  refine ev_bipush d_Co_init_26 rfl (by decide +kernel) ⟨by decide, by decide⟩ ?_
  refine ev_cArr0 (m := 72) (k0 := 28) (L' := la_65) d_Co_init_28 rfl gm_36 rfl (by decide) rfl (fun _ => rfl) rfl ⟨Nat.le_of_ble_eq_true rfl, Nat.le_of_ble_eq_true rfl⟩ (nc' := 1) (ns' := 72) rfl rfl ?_
  refine ev_putFR (L' := la_66) d_Co_init_30 rfl lk_Co_26 fp_Co_4 rfl rfl (Or.inr ⟨_, rfl⟩) lz_65_27 (by decide) rfl ?_
  refine ev_aload_n (i := 0) d_Co_init_33 rfl rfl rfl ?_
  refine ev_bipush d_Co_init_34 rfl (by decide +kernel) ⟨by decide, by decide⟩ ?_
  refine ev_cArr0 (m := 12) (k0 := 29) (L' := la_67) d_Co_init_36 rfl gm_36 rfl (by decide) rfl (fun _ => rfl) rfl ⟨Nat.le_of_ble_eq_true rfl, Nat.le_of_ble_eq_true rfl⟩ (nc' := 2) (ns' := 84) rfl rfl ?_
  refine ev_putFR (L' := la_68) d_Co_init_38 rfl lk_Co_30 fp_Co_5 rfl rfl (Or.inr ⟨_, rfl⟩) lz_67_27 (by decide) rfl ?_
  exact ev_retV d_Co_init_41 rfl
set_option maxRecDepth 100000 in
theorem c_En_init_30 (d : Nat) : Con y_En_init w_En_init (g_ra (d + 1) 3 752) la_70 mm_2 [g_r 30, g_r 5, g_r 9, g_r 19] la_79 mm_2 none := by
  refine con_of (av := [g_r 30, g_r 5, g_r 9, g_r 19]) (ls0 := [some (g_r 30), some (g_r 5), some (g_r 9), some (g_r 19)]) (by decide) rfl (Nat.le_of_ble_eq_true rfl) (g_hls (av := [g_r 30, g_r 5, g_r 9, g_r 19]) (k := 0)) (fun _ h9 => List.mem_cons_of_mem _ h9) ?_
  refine ev_aload_n (i := 0) d_En_init_0 rfl rfl rfl ?_
  refine ev_objInit d_En_init_1 rfl gm_125 gm_18 gm_19 ⟨by show 1 ≤ _ + 1; omega, by show _ ≤ 40 * (_ + 1); simp [g_cw, g_nj]; omega⟩ ?_
  refine ev_aload_n (i := 0) d_En_init_4 rfl rfl rfl ?_
  refine ev_aload_n (i := 1) d_En_init_5 rfl rfl rfl ?_
  refine ev_putFR (L' := la_71) d_En_init_6 rfl lk_En_11 fp_En_0 rfl rfl (Or.inl ⟨_, rfl⟩) lz_70_30 (by decide) rfl ?_
  refine ev_aload_n (i := 0) d_En_init_9 rfl rfl rfl ?_
  refine ev_aload_n (i := 2) d_En_init_10 rfl rfl rfl ?_
  refine ev_putFR (L' := la_72) d_En_init_11 rfl lk_En_15 fp_En_1 rfl rfl (Or.inl ⟨_, rfl⟩) lz_71_30 (by decide) rfl ?_
  refine ev_aload_n (i := 0) d_En_init_14 rfl rfl rfl ?_
  refine ev_aload_n (i := 3) d_En_init_15 rfl rfl rfl ?_
  refine ev_putFR (L' := la_73) d_En_init_16 rfl lk_En_19 fp_En_2 rfl rfl (Or.inl ⟨_, rfl⟩) lz_72_30 (by decide) rfl ?_
  refine ev_aload_n (i := 0) d_En_init_19 rfl rfl rfl ?_
  refine ev_bipush d_En_init_20 rfl (by decide +kernel) ⟨by decide, by decide⟩ ?_
  refine ev_cArr0 (m := 40) (k0 := 31) (L' := la_74) d_En_init_22 rfl gm_36 rfl (by decide) rfl (fun _ => rfl) rfl ⟨Nat.le_of_ble_eq_true rfl, Nat.le_of_ble_eq_true rfl⟩ (nc' := 1) (ns' := 40) rfl rfl ?_
  refine ev_putFR (L' := la_75) d_En_init_24 rfl lk_En_23 fp_En_3 rfl rfl (Or.inr ⟨_, rfl⟩) lz_74_30 (by decide) rfl ?_
  refine ev_aload_n (i := 0) d_En_init_27 rfl rfl rfl ?_
  refine ev_sipush d_En_init_28 rfl (by decide +kernel) ⟨by decide, by decide⟩ ?_
  refine ev_cArr0 (m := 200) (k0 := 32) (L' := la_76) d_En_init_31 rfl gm_36 rfl (by decide) rfl (fun _ => rfl) rfl ⟨Nat.le_of_ble_eq_true rfl, Nat.le_of_ble_eq_true rfl⟩ (nc' := 2) (ns' := 240) rfl rfl ?_
  refine ev_putFR (L' := la_77) d_En_init_33 rfl lk_En_27 fp_En_5 rfl rfl (Or.inr ⟨_, rfl⟩) lz_76_30 (by decide) rfl ?_
  refine ev_aload_n (i := 0) d_En_init_36 rfl rfl rfl ?_
  refine ev_sipush d_En_init_37 rfl (by decide +kernel) ⟨by decide, by decide⟩ ?_
  refine ev_cArr0 (m := 512) (k0 := 33) (L' := la_78) d_En_init_40 rfl gm_36 rfl (by decide) rfl (fun _ => rfl) rfl ⟨Nat.le_of_ble_eq_true rfl, Nat.le_of_ble_eq_true rfl⟩ (nc' := 3) (ns' := 752) rfl rfl ?_
  refine ev_putFR (L' := la_79) d_En_init_42 rfl lk_En_30 fp_En_8 rfl rfl (Or.inr ⟨_, rfl⟩) lz_78_30 (by decide) rfl ?_
  exact ev_retV d_En_init_45 rfl
set_option maxRecDepth 100000 in
theorem c_Va_init_35 (d : Nat) : Con y_Va_init w_Va_init (g_ra (d + 1) 3 3000) la_85 mm_2 [g_r 35, g_r 1, g_r 9] la_93 mm_2 none := by
  refine con_of (av := [g_r 35, g_r 1, g_r 9]) (ls0 := [some (g_r 35), some (g_r 1), some (g_r 9)]) (by decide) rfl (Nat.le_of_ble_eq_true rfl) (g_hls (av := [g_r 35, g_r 1, g_r 9]) (k := 0)) (fun _ h9 => List.mem_cons_of_mem _ h9) ?_
  refine ev_aload_n (i := 0) d_Va_init_0 rfl rfl rfl ?_
  refine ev_objInit d_Va_init_1 rfl gm_155 gm_18 gm_19 ⟨by show 1 ≤ _ + 1; omega, by show _ ≤ 40 * (_ + 1); simp [g_cw, g_nj]; omega⟩ ?_
  refine ev_aload_n (i := 0) d_Va_init_4 rfl rfl rfl ?_
  refine ev_aload_n (i := 1) d_Va_init_5 rfl rfl rfl ?_
  refine ev_putFR (L' := la_86) d_Va_init_6 rfl lk_Va_9 fp_Va_0 rfl rfl (Or.inl ⟨_, rfl⟩) lz_85_35 (by decide) rfl ?_
  refine ev_aload_n (i := 0) d_Va_init_9 rfl rfl rfl ?_
  refine ev_aload_n (i := 2) d_Va_init_10 rfl rfl rfl ?_
  refine ev_putFR (L' := la_87) d_Va_init_11 rfl lk_Va_15 fp_Va_1 rfl rfl (Or.inl ⟨_, rfl⟩) lz_86_35 (by decide) rfl ?_
  refine ev_aload_n (i := 0) d_Va_init_14 rfl rfl rfl ?_
  refine ev_sipush d_Va_init_15 rfl (by decide +kernel) ⟨by decide, by decide⟩ ?_
  refine ev_cArr0 (m := 600) (k0 := 36) (L' := la_88) d_Va_init_18 rfl gm_36 rfl (by decide) rfl (fun _ => rfl) rfl ⟨Nat.le_of_ble_eq_true rfl, Nat.le_of_ble_eq_true rfl⟩ (nc' := 1) (ns' := 600) rfl rfl ?_
  refine ev_putFR (L' := la_89) d_Va_init_20 rfl lk_Va_19 fp_Va_2 rfl rfl (Or.inr ⟨_, rfl⟩) lz_88_35 (by decide) rfl ?_
  refine ev_aload_n (i := 0) d_Va_init_23 rfl rfl rfl ?_
  refine ev_sipush d_Va_init_24 rfl (by decide +kernel) ⟨by decide, by decide⟩ ?_
  refine ev_cArr0 (m := 1800) (k0 := 37) (L' := la_90) d_Va_init_27 rfl gm_36 rfl (by decide) rfl (fun _ => rfl) rfl ⟨Nat.le_of_ble_eq_true rfl, Nat.le_of_ble_eq_true rfl⟩ (nc' := 2) (ns' := 2400) rfl rfl ?_
  refine ev_putFR (L' := la_91) d_Va_init_29 rfl lk_Va_23 fp_Va_3 rfl rfl (Or.inr ⟨_, rfl⟩) lz_90_35 (by decide) rfl ?_
  refine ev_aload_n (i := 0) d_Va_init_32 rfl rfl rfl ?_
  refine ev_sipush d_Va_init_33 rfl (by decide +kernel) ⟨by decide, by decide⟩ ?_
  refine ev_cArr0 (m := 600) (k0 := 38) (L' := la_92) d_Va_init_36 rfl gm_36 rfl (by decide) rfl (fun _ => rfl) rfl ⟨Nat.le_of_ble_eq_true rfl, Nat.le_of_ble_eq_true rfl⟩ (nc' := 3) (ns' := 3000) rfl rfl ?_
  refine ev_putFR (L' := la_93) d_Va_init_38 rfl lk_Va_26 fp_Va_4 rfl rfl (Or.inr ⟨_, rfl⟩) lz_92_35 (by decide) rfl ?_
  exact ev_retV d_Va_init_41 rfl
set_option maxRecDepth 100000 in
theorem c_Ma_init_34 (d : Nat) : Con y_Ma_init w_Ma_init (g_ra (d + 2) 10 9674) la_81 mm_2 [g_r 34, g_r 1, g_r 5, g_r 9, g_r 19] la_106 mm_2 none := by
  refine con_of (av := [g_r 34, g_r 1, g_r 5, g_r 9, g_r 19]) (ls0 := [some (g_r 34), some (g_r 1), some (g_r 5), some (g_r 9), some (g_r 19)]) (by decide) rfl (Nat.le_of_ble_eq_true rfl) (g_hls (av := [g_r 34, g_r 1, g_r 5, g_r 9, g_r 19]) (k := 0)) (fun _ h9 => List.mem_cons_of_mem _ h9) ?_
  refine ev_aload_n (i := 0) d_Ma_init_0 rfl rfl rfl ?_
  refine ev_objInit d_Ma_init_1 rfl gm_149 gm_18 gm_19 ⟨by show 1 ≤ _ + 1; omega, by show _ ≤ 40 * (_ + 1); simp [g_cw, g_nj]; omega⟩ ?_
  refine ev_aload_n (i := 0) d_Ma_init_4 rfl rfl rfl ?_
  refine ev_aload_n (i := 2) d_Ma_init_5 rfl rfl rfl ?_
  refine ev_putFR (L' := la_82) d_Ma_init_6 rfl lk_Ma_11 fp_Ma_0 rfl rfl (Or.inl ⟨_, rfl⟩) lz_81_34 (by decide) rfl ?_
  refine ev_aload_n (i := 0) d_Ma_init_9 rfl rfl rfl ?_
  refine ev_aload_n (i := 3) d_Ma_init_10 rfl rfl rfl ?_
  refine ev_putFR (L' := la_83) d_Ma_init_11 rfl lk_Ma_15 fp_Ma_1 rfl rfl (Or.inl ⟨_, rfl⟩) lz_82_34 (by decide) rfl ?_
  refine ev_aload_n (i := 0) d_Ma_init_14 rfl rfl rfl ?_
  refine ev_aload (i := 4) d_Ma_init_15 rfl rfl ?_
  refine ev_putFR (L' := la_84) d_Ma_init_17 rfl lk_Ma_19 fp_Ma_2 rfl rfl (Or.inl ⟨_, rfl⟩) lz_83_34 (by decide) rfl ?_
  refine ev_aload_n (i := 0) d_Ma_init_20 rfl rfl rfl ?_
  refine ev_cNew (k0 := 35) (L' := la_85) d_Ma_init_21 rfl nl_Ma_23 rfl (fun _ => rfl) rfl ⟨Nat.le_of_ble_eq_true rfl, Nat.le_of_ble_eq_true rfl⟩ (nc' := 1) (ns' := 6) rfl rfl ?_
  refine ev_dup d_Ma_init_24 rfl rfl ?_
  refine ev_aload_n (i := 1) d_Ma_init_25 rfl rfl rfl ?_
  refine ev_aload_n (i := 3) d_Ma_init_26 rfl rfl rfl ?_
  refine ev_callI (As := [g_r 1, g_r 9]) d_Ma_init_27 rfl cl_Ma_25 (c_Va_init_35 (d + 0)) (g_hR (by decide)) ⟨Nat.le_of_ble_eq_true rfl, Nat.le_of_ble_eq_true rfl⟩ rfl rfl (by decide) (nc' := 4) (ns' := 3006) rfl rfl ?_
  refine ev_putFR (L' := la_94) d_Ma_init_30 rfl lk_Ma_28 fp_Ma_3 rfl rfl (Or.inl ⟨_, rfl⟩) lz_93_34 (by decide) rfl ?_
  refine ev_aload_n (i := 0) d_Ma_init_33 rfl rfl rfl ?_
  refine ev_sipush d_Ma_init_34 rfl (by decide +kernel) ⟨by decide, by decide⟩ ?_
  refine ev_cArr0 (m := 1001) (k0 := 39) (L' := la_95) d_Ma_init_37 rfl gm_36 rfl (by decide) rfl (fun _ => rfl) rfl ⟨Nat.le_of_ble_eq_true rfl, Nat.le_of_ble_eq_true rfl⟩ (nc' := 5) (ns' := 4007) rfl rfl ?_
  refine ev_putFR (L' := la_96) d_Ma_init_39 rfl lk_Ma_32 fp_Ma_4 rfl rfl (Or.inr ⟨_, rfl⟩) lz_95_34 (by decide) rfl ?_
  refine ev_aload_n (i := 0) d_Ma_init_42 rfl rfl rfl ?_
  refine ev_sipush d_Ma_init_43 rfl (by decide +kernel) ⟨by decide, by decide⟩ ?_
  refine ev_cArr0 (m := 1001) (k0 := 40) (L' := la_97) d_Ma_init_46 rfl gm_36 rfl (by decide) rfl (fun _ => rfl) rfl ⟨Nat.le_of_ble_eq_true rfl, Nat.le_of_ble_eq_true rfl⟩ (nc' := 6) (ns' := 5008) rfl rfl ?_
  refine ev_putFR (L' := la_98) d_Ma_init_48 rfl lk_Ma_36 fp_Ma_5 rfl rfl (Or.inr ⟨_, rfl⟩) lz_97_34 (by decide) rfl ?_
  refine ev_aload_n (i := 0) d_Ma_init_51 rfl rfl rfl ?_
  refine ev_sipush d_Ma_init_52 rfl (by decide +kernel) ⟨by decide, by decide⟩ ?_
  refine ev_cArr0 (m := 1001) (k0 := 41) (L' := la_99) d_Ma_init_55 rfl gm_36 rfl (by decide) rfl (fun _ => rfl) rfl ⟨Nat.le_of_ble_eq_true rfl, Nat.le_of_ble_eq_true rfl⟩ (nc' := 7) (ns' := 6009) rfl rfl ?_
  refine ev_putFR (L' := la_100) d_Ma_init_57 rfl lk_Ma_39 fp_Ma_6 rfl rfl (Or.inr ⟨_, rfl⟩) lz_99_34 (by decide) rfl ?_
  refine ev_aload_n (i := 0) d_Ma_init_60 rfl rfl rfl ?_
  refine ev_sipush d_Ma_init_61 rfl (by decide +kernel) ⟨by decide, by decide⟩ ?_
  refine ev_cArr0 (m := 2005) (k0 := 42) (L' := la_101) d_Ma_init_64 rfl gm_36 rfl (by decide) rfl (fun _ => rfl) rfl ⟨Nat.le_of_ble_eq_true rfl, Nat.le_of_ble_eq_true rfl⟩ (nc' := 8) (ns' := 8014) rfl rfl ?_
  refine ev_putFR (L' := la_102) d_Ma_init_66 rfl lk_Ma_42 fp_Ma_8 rfl rfl (Or.inr ⟨_, rfl⟩) lz_101_34 (by decide) rfl ?_
  refine ev_aload_n (i := 0) d_Ma_init_69 rfl rfl rfl ?_
  refine ev_sipush d_Ma_init_70 rfl (by decide +kernel) ⟨by decide, by decide⟩ ?_
  refine ev_cArr0 (m := 1600) (k0 := 43) (L' := la_103) d_Ma_init_73 rfl gm_36 rfl (by decide) rfl (fun _ => rfl) rfl ⟨Nat.le_of_ble_eq_true rfl, Nat.le_of_ble_eq_true rfl⟩ (nc' := 9) (ns' := 9614) rfl rfl ?_
  refine ev_putFR (L' := la_104) d_Ma_init_75 rfl lk_Ma_45 fp_Ma_10 rfl rfl (Or.inr ⟨_, rfl⟩) lz_103_34 (by decide) rfl ?_
  refine ev_aload_n (i := 0) d_Ma_init_78 rfl rfl rfl ?_
  refine ev_bipush d_Ma_init_79 rfl (by decide +kernel) ⟨by decide, by decide⟩ ?_
  refine ev_cArr0 (m := 60) (k0 := 44) (L' := la_105) d_Ma_init_81 rfl gm_36 rfl (by decide) rfl (fun _ => rfl) rfl ⟨Nat.le_of_ble_eq_true rfl, Nat.le_of_ble_eq_true rfl⟩ (nc' := 10) (ns' := 9674) rfl rfl ?_
  refine ev_putFR (L' := la_106) d_Ma_init_83 rfl lk_Ma_48 fp_Ma_13 rfl rfl (Or.inr ⟨_, rfl⟩) lz_105_34 (by decide) rfl ?_
  exact ev_retV d_Ma_init_86 rfl
set_option maxRecDepth 100000 in
theorem c_Fu_init_0 (d : Nat) : Con y_Fu_init w_Fu_init (g_ra (d + 3) 44 11913) la_1 mm_0 [g_r 0] la_107 mm_3 none := by
  refine con_of (av := [g_r 0]) (ls0 := [some (g_r 0)]) (by decide) rfl (Nat.le_of_ble_eq_true rfl) (g_hls (av := [g_r 0]) (k := 0)) (fun _ h9 => List.mem_cons_of_mem _ h9) ?_
  refine ev_aload_n (i := 0) d_Fu_init_0 rfl rfl rfl ?_
  refine ev_objInit d_Fu_init_1 rfl gm_17 gm_18 gm_19 ⟨by show 1 ≤ _ + 1; omega, by show _ ≤ 40 * (_ + 1); simp [g_cw, g_nj]; omega⟩ ?_
  refine ev_aload_n (i := 0) d_Fu_init_4 rfl rfl rfl ?_
  refine ev_cNew (k0 := 1) (L' := la_2) d_Fu_init_5 rfl nl_Fu_7 rfl (fun _ => rfl) rfl ⟨Nat.le_of_ble_eq_true rfl, Nat.le_of_ble_eq_true rfl⟩ (nc' := 1) (ns' := 5) rfl rfl ?_
  refine ev_dup d_Fu_init_8 rfl rfl ?_
  refine ev_bipush d_Fu_init_9 rfl (by decide +kernel) ⟨by decide, by decide⟩ ?_
  refine ev_callI (As := [g_i 8]) d_Fu_init_11 rfl cl_Fu_11 (c_Sg_init_1 (d + 1)) (g_hR (by decide)) ⟨Nat.le_of_ble_eq_true rfl, Nat.le_of_ble_eq_true rfl⟩ rfl rfl (by decide) (nc' := 4) (ns' := 45) rfl rfl ?_
  refine ev_putFR (L' := la_9) d_Fu_init_14 rfl lk_Fu_14 fp_Fu_0 rfl rfl (Or.inl ⟨_, rfl⟩) lz_8_0 (by decide) rfl ?_
  refine ev_aload_n (i := 0) d_Fu_init_17 rfl rfl rfl ?_
  refine ev_cNew (k0 := 5) (L' := la_10) d_Fu_init_18 rfl nl_Fu_7 rfl (fun _ => rfl) rfl ⟨Nat.le_of_ble_eq_true rfl, Nat.le_of_ble_eq_true rfl⟩ (nc' := 5) (ns' := 50) rfl rfl ?_
  refine ev_dup d_Fu_init_21 rfl rfl ?_
  refine ev_bipush d_Fu_init_22 rfl (by decide +kernel) ⟨by decide, by decide⟩ ?_
  refine ev_callI (As := [g_i 6]) d_Fu_init_24 rfl cl_Fu_11 (c_Sg_init_5 (d + 1)) (g_hR (by decide)) ⟨Nat.le_of_ble_eq_true rfl, Nat.le_of_ble_eq_true rfl⟩ rfl rfl (by decide) (nc' := 8) (ns' := 80) rfl rfl ?_
  refine ev_putFR (L' := la_17) d_Fu_init_27 rfl lk_Fu_18 fp_Fu_1 rfl rfl (Or.inl ⟨_, rfl⟩) lz_16_0 (by decide) rfl ?_
  refine ev_aload_n (i := 0) d_Fu_init_30 rfl rfl rfl ?_
  refine ev_cNew (k0 := 9) (L' := la_18) d_Fu_init_31 rfl nl_Fu_21 rfl (fun _ => rfl) rfl ⟨Nat.le_of_ble_eq_true rfl, Nat.le_of_ble_eq_true rfl⟩ (nc' := 9) (ns' := 90) rfl rfl ?_
  refine ev_dup d_Fu_init_34 rfl rfl ?_
  refine ev_callI (As := []) d_Fu_init_35 rfl cl_Fu_23 (c_Te_init_9 (d + 1)) (g_hR (by decide)) ⟨Nat.le_of_ble_eq_true rfl, Nat.le_of_ble_eq_true rfl⟩ rfl rfl (by decide) (nc' := 18) (ns' := 1190) rfl rfl ?_
  refine ev_putFR (L' := la_37) d_Fu_init_38 rfl lk_Fu_24 fp_Fu_2 rfl rfl (Or.inl ⟨_, rfl⟩) lz_36_0 (by decide) rfl ?_
  refine ev_aload_n (i := 0) d_Fu_init_41 rfl rfl rfl ?_
  refine ev_cNew (k0 := 19) (L' := la_38) d_Fu_init_42 rfl nl_Fu_28 rfl (fun _ => rfl) rfl ⟨Nat.le_of_ble_eq_true rfl, Nat.le_of_ble_eq_true rfl⟩ (nc' := 19) (ns' := 1198) rfl rfl ?_
  refine ev_dup d_Fu_init_45 rfl rfl ?_
  refine ev_aload_n (i := 0) d_Fu_init_46 rfl rfl rfl ?_
  refine ev_getR d_Fu_init_47 rfl lk_Fu_18 lz_38_0 rfl ?_
  refine ev_aload_n (i := 0) d_Fu_init_50 rfl rfl rfl ?_
  refine ev_getR d_Fu_init_51 rfl lk_Fu_24 lz_38_0 rfl ?_
  refine ev_callI (As := [g_r 5, g_r 9]) d_Fu_init_54 rfl cl_Fu_30 (c_Cl_init_19 (d + 1)) (g_hR (by decide)) ⟨Nat.le_of_ble_eq_true rfl, Nat.le_of_ble_eq_true rfl⟩ rfl rfl (by decide) (nc' := 24) (ns' := 1360) rfl rfl ?_
  refine ev_putFR (L' := la_51) d_Fu_init_57 rfl lk_Fu_33 fp_Fu_3 rfl rfl (Or.inl ⟨_, rfl⟩) lz_50_0 (by decide) rfl ?_
  refine ev_aload_n (i := 0) d_Fu_init_60 rfl rfl rfl ?_
  refine ev_cNew (k0 := 25) (L' := la_52) d_Fu_init_61 rfl nl_Fu_37 rfl (fun _ => rfl) rfl ⟨Nat.le_of_ble_eq_true rfl, Nat.le_of_ble_eq_true rfl⟩ (nc' := 25) (ns' := 1365) rfl rfl ?_
  refine ev_dup d_Fu_init_64 rfl rfl ?_
  refine ev_aload_n (i := 0) d_Fu_init_65 rfl rfl rfl ?_
  refine ev_getR d_Fu_init_66 rfl lk_Fu_14 lz_52_0 rfl ?_
  refine ev_aload_n (i := 0) d_Fu_init_69 rfl rfl rfl ?_
  refine ev_getR d_Fu_init_70 rfl lk_Fu_18 lz_52_0 rfl ?_
  refine ev_aload_n (i := 0) d_Fu_init_73 rfl rfl rfl ?_
  refine ev_getR d_Fu_init_74 rfl lk_Fu_24 lz_52_0 rfl ?_
  refine ev_aload_n (i := 0) d_Fu_init_77 rfl rfl rfl ?_
  refine ev_getR d_Fu_init_78 rfl lk_Fu_33 lz_52_0 rfl ?_
  refine ev_callI (As := [g_r 1, g_r 5, g_r 9, g_r 19]) d_Fu_init_81 rfl cl_Fu_39 (c_Ty_init_25 (d + 1)) (g_hR (by decide)) ⟨Nat.le_of_ble_eq_true rfl, Nat.le_of_ble_eq_true rfl⟩ rfl rfl (by decide) (nc' := 26) (ns' := 1373) rfl rfl ?_
  refine ev_putFR (L' := la_59) d_Fu_init_84 rfl lk_Fu_42 fp_Fu_4 rfl rfl (Or.inl ⟨_, rfl⟩) lz_58_0 (by decide) rfl ?_
  refine ev_aload_n (i := 0) d_Fu_init_87 rfl rfl rfl ?_
  refine ev_cNew (k0 := 27) (L' := la_60) d_Fu_init_88 rfl nl_Fu_46 rfl (fun _ => rfl) rfl ⟨Nat.le_of_ble_eq_true rfl, Nat.le_of_ble_eq_true rfl⟩ (nc' := 27) (ns' := 1379) rfl rfl ?_
  refine ev_dup d_Fu_init_91 rfl rfl ?_
  refine ev_aload_n (i := 0) d_Fu_init_92 rfl rfl rfl ?_
  refine ev_getR d_Fu_init_93 rfl lk_Fu_14 lz_60_0 rfl ?_
  refine ev_aload_n (i := 0) d_Fu_init_96 rfl rfl rfl ?_
  refine ev_getR d_Fu_init_97 rfl lk_Fu_18 lz_60_0 rfl ?_
  refine ev_aload_n (i := 0) d_Fu_init_100 rfl rfl rfl ?_
  refine ev_getR d_Fu_init_101 rfl lk_Fu_24 lz_60_0 rfl ?_
  refine ev_aload_n (i := 0) d_Fu_init_104 rfl rfl rfl ?_
  refine ev_getR d_Fu_init_105 rfl lk_Fu_33 lz_60_0 rfl ?_
  refine ev_callI (As := [g_r 1, g_r 5, g_r 9, g_r 19]) d_Fu_init_108 rfl cl_Fu_48 (c_Co_init_27 (d + 1)) (g_hR (by decide)) ⟨Nat.le_of_ble_eq_true rfl, Nat.le_of_ble_eq_true rfl⟩ rfl rfl (by decide) (nc' := 29) (ns' := 1463) rfl rfl ?_
  refine ev_putFR (L' := la_69) d_Fu_init_111 rfl lk_Fu_49 fp_Fu_5 rfl rfl (Or.inl ⟨_, rfl⟩) lz_68_0 (by decide) rfl ?_
  refine ev_aload_n (i := 0) d_Fu_init_114 rfl rfl rfl ?_
  refine ev_cNew (k0 := 30) (L' := la_70) d_Fu_init_115 rfl nl_Fu_53 rfl (fun _ => rfl) rfl ⟨Nat.le_of_ble_eq_true rfl, Nat.le_of_ble_eq_true rfl⟩ (nc' := 30) (ns' := 1472) rfl rfl ?_
  refine ev_dup d_Fu_init_118 rfl rfl ?_
  refine ev_aload_n (i := 0) d_Fu_init_119 rfl rfl rfl ?_
  refine ev_getR d_Fu_init_120 rfl lk_Fu_18 lz_70_0 rfl ?_
  refine ev_aload_n (i := 0) d_Fu_init_123 rfl rfl rfl ?_
  refine ev_getR d_Fu_init_124 rfl lk_Fu_24 lz_70_0 rfl ?_
  refine ev_aload_n (i := 0) d_Fu_init_127 rfl rfl rfl ?_
  refine ev_getR d_Fu_init_128 rfl lk_Fu_33 lz_70_0 rfl ?_
  refine ev_callI (As := [g_r 5, g_r 9, g_r 19]) d_Fu_init_131 rfl cl_Fu_55 (c_En_init_30 (d + 1)) (g_hR (by decide)) ⟨Nat.le_of_ble_eq_true rfl, Nat.le_of_ble_eq_true rfl⟩ rfl rfl (by decide) (nc' := 33) (ns' := 2224) rfl rfl ?_
  refine ev_putFR (L' := la_80) d_Fu_init_134 rfl lk_Fu_58 fp_Fu_6 rfl rfl (Or.inl ⟨_, rfl⟩) lz_79_0 (by decide) rfl ?_
  refine ev_aload_n (i := 0) d_Fu_init_137 rfl rfl rfl ?_
  refine ev_cNew (k0 := 34) (L' := la_81) d_Fu_init_138 rfl nl_Fu_62 rfl (fun _ => rfl) rfl ⟨Nat.le_of_ble_eq_true rfl, Nat.le_of_ble_eq_true rfl⟩ (nc' := 34) (ns' := 2239) rfl rfl ?_
  refine ev_dup d_Fu_init_141 rfl rfl ?_
  refine ev_aload_n (i := 0) d_Fu_init_142 rfl rfl rfl ?_
  refine ev_getR d_Fu_init_143 rfl lk_Fu_14 lz_81_0 rfl ?_
  refine ev_aload_n (i := 0) d_Fu_init_146 rfl rfl rfl ?_
  refine ev_getR d_Fu_init_147 rfl lk_Fu_18 lz_81_0 rfl ?_
  refine ev_aload_n (i := 0) d_Fu_init_150 rfl rfl rfl ?_
  refine ev_getR d_Fu_init_151 rfl lk_Fu_24 lz_81_0 rfl ?_
  refine ev_aload_n (i := 0) d_Fu_init_154 rfl rfl rfl ?_
  refine ev_getR d_Fu_init_155 rfl lk_Fu_33 lz_81_0 rfl ?_
  refine ev_callI (As := [g_r 1, g_r 5, g_r 9, g_r 19]) d_Fu_init_158 rfl cl_Fu_64 (c_Ma_init_34 (d + 0)) (g_hR (by decide)) ⟨Nat.le_of_ble_eq_true rfl, Nat.le_of_ble_eq_true rfl⟩ rfl rfl (by decide) (nc' := 44) (ns' := 11913) rfl rfl ?_
  refine ev_putFR (L' := la_107) d_Fu_init_161 rfl lk_Fu_65 fp_Fu_7 rfl rfl (Or.inl ⟨_, rfl⟩) lz_106_0 (by decide) rfl ?_
  refine ev_aload_n (i := 0) d_Fu_init_164 rfl rfl rfl ?_
  refine ev_iconst d_Fu_init_165 rfl ⟨by decide, by decide⟩ ?_
  refine ev_putI d_Fu_init_166 rfl lk_Fu_69 fp_Fu_8 (Or.inl rfl) lz_107_0 rfl ?_
  change Ev _ _ _ _ _ _ _ mm_3 _ _
  exact ev_retV d_Fu_init_169 rfl
set_option maxRecDepth 100000 in
theorem c_Mo_init_45 (d : Nat) : Con y_Mo_init w_Mo_init (g_ra (d + 1) 31 18265) la_108 mm_3 [g_r 45] la_170 mm_3 none := by
  refine con_of (av := [g_r 45]) (ls0 := [some (g_r 45)]) (by decide) rfl (Nat.le_of_ble_eq_true rfl) (g_hls (av := [g_r 45]) (k := 0)) (fun _ h9 => List.mem_cons_of_mem _ h9) ?_
  refine ev_aload_n (i := 0) d_Mo_init_0 rfl rfl rfl ?_
  refine ev_objInit d_Mo_init_1 rfl gm_694 gm_18 gm_19 ⟨by show 1 ≤ _ + 1; omega, by show _ ≤ 40 * (_ + 1); simp [g_cw, g_nj]; omega⟩ ?_
  refine ev_aload_n (i := 0) d_Mo_init_4 rfl rfl rfl ?_
  refine ev_bipush d_Mo_init_5 rfl (by decide +kernel) ⟨by decide, by decide⟩ ?_
  refine ev_cArr0 (m := 8) (k0 := 46) (L' := la_109) d_Mo_init_7 rfl gm_36 rfl (by decide) rfl (fun _ => rfl) rfl ⟨Nat.le_of_ble_eq_true rfl, Nat.le_of_ble_eq_true rfl⟩ (nc' := 1) (ns' := 8) rfl rfl ?_
  refine ev_putFR (L' := la_110) d_Mo_init_9 rfl lk_Mo_7 fp_Mo_1 rfl rfl (Or.inr ⟨_, rfl⟩) lz_109_45 (by decide) rfl ?_
  refine ev_aload_n (i := 0) d_Mo_init_12 rfl rfl rfl ?_
  refine ev_bipush d_Mo_init_13 rfl (by decide +kernel) ⟨by decide, by decide⟩ ?_
  refine ev_cArr0 (m := 8) (k0 := 47) (L' := la_111) d_Mo_init_15 rfl gm_36 rfl (by decide) rfl (fun _ => rfl) rfl ⟨Nat.le_of_ble_eq_true rfl, Nat.le_of_ble_eq_true rfl⟩ (nc' := 2) (ns' := 16) rfl rfl ?_
  refine ev_putFR (L' := la_112) d_Mo_init_17 rfl lk_Mo_13 fp_Mo_2 rfl rfl (Or.inr ⟨_, rfl⟩) lz_111_45 (by decide) rfl ?_
  refine ev_aload_n (i := 0) d_Mo_init_20 rfl rfl rfl ?_
  refine ev_bipush d_Mo_init_21 rfl (by decide +kernel) ⟨by decide, by decide⟩ ?_
  refine ev_cArr0 (m := 24) (k0 := 48) (L' := la_113) d_Mo_init_23 rfl gm_36 rfl (by decide) rfl (fun _ => rfl) rfl ⟨Nat.le_of_ble_eq_true rfl, Nat.le_of_ble_eq_true rfl⟩ (nc' := 3) (ns' := 40) rfl rfl ?_
  refine ev_putFR (L' := la_114) d_Mo_init_25 rfl lk_Mo_16 fp_Mo_3 rfl rfl (Or.inr ⟨_, rfl⟩) lz_113_45 (by decide) rfl ?_
  refine ev_aload_n (i := 0) d_Mo_init_28 rfl rfl rfl ?_
  refine ev_bipush d_Mo_init_29 rfl (by decide +kernel) ⟨by decide, by decide⟩ ?_
  refine ev_cArr0 (m := 6) (k0 := 49) (L' := la_115) d_Mo_init_31 rfl gm_36 rfl (by decide) rfl (fun _ => rfl) rfl ⟨Nat.le_of_ble_eq_true rfl, Nat.le_of_ble_eq_true rfl⟩ (nc' := 4) (ns' := 46) rfl rfl ?_
  refine ev_putFR (L' := la_116) d_Mo_init_33 rfl lk_Mo_19 fp_Mo_5 rfl rfl (Or.inr ⟨_, rfl⟩) lz_115_45 (by decide) rfl ?_
  refine ev_aload_n (i := 0) d_Mo_init_36 rfl rfl rfl ?_
  refine ev_bipush d_Mo_init_37 rfl (by decide +kernel) ⟨by decide, by decide⟩ ?_
  refine ev_cArr0 (m := 6) (k0 := 50) (L' := la_117) d_Mo_init_39 rfl gm_36 rfl (by decide) rfl (fun _ => rfl) rfl ⟨Nat.le_of_ble_eq_true rfl, Nat.le_of_ble_eq_true rfl⟩ (nc' := 5) (ns' := 52) rfl rfl ?_
  refine ev_putFR (L' := la_118) d_Mo_init_41 rfl lk_Mo_22 fp_Mo_6 rfl rfl (Or.inr ⟨_, rfl⟩) lz_117_45 (by decide) rfl ?_
  refine ev_aload_n (i := 0) d_Mo_init_44 rfl rfl rfl ?_
  refine ev_bipush d_Mo_init_45 rfl (by decide +kernel) ⟨by decide, by decide⟩ ?_
  refine ev_cArr0 (m := 18) (k0 := 51) (L' := la_119) d_Mo_init_47 rfl gm_36 rfl (by decide) rfl (fun _ => rfl) rfl ⟨Nat.le_of_ble_eq_true rfl, Nat.le_of_ble_eq_true rfl⟩ (nc' := 6) (ns' := 70) rfl rfl ?_
  refine ev_putFR (L' := la_120) d_Mo_init_49 rfl lk_Mo_25 fp_Mo_7 rfl rfl (Or.inr ⟨_, rfl⟩) lz_119_45 (by decide) rfl ?_
  refine ev_aload_n (i := 0) d_Mo_init_52 rfl rfl rfl ?_
  refine ev_bipush d_Mo_init_53 rfl (by decide +kernel) ⟨by decide, by decide⟩ ?_
  refine ev_cArr0 (m := 100) (k0 := 52) (L' := la_121) d_Mo_init_55 rfl gm_36 rfl (by decide) rfl (fun _ => rfl) rfl ⟨Nat.le_of_ble_eq_true rfl, Nat.le_of_ble_eq_true rfl⟩ (nc' := 7) (ns' := 170) rfl rfl ?_
  refine ev_putFR (L' := la_122) d_Mo_init_57 rfl lk_Mo_28 fp_Mo_9 rfl rfl (Or.inr ⟨_, rfl⟩) lz_121_45 (by decide) rfl ?_
  refine ev_aload_n (i := 0) d_Mo_init_60 rfl rfl rfl ?_
  refine ev_sipush d_Mo_init_61 rfl (by decide +kernel) ⟨by decide, by decide⟩ ?_
  refine ev_cArr0 (m := 300) (k0 := 53) (L' := la_123) d_Mo_init_64 rfl gm_36 rfl (by decide) rfl (fun _ => rfl) rfl ⟨Nat.le_of_ble_eq_true rfl, Nat.le_of_ble_eq_true rfl⟩ (nc' := 8) (ns' := 470) rfl rfl ?_
  refine ev_putFR (L' := la_124) d_Mo_init_66 rfl lk_Mo_31 fp_Mo_10 rfl rfl (Or.inr ⟨_, rfl⟩) lz_123_45 (by decide) rfl ?_
  refine ev_aload_n (i := 0) d_Mo_init_69 rfl rfl rfl ?_
  refine ev_bipush d_Mo_init_70 rfl (by decide +kernel) ⟨by decide, by decide⟩ ?_
  refine ev_cArr0 (m := 100) (k0 := 54) (L' := la_125) d_Mo_init_72 rfl gm_36 rfl (by decide) rfl (fun _ => rfl) rfl ⟨Nat.le_of_ble_eq_true rfl, Nat.le_of_ble_eq_true rfl⟩ (nc' := 9) (ns' := 570) rfl rfl ?_
  refine ev_putFR (L' := la_126) d_Mo_init_74 rfl lk_Mo_34 fp_Mo_11 rfl rfl (Or.inr ⟨_, rfl⟩) lz_125_45 (by decide) rfl ?_
  refine ev_aload_n (i := 0) d_Mo_init_77 rfl rfl rfl ?_
  refine ev_bipush d_Mo_init_78 rfl (by decide +kernel) ⟨by decide, by decide⟩ ?_
  refine ev_cArr0 (m := 100) (k0 := 55) (L' := la_127) d_Mo_init_80 rfl gm_36 rfl (by decide) rfl (fun _ => rfl) rfl ⟨Nat.le_of_ble_eq_true rfl, Nat.le_of_ble_eq_true rfl⟩ (nc' := 10) (ns' := 670) rfl rfl ?_
  refine ev_putFR (L' := la_128) d_Mo_init_82 rfl lk_Mo_37 fp_Mo_12 rfl rfl (Or.inr ⟨_, rfl⟩) lz_127_45 (by decide) rfl ?_
  refine ev_aload_n (i := 0) d_Mo_init_85 rfl rfl rfl ?_
  refine ev_bipush d_Mo_init_86 rfl (by decide +kernel) ⟨by decide, by decide⟩ ?_
  refine ev_cArr0 (m := 24) (k0 := 56) (L' := la_129) d_Mo_init_88 rfl gm_36 rfl (by decide) rfl (fun _ => rfl) rfl ⟨Nat.le_of_ble_eq_true rfl, Nat.le_of_ble_eq_true rfl⟩ (nc' := 11) (ns' := 694) rfl rfl ?_
  refine ev_putFR (L' := la_130) d_Mo_init_90 rfl lk_Mo_40 fp_Mo_14 rfl rfl (Or.inr ⟨_, rfl⟩) lz_129_45 (by decide) rfl ?_
  refine ev_aload_n (i := 0) d_Mo_init_93 rfl rfl rfl ?_
  refine ev_bipush d_Mo_init_94 rfl (by decide +kernel) ⟨by decide, by decide⟩ ?_
  refine ev_cArr0 (m := 72) (k0 := 57) (L' := la_131) d_Mo_init_96 rfl gm_36 rfl (by decide) rfl (fun _ => rfl) rfl ⟨Nat.le_of_ble_eq_true rfl, Nat.le_of_ble_eq_true rfl⟩ (nc' := 12) (ns' := 766) rfl rfl ?_
  refine ev_putFR (L' := la_132) d_Mo_init_98 rfl lk_Mo_43 fp_Mo_15 rfl rfl (Or.inr ⟨_, rfl⟩) lz_131_45 (by decide) rfl ?_
  refine ev_aload_n (i := 0) d_Mo_init_101 rfl rfl rfl ?_
  refine ev_bipush d_Mo_init_102 rfl (by decide +kernel) ⟨by decide, by decide⟩ ?_
  refine ev_cArr0 (m := 24) (k0 := 58) (L' := la_133) d_Mo_init_104 rfl gm_36 rfl (by decide) rfl (fun _ => rfl) rfl ⟨Nat.le_of_ble_eq_true rfl, Nat.le_of_ble_eq_true rfl⟩ (nc' := 13) (ns' := 790) rfl rfl ?_
  refine ev_putFR (L' := la_134) d_Mo_init_106 rfl lk_Mo_46 fp_Mo_16 rfl rfl (Or.inr ⟨_, rfl⟩) lz_133_45 (by decide) rfl ?_
  refine ev_aload_n (i := 0) d_Mo_init_109 rfl rfl rfl ?_
  refine ev_sipush d_Mo_init_110 rfl (by decide +kernel) ⟨by decide, by decide⟩ ?_
  refine ev_cArr0 (m := 201) (k0 := 59) (L' := la_135) d_Mo_init_113 rfl gm_36 rfl (by decide) rfl (fun _ => rfl) rfl ⟨Nat.le_of_ble_eq_true rfl, Nat.le_of_ble_eq_true rfl⟩ (nc' := 14) (ns' := 991) rfl rfl ?_
  refine ev_putFR (L' := la_136) d_Mo_init_115 rfl lk_Mo_49 fp_Mo_19 rfl rfl (Or.inr ⟨_, rfl⟩) lz_135_45 (by decide) rfl ?_
  refine ev_aload_n (i := 0) d_Mo_init_118 rfl rfl rfl ?_
  refine ev_sipush d_Mo_init_119 rfl (by decide +kernel) ⟨by decide, by decide⟩ ?_
  refine ev_cArr0 (m := 201) (k0 := 60) (L' := la_137) d_Mo_init_122 rfl gm_36 rfl (by decide) rfl (fun _ => rfl) rfl ⟨Nat.le_of_ble_eq_true rfl, Nat.le_of_ble_eq_true rfl⟩ (nc' := 15) (ns' := 1192) rfl rfl ?_
  refine ev_putFR (L' := la_138) d_Mo_init_124 rfl lk_Mo_52 fp_Mo_20 rfl rfl (Or.inr ⟨_, rfl⟩) lz_137_45 (by decide) rfl ?_
  refine ev_aload_n (i := 0) d_Mo_init_127 rfl rfl rfl ?_
  refine ev_sipush d_Mo_init_128 rfl (by decide +kernel) ⟨by decide, by decide⟩ ?_
  refine ev_cArr0 (m := 201) (k0 := 61) (L' := la_139) d_Mo_init_131 rfl gm_36 rfl (by decide) rfl (fun _ => rfl) rfl ⟨Nat.le_of_ble_eq_true rfl, Nat.le_of_ble_eq_true rfl⟩ (nc' := 16) (ns' := 1393) rfl rfl ?_
  refine ev_putFR (L' := la_140) d_Mo_init_133 rfl lk_Mo_55 fp_Mo_21 rfl rfl (Or.inr ⟨_, rfl⟩) lz_139_45 (by decide) rfl ?_
  refine ev_aload_n (i := 0) d_Mo_init_136 rfl rfl rfl ?_
  refine ev_sipush d_Mo_init_137 rfl (by decide +kernel) ⟨by decide, by decide⟩ ?_
  refine ev_cArr0 (m := 200) (k0 := 62) (L' := la_141) d_Mo_init_140 rfl gm_36 rfl (by decide) rfl (fun _ => rfl) rfl ⟨Nat.le_of_ble_eq_true rfl, Nat.le_of_ble_eq_true rfl⟩ (nc' := 17) (ns' := 1593) rfl rfl ?_
  refine ev_putFR (L' := la_142) d_Mo_init_142 rfl lk_Mo_58 fp_Mo_23 rfl rfl (Or.inr ⟨_, rfl⟩) lz_141_45 (by decide) rfl ?_
  refine ev_aload_n (i := 0) d_Mo_init_145 rfl rfl rfl ?_
  refine ev_sipush d_Mo_init_146 rfl (by decide +kernel) ⟨by decide, by decide⟩ ?_
  refine ev_cArr0 (m := 200) (k0 := 63) (L' := la_143) d_Mo_init_149 rfl gm_36 rfl (by decide) rfl (fun _ => rfl) rfl ⟨Nat.le_of_ble_eq_true rfl, Nat.le_of_ble_eq_true rfl⟩ (nc' := 18) (ns' := 1793) rfl rfl ?_
  refine ev_putFR (L' := la_144) d_Mo_init_151 rfl lk_Mo_61 fp_Mo_24 rfl rfl (Or.inr ⟨_, rfl⟩) lz_143_45 (by decide) rfl ?_
  refine ev_aload_n (i := 0) d_Mo_init_154 rfl rfl rfl ?_
  refine ev_bipush d_Mo_init_155 rfl (by decide +kernel) ⟨by decide, by decide⟩ ?_
  refine ev_cArr1 (m := 8) (k0 := 64) (L' := la_145) d_Mo_init_157 rfl gm_63 rfl (by decide) rfl (fun _ => rfl) rfl ⟨Nat.le_of_ble_eq_true rfl, Nat.le_of_ble_eq_true rfl⟩ (nc' := 19) (ns' := 1801) rfl rfl ?_
  refine ev_putFR (L' := la_146) d_Mo_init_159 rfl lk_Mo_64 fp_Mo_25 rfl rfl (Or.inr ⟨_, rfl⟩) lz_145_45 (by decide) rfl ?_
  refine ev_aload_n (i := 0) d_Mo_init_162 rfl rfl rfl ?_
  refine ev_bipush d_Mo_init_163 rfl (by decide +kernel) ⟨by decide, by decide⟩ ?_
  refine ev_cArr0 (m := 8) (k0 := 65) (L' := la_147) d_Mo_init_165 rfl gm_36 rfl (by decide) rfl (fun _ => rfl) rfl ⟨Nat.le_of_ble_eq_true rfl, Nat.le_of_ble_eq_true rfl⟩ (nc' := 20) (ns' := 1809) rfl rfl ?_
  refine ev_putFR (L' := la_148) d_Mo_init_167 rfl lk_Mo_68 fp_Mo_26 rfl rfl (Or.inr ⟨_, rfl⟩) lz_147_45 (by decide) rfl ?_
  refine ev_aload_n (i := 0) d_Mo_init_170 rfl rfl rfl ?_
  refine ev_iconst d_Mo_init_171 rfl ⟨by decide, by decide⟩ ?_
  refine ev_cArr1 (m := 3) (k0 := 66) (L' := la_149) d_Mo_init_172 rfl gm_63 rfl (by decide) rfl (fun _ => rfl) rfl ⟨Nat.le_of_ble_eq_true rfl, Nat.le_of_ble_eq_true rfl⟩ (nc' := 21) (ns' := 1812) rfl rfl ?_
  refine ev_putFR (L' := la_150) d_Mo_init_174 rfl lk_Mo_71 fp_Mo_27 rfl rfl (Or.inr ⟨_, rfl⟩) lz_149_45 (by decide) rfl ?_
  refine ev_aload_n (i := 0) d_Mo_init_177 rfl rfl rfl ?_
  refine ev_sipush d_Mo_init_178 rfl (by decide +kernel) ⟨by decide, by decide⟩ ?_
  refine ev_cArr0 (m := 1200) (k0 := 67) (L' := la_151) d_Mo_init_181 rfl gm_36 rfl (by decide) rfl (fun _ => rfl) rfl ⟨Nat.le_of_ble_eq_true rfl, Nat.le_of_ble_eq_true rfl⟩ (nc' := 22) (ns' := 3012) rfl rfl ?_
  refine ev_putFR (L' := la_152) d_Mo_init_183 rfl lk_Mo_74 fp_Mo_28 rfl rfl (Or.inr ⟨_, rfl⟩) lz_151_45 (by decide) rfl ?_
  refine ev_aload_n (i := 0) d_Mo_init_186 rfl rfl rfl ?_
  refine ev_sipush d_Mo_init_187 rfl (by decide +kernel) ⟨by decide, by decide⟩ ?_
  refine ev_cArr0 (m := 730) (k0 := 68) (L' := la_153) d_Mo_init_190 rfl gm_36 rfl (by decide) rfl (fun _ => rfl) rfl ⟨Nat.le_of_ble_eq_true rfl, Nat.le_of_ble_eq_true rfl⟩ (nc' := 23) (ns' := 3742) rfl rfl ?_
  refine ev_putFR (L' := la_154) d_Mo_init_192 rfl lk_Mo_77 fp_Mo_30 rfl rfl (Or.inr ⟨_, rfl⟩) lz_153_45 (by decide) rfl ?_
  refine ev_aload_n (i := 0) d_Mo_init_195 rfl rfl rfl ?_
  refine ev_sipush d_Mo_init_196 rfl (by decide +kernel) ⟨by decide, by decide⟩ ?_
  refine ev_cArr0 (m := 2190) (k0 := 69) (L' := la_155) d_Mo_init_199 rfl gm_36 rfl (by decide) rfl (fun _ => rfl) rfl ⟨Nat.le_of_ble_eq_true rfl, Nat.le_of_ble_eq_true rfl⟩ (nc' := 24) (ns' := 5932) rfl rfl ?_
  refine ev_putFR (L' := la_156) d_Mo_init_201 rfl lk_Mo_80 fp_Mo_31 rfl rfl (Or.inr ⟨_, rfl⟩) lz_155_45 (by decide) rfl ?_
  refine ev_aload_n (i := 0) d_Mo_init_204 rfl rfl rfl ?_
  refine ev_sipush d_Mo_init_205 rfl (by decide +kernel) ⟨by decide, by decide⟩ ?_
  refine ev_cArr0 (m := 730) (k0 := 70) (L' := la_157) d_Mo_init_208 rfl gm_36 rfl (by decide) rfl (fun _ => rfl) rfl ⟨Nat.le_of_ble_eq_true rfl, Nat.le_of_ble_eq_true rfl⟩ (nc' := 25) (ns' := 6662) rfl rfl ?_
  refine ev_putFR (L' := la_158) d_Mo_init_210 rfl lk_Mo_83 fp_Mo_32 rfl rfl (Or.inr ⟨_, rfl⟩) lz_157_45 (by decide) rfl ?_
  refine ev_aload_n (i := 0) d_Mo_init_213 rfl rfl rfl ?_
  refine ev_sipush d_Mo_init_214 rfl (by decide +kernel) ⟨by decide, by decide⟩ ?_
  refine ev_cArr0 (m := 3700) (k0 := 71) (L' := la_159) d_Mo_init_217 rfl gm_36 rfl (by decide) rfl (fun _ => rfl) rfl ⟨Nat.le_of_ble_eq_true rfl, Nat.le_of_ble_eq_true rfl⟩ (nc' := 26) (ns' := 10362) rfl rfl ?_
  refine ev_putFR (L' := la_160) d_Mo_init_219 rfl lk_Mo_86 fp_Mo_36 rfl rfl (Or.inr ⟨_, rfl⟩) lz_159_45 (by decide) rfl ?_
  refine ev_aload_n (i := 0) d_Mo_init_222 rfl rfl rfl ?_
  refine ev_sipush d_Mo_init_223 rfl (by decide +kernel) ⟨by decide, by decide⟩ ?_
  refine ev_cArr0 (m := 3700) (k0 := 72) (L' := la_161) d_Mo_init_226 rfl gm_36 rfl (by decide) rfl (fun _ => rfl) rfl ⟨Nat.le_of_ble_eq_true rfl, Nat.le_of_ble_eq_true rfl⟩ (nc' := 27) (ns' := 14062) rfl rfl ?_
  refine ev_putFR (L' := la_162) d_Mo_init_228 rfl lk_Mo_89 fp_Mo_37 rfl rfl (Or.inr ⟨_, rfl⟩) lz_161_45 (by decide) rfl ?_
  refine ev_aload_n (i := 0) d_Mo_init_231 rfl rfl rfl ?_
  refine ev_sipush d_Mo_init_232 rfl (by decide +kernel) ⟨by decide, by decide⟩ ?_
  refine ev_cArr0 (m := 2500) (k0 := 73) (L' := la_163) d_Mo_init_235 rfl gm_36 rfl (by decide) rfl (fun _ => rfl) rfl ⟨Nat.le_of_ble_eq_true rfl, Nat.le_of_ble_eq_true rfl⟩ (nc' := 28) (ns' := 16562) rfl rfl ?_
  refine ev_putFR (L' := la_164) d_Mo_init_237 rfl lk_Mo_92 fp_Mo_39 rfl rfl (Or.inr ⟨_, rfl⟩) lz_163_45 (by decide) rfl ?_
  refine ev_aload_n (i := 0) d_Mo_init_240 rfl rfl rfl ?_
  refine ev_sipush d_Mo_init_241 rfl (by decide +kernel) ⟨by decide, by decide⟩ ?_
  refine ev_cArr0 (m := 1640) (k0 := 74) (L' := la_165) d_Mo_init_244 rfl gm_36 rfl (by decide) rfl (fun _ => rfl) rfl ⟨Nat.le_of_ble_eq_true rfl, Nat.le_of_ble_eq_true rfl⟩ (nc' := 29) (ns' := 18202) rfl rfl ?_
  refine ev_putFR (L' := la_166) d_Mo_init_246 rfl lk_Mo_95 fp_Mo_40 rfl rfl (Or.inr ⟨_, rfl⟩) lz_165_45 (by decide) rfl ?_
  refine ev_aload_n (i := 0) d_Mo_init_249 rfl rfl rfl ?_
  refine ev_iconst d_Mo_init_250 rfl ⟨by decide, by decide⟩ ?_
  refine ev_cArr0 (m := 3) (k0 := 75) (L' := la_167) d_Mo_init_251 rfl gm_36 rfl (by decide) rfl (fun _ => rfl) rfl ⟨Nat.le_of_ble_eq_true rfl, Nat.le_of_ble_eq_true rfl⟩ (nc' := 30) (ns' := 18205) rfl rfl ?_
  refine ev_putFR (L' := la_168) d_Mo_init_253 rfl lk_Mo_98 fp_Mo_41 rfl rfl (Or.inr ⟨_, rfl⟩) lz_167_45 (by decide) rfl ?_
  refine ev_aload_n (i := 0) d_Mo_init_256 rfl rfl rfl ?_
  refine ev_bipush d_Mo_init_257 rfl (by decide +kernel) ⟨by decide, by decide⟩ ?_
  refine ev_cArr0 (m := 60) (k0 := 76) (L' := la_169) d_Mo_init_259 rfl gm_36 rfl (by decide) rfl (fun _ => rfl) rfl ⟨Nat.le_of_ble_eq_true rfl, Nat.le_of_ble_eq_true rfl⟩ (nc' := 31) (ns' := 18265) rfl rfl ?_
  refine ev_putFR (L' := la_170) d_Mo_init_261 rfl lk_Mo_101 fp_Mo_43 rfl rfl (Or.inr ⟨_, rfl⟩) lz_169_45 (by decide) rfl ?_
  exact ev_retV d_Mo_init_264 rfl
