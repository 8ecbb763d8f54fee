theorem c_En_arcs (d : Nat) (M : g_M) (x : Nat) (hx : x < 16777216) : Con y_En_arcs w_En_arcs (g_rm (d)) LX M [g_i (x : Int)] LX M (some (g_i ((x % 512 : Nat) : Int))) := by
  refine con_of (av := [g_i (x : Int)]) (ls0 := [some (g_i (x : Int))]) (by decide) rfl (Nat.le_of_ble_eq_true rfl) (g_hls (av := [g_i (x : Int)]) (k := 0)) (fun _ h9 => List.mem_cons_of_mem _ h9) ?_
  refine ev_iload_n (i := 0) d_En_arcs_0 rfl rfl rfl ?_
  refine ev_sipush d_En_arcs_1 rfl (by decide +kernel) ⟨by decide, by decide⟩ ?_
  refine ev_iand (z := ((x % 512 : Nat) : Int)) d_En_arcs_4 rfl (by rw [show ((511 : Int)) = (((511 : Nat)) : Int) from rfl, g_b_and (by omega) (by omega), o_and_511]) ?_
  exact ev_retI d_En_arcs_5 (by first | rfl | omega | simp_all) rfl (Or.inl rfl)
theorem c_En_strict (d : Nat) (M : g_M) (x : Nat) (hx : x < 16777216) : Con y_En_strict w_En_strict (g_rm (d)) LX M [g_i (x : Int)] LX M (some (g_i ((x / 512 % 512 : Nat) : Int))) := by
  refine con_of (av := [g_i (x : Int)]) (ls0 := [some (g_i (x : Int))]) (by decide) rfl (Nat.le_of_ble_eq_true rfl) (g_hls (av := [g_i (x : Int)]) (k := 0)) (fun _ h9 => List.mem_cons_of_mem _ h9) ?_
  refine ev_iload_n (i := 0) d_En_strict_0 rfl rfl rfl ?_
  refine ev_bipush d_En_strict_1 rfl (by decide +kernel) ⟨by decide, by decide⟩ ?_
  refine ev_ishr (z := ((x / 2 ^ 9 : Nat) : Int)) d_En_strict_3 rfl (by rw [show ((9 : Int)) = (((9 : Nat)) : Int) from rfl]; exact g_b_shr (by omega) (by omega)) ?_
  refine ev_sipush d_En_strict_4 rfl (by decide +kernel) ⟨by decide, by decide⟩ ?_
  refine ev_iand (z := ((x / 512 % 512 : Nat) : Int)) d_En_strict_7 rfl (by have h9 : x / 2 ^ 9 ≤ x := Nat.div_le_self _ _; rw [show ((511 : Int)) = (((511 : Nat)) : Int) from rfl, g_b_and (by omega) (by omega), o_and_511]) ?_
  exact ev_retI d_En_strict_8 (by first | rfl | omega | simp_all) rfl (Or.inl rfl)
theorem c_En_to (d : Nat) (M : g_M) (x : Nat) (hx : x < 16777216) : Con y_En_to w_En_to (g_rm (d)) LX M [g_i (x : Int)] LX M (some (g_i ((o_t x : Nat) : Int))) := by
  refine con_of (av := [g_i (x : Int)]) (ls0 := [some (g_i (x : Int))]) (by decide) rfl (Nat.le_of_ble_eq_true rfl) (g_hls (av := [g_i (x : Int)]) (k := 0)) (fun _ h9 => List.mem_cons_of_mem _ h9) ?_
  refine ev_iload_n (i := 0) d_En_to_0 rfl rfl rfl ?_
  refine ev_bipush d_En_to_1 rfl (by decide +kernel) ⟨by decide, by decide⟩ ?_
  refine ev_ishr (z := ((x / 2 ^ 18 : Nat) : Int)) d_En_to_3 rfl (by rw [show ((18 : Int)) = (((18 : Nat)) : Int) from rfl]; exact g_b_shr (by omega) (by omega)) ?_
  refine ev_bipush d_En_to_4 rfl (by decide +kernel) ⟨by decide, by decide⟩ ?_
  refine ev_iand (z := ((o_t x : Nat) : Int)) d_En_to_6 rfl (by have h9 : x / 2 ^ 18 ≤ x := Nat.div_le_self _ _; rw [show ((7 : Int)) = (((7 : Nat)) : Int) from rfl, g_b_and (by omega) (by omega), o_and_7]; rfl) ?_
  exact ev_retI d_En_to_7 (by first | rfl | omega | simp_all) rfl (Or.inl rfl)
theorem c_En_from (d : Nat) (M : g_M) (x : Nat) (hx : x < 16777216) : Con y_En_from w_En_from (g_rm (d)) LX M [g_i (x : Int)] LX M (some (g_i ((o_f x : Nat) : Int))) := by
  refine con_of (av := [g_i (x : Int)]) (ls0 := [some (g_i (x : Int))]) (by decide) rfl (Nat.le_of_ble_eq_true rfl) (g_hls (av := [g_i (x : Int)]) (k := 0)) (fun _ h9 => List.mem_cons_of_mem _ h9) ?_
  refine ev_iload_n (i := 0) d_En_from_0 rfl rfl rfl ?_
  refine ev_bipush d_En_from_1 rfl (by decide +kernel) ⟨by decide, by decide⟩ ?_
  refine ev_ishr (z := ((o_f x : Nat) : Int)) d_En_from_3 rfl (by rw [show ((21 : Int)) = (((21 : Nat)) : Int) from rfl]; exact g_b_shr (by omega) (by omega)) ?_
  exact ev_retI d_En_from_4 (by first | rfl | omega | simp_all) rfl (Or.inl rfl)
theorem c_En_code (d : Nat) (M : g_M) (f g a s : Nat) (hf : f < 8) (hg : g < 8) (ha : a < 512) (hs : s < 512) : Con y_En_code w_En_code (g_rm (d)) LX M [g_i (f : Int), g_i (g : Int), g_i (a : Int), g_i (s : Int)] LX M (some (g_i ((2 ^ 9 * (2 ^ 9 * (8 * f + g) + s) + a : Nat) : Int))) := by
  refine con_of (av := [g_i (f : Int), g_i (g : Int), g_i (a : Int), g_i (s : Int)]) (ls0 := [some (g_i (f : Int)), some (g_i (g : Int)), some (g_i (a : Int)), some (g_i (s : Int)), none]) (by decide) rfl (Nat.le_of_ble_eq_true rfl) (g_hls (av := [g_i (f : Int), g_i (g : Int), g_i (a : Int), g_i (s : Int)]) (k := 1)) (fun _ h9 => List.mem_cons_of_mem _ h9) ?_
  have e1 : f * 8 ||| g < 2 ^ 6 := Nat.or_lt_two_pow (by omega) (by omega)
  have e2 : (f * 8 ||| g) * 512 ||| s < 2 ^ 15 := Nat.or_lt_two_pow (by omega) (by omega)
  refine ev_iload_n (i := 0) d_En_code_0 rfl rfl rfl ?_
  refine ev_iconst d_En_code_1 rfl ⟨by decide, by decide⟩ ?_
  refine ev_ishl (z := ((f * 8 : Nat) : Int)) d_En_code_2 rfl (by rw [show ((3 : Int)) = (((3 : Nat)) : Int) from rfl]; exact g_b_shl (by decide) (by omega)) ?_
  refine ev_iload_n (i := 1) d_En_code_3 rfl rfl rfl ?_
  refine ev_ior (z := ((f * 8 ||| g : Nat) : Int)) d_En_code_4 rfl (g_b_or (by omega) (by omega)) ?_
  refine ev_istore (i := 4) d_En_code_5 rfl (by decide) rfl ?_
  refine ev_iload (i := 4) d_En_code_7 rfl rfl ?_
  refine ev_bipush d_En_code_9 rfl (by decide +kernel) ⟨by decide, by decide⟩ ?_
  refine ev_ishl (z := (((f * 8 ||| g) * 512 : Nat) : Int)) d_En_code_11 rfl (by rw [show ((9 : Int)) = (((9 : Nat)) : Int) from rfl]; exact g_b_shl (by decide) (by omega)) ?_
  refine ev_iload_n (i := 3) d_En_code_12 rfl rfl rfl ?_
  refine ev_ior (z := (((f * 8 ||| g) * 512 ||| s : Nat) : Int)) d_En_code_13 rfl (g_b_or (by omega) (by omega)) ?_
  refine ev_bipush d_En_code_14 rfl (by decide +kernel) ⟨by decide, by decide⟩ ?_
  refine ev_ishl (z := ((((f * 8 ||| g) * 512 ||| s) * 512 : Nat) : Int)) d_En_code_16 rfl (by rw [show ((9 : Int)) = (((9 : Nat)) : Int) from rfl]; exact g_b_shl (by decide) (by omega)) ?_
  refine ev_iload_n (i := 2) d_En_code_17 rfl rfl rfl ?_
  refine ev_ior (z := ((2 ^ 9 * (2 ^ 9 * (8 * f + g) + s) + a : Nat) : Int)) d_En_code_18 rfl (by rw [g_b_or (by omega) (by omega), o_code hg ha hs]) ?_
  exact ev_retI d_En_code_19 (by first | rfl | omega | simp_all) rfl (Or.inl rfl)
theorem c_En_compose (d : Nat) (M : g_M) (x y : Nat) (hx : x < 16777216) (hy : y < 16777216) : Con y_En_compose w_En_compose (g_rm (d + 1)) LX M [g_i (x : Int), g_i (y : Int)] LX M (some (g_i ((o_c x y : Nat) : Int))) := by
  refine con_of (av := [g_i (x : Int), g_i (y : Int)]) (ls0 := [some (g_i (x : Int)), some (g_i (y : Int)), none, none, none, none, none, none, none]) (by decide) rfl (Nat.le_of_ble_eq_true rfl) (g_hls (av := [g_i (x : Int), g_i (y : Int)]) (k := 7)) (fun _ h9 => List.mem_cons_of_mem _ h9) ?_
  refine ev_iconst d_En_compose_0 rfl ⟨by decide, by decide⟩ ?_
  refine ev_istore_n (i := 2) d_En_compose_1 rfl rfl (by decide) rfl ?_
  refine ev_iconst d_En_compose_2 rfl ⟨by decide, by decide⟩ ?_
  refine ev_istore_n (i := 3) d_En_compose_3 rfl rfl (by decide) rfl ?_
  refine ev_iconst d_En_compose_4 rfl ⟨by decide, by decide⟩ ?_
  refine ev_istore (i := 4) d_En_compose_5 rfl (by decide) rfl ?_
  refine ev_wl (fun n ls1 => ∃ j : Nat, j ≤ 3 ∧ n = 3 - j ∧ ls1 = [some (g_i (x : Int)), some (g_i (y : Int)), some (g_i (((o_e (o_jA x y j) 9) : Nat) : Int)), some (g_i (((o_e (o_jS x y j) 9) : Nat) : Int)), some (g_i (j : Int)), none, none, none, none]) ?_ (n := 3) (⟨0, Nat.zero_le _, rfl, rfl⟩)
  intro n ls1 hP ih
  obtain ⟨j, hj, hn, rfl⟩ := hP
  have hA9 := o_e_lt (o_jA x y j) 9
  have hS9 := o_e_lt (o_jS x y j) 9
  refine ev_iload (i := 4) d_En_compose_7 rfl rfl ?_
  refine ev_iconst d_En_compose_9 rfl ⟨by decide, by decide⟩ ?_
  refine ev_icmp_ge (tgt := 93) d_En_compose_10 (by decide) rfl (fun hz => ?_) (fun hz => ?_)
  · refine ev_iload_n (i := 0) d_En_compose_93 rfl rfl rfl ?_
    refine ev_callS (As := [g_i (x : Int)]) d_En_compose_94 rfl cl_En_102 (c_En_from (d + 0) M x hx) (g_hR (by decide)) g_h0 rfl rfl (Nat.le_of_ble_eq_true rfl) rfl rfl ?_
    refine ev_iload_n (i := 1) d_En_compose_97 rfl rfl rfl ?_
    refine ev_callS (As := [g_i (y : Int)]) d_En_compose_98 rfl cl_En_99 (c_En_to (d + 0) M y hy) (g_hR (by decide)) g_h0 rfl rfl (Nat.le_of_ble_eq_true rfl) rfl rfl ?_
    refine ev_iload_n (i := 2) d_En_compose_101 rfl rfl rfl ?_
    refine ev_iload_n (i := 3) d_En_compose_102 rfl rfl rfl ?_
    refine ev_callS (As := [g_i ((o_f x : Nat) : Int), g_i ((o_t y : Nat) : Int), g_i (((o_e (o_jA x y j) 9) : Nat) : Int), g_i (((o_e (o_jS x y j) 9) : Nat) : Int)]) d_En_compose_103 rfl cl_En_120 (c_En_code (d + 0) M (o_f x) (o_t y) (o_e (o_jA x y j) 9) (o_e (o_jS x y j) 9) (by unfold o_f; omega) (o_t_lt y) (by omega) (by omega)) (g_hR (by decide)) g_h0 rfl rfl (Nat.le_of_ble_eq_true rfl) rfl rfl ?_
    exact ev_retI d_En_compose_106 (by have e : j = 3 := (by omega); subst e; rfl) rfl (Or.inl rfl)
  · refine ev_iload_n (i := 0) d_En_compose_13 rfl rfl rfl ?_
    refine ev_callS (As := [g_i (x : Int)]) d_En_compose_14 rfl cl_En_125 (c_En_arcs (d + 0) M x hx) (g_hR (by decide)) g_h0 rfl rfl (Nat.le_of_ble_eq_true rfl) rfl rfl ?_
    refine ev_iload (i := 4) d_En_compose_17 rfl rfl ?_
    refine ev_ishr (z := ((x % 512 / 2 ^ j : Nat) : Int)) d_En_compose_19 rfl (g_b_shr (by omega) (by omega)) ?_
    refine ev_bipush d_En_compose_20 rfl (by decide +kernel) ⟨by decide, by decide⟩ ?_
    refine ev_iand (z := ((x % 512 / 2 ^ j &&& 73 : Nat) : Int)) d_En_compose_22 rfl (by have h9 : x % 512 / 2 ^ j ≤ 512 := (by have := Nat.div_le_self (x % 512) (2 ^ j); omega); rw [show ((73 : Int)) = (((73 : Nat)) : Int) from rfl, g_b_and (by omega) (by omega)]) ?_
    refine ev_istore (i := 5) d_En_compose_23 rfl (by decide) rfl ?_
    refine ev_iload_n (i := 0) d_En_compose_25 rfl rfl rfl ?_
    refine ev_callS (As := [g_i (x : Int)]) d_En_compose_26 rfl cl_En_128 (c_En_strict (d + 0) M x hx) (g_hR (by decide)) g_h0 rfl rfl (Nat.le_of_ble_eq_true rfl) rfl rfl ?_
    refine ev_iload (i := 4) d_En_compose_29 rfl rfl ?_
    refine ev_ishr (z := ((x / 512 % 512 / 2 ^ j : Nat) : Int)) d_En_compose_31 rfl (g_b_shr (by omega) (by omega)) ?_
    refine ev_bipush d_En_compose_32 rfl (by decide +kernel) ⟨by decide, by decide⟩ ?_
    refine ev_iand (z := ((x / 512 % 512 / 2 ^ j &&& 73 : Nat) : Int)) d_En_compose_34 rfl (by have h9 : x / 512 % 512 / 2 ^ j ≤ 512 := (by have := Nat.div_le_self (x / 512 % 512) (2 ^ j); omega); rw [show ((73 : Int)) = (((73 : Nat)) : Int) from rfl, g_b_and (by omega) (by omega)]) ?_
    refine ev_istore (i := 6) d_En_compose_35 rfl (by decide) rfl ?_
    refine ev_iload_n (i := 1) d_En_compose_37 rfl rfl rfl ?_
    refine ev_callS (As := [g_i (y : Int)]) d_En_compose_38 rfl cl_En_125 (c_En_arcs (d + 0) M y hy) (g_hR (by decide)) g_h0 rfl rfl (Nat.le_of_ble_eq_true rfl) rfl rfl ?_
    refine ev_iconst d_En_compose_41 rfl ⟨by decide, by decide⟩ ?_
    refine ev_iload (i := 4) d_En_compose_42 rfl rfl ?_
    refine ev_imul (z := ((3 * j : Nat) : Int)) d_En_compose_44 rfl (by rw [g_w_id (by unfold g_rg; omega)]; omega) ?_
    refine ev_ishr (z := ((y % 512 / 2 ^ (3 * j) : Nat) : Int)) d_En_compose_45 rfl (g_b_shr (by omega) (by omega)) ?_
    refine ev_bipush d_En_compose_46 rfl (by decide +kernel) ⟨by decide, by decide⟩ ?_
    refine ev_iand (z := ((y % 512 / 2 ^ (3 * j) &&& 7 : Nat) : Int)) d_En_compose_48 rfl (by have h9 : y % 512 / 2 ^ (3 * j) ≤ 512 := (by have := Nat.div_le_self (y % 512) (2 ^ (3 * j)); omega); rw [show ((7 : Int)) = (((7 : Nat)) : Int) from rfl, g_b_and (by omega) (by omega)]) ?_
    refine ev_istore (i := 7) d_En_compose_49 rfl (by decide) rfl ?_
    refine ev_iload_n (i := 1) d_En_compose_51 rfl rfl rfl ?_
    refine ev_callS (As := [g_i (y : Int)]) d_En_compose_52 rfl cl_En_128 (c_En_strict (d + 0) M y hy) (g_hR (by decide)) g_h0 rfl rfl (Nat.le_of_ble_eq_true rfl) rfl rfl ?_
    refine ev_iconst d_En_compose_55 rfl ⟨by decide, by decide⟩ ?_
    refine ev_iload (i := 4) d_En_compose_56 rfl rfl ?_
    refine ev_imul (z := ((3 * j : Nat) : Int)) d_En_compose_58 rfl (by rw [g_w_id (by unfold g_rg; omega)]; omega) ?_
    refine ev_ishr (z := ((y / 512 % 512 / 2 ^ (3 * j) : Nat) : Int)) d_En_compose_59 rfl (g_b_shr (by omega) (by omega)) ?_
    refine ev_bipush d_En_compose_60 rfl (by decide +kernel) ⟨by decide, by decide⟩ ?_
    refine ev_iand (z := ((y / 512 % 512 / 2 ^ (3 * j) &&& 7 : Nat) : Int)) d_En_compose_62 rfl (by have h9 : y / 512 % 512 / 2 ^ (3 * j) ≤ 512 := (by have := Nat.div_le_self (y / 512 % 512) (2 ^ (3 * j)); omega); rw [show ((7 : Int)) = (((7 : Nat)) : Int) from rfl, g_b_and (by omega) (by omega)]) ?_
    refine ev_istore (i := 8) d_En_compose_63 rfl (by decide) rfl ?_
    have k1 := (o_cr x y j (by omega)).1
    have k2 := (o_cr (x / 512) y j (by omega)).1
    have k3 := (o_cr x (y / 512) j (by omega)).1
    refine ev_iload_n (i := 2) d_En_compose_65 rfl rfl rfl ?_
    refine ev_iload (i := 5) d_En_compose_66 rfl rfl ?_
    refine ev_iload (i := 7) d_En_compose_68 rfl rfl ?_
    refine ev_imul (z := (((x % 512 / 2 ^ j &&& 73) * (y % 512 / 2 ^ (3 * j) &&& 7) : Nat) : Int)) d_En_compose_70 rfl (by rw [show (((x % 512 / 2 ^ j &&& 73) : Nat) : Int) * (((y % 512 / 2 ^ (3 * j) &&& 7) : Nat) : Int) = (((x % 512 / 2 ^ j &&& 73) * (y % 512 / 2 ^ (3 * j) &&& 7) : Nat) : Int) from (Int.natCast_mul _ _).symm, g_w_id (by unfold g_rg; omega)]) ?_
    refine ev_ior (z := (((o_e (o_jA x y (j + 1)) 9) : Nat) : Int)) d_En_compose_71 rfl (by rw [g_b_or (by omega) (by omega), o_jA_s (by omega)]) ?_
    refine ev_istore_n (i := 2) d_En_compose_72 rfl rfl (by decide) rfl ?_
    refine ev_iload_n (i := 3) d_En_compose_73 rfl rfl rfl ?_
    refine ev_iload (i := 6) d_En_compose_74 rfl rfl ?_
    refine ev_iload (i := 7) d_En_compose_76 rfl rfl ?_
    refine ev_imul (z := (((x / 512 % 512 / 2 ^ j &&& 73) * (y % 512 / 2 ^ (3 * j) &&& 7) : Nat) : Int)) d_En_compose_78 rfl (by rw [show (((x / 512 % 512 / 2 ^ j &&& 73) : Nat) : Int) * (((y % 512 / 2 ^ (3 * j) &&& 7) : Nat) : Int) = (((x / 512 % 512 / 2 ^ j &&& 73) * (y % 512 / 2 ^ (3 * j) &&& 7) : Nat) : Int) from (Int.natCast_mul _ _).symm, g_w_id (by unfold g_rg; omega)]) ?_
    refine ev_iload (i := 5) d_En_compose_79 rfl rfl ?_
    refine ev_iload (i := 8) d_En_compose_81 rfl rfl ?_
    refine ev_imul (z := (((x % 512 / 2 ^ j &&& 73) * (y / 512 % 512 / 2 ^ (3 * j) &&& 7) : Nat) : Int)) d_En_compose_83 rfl (by rw [show (((x % 512 / 2 ^ j &&& 73) : Nat) : Int) * (((y / 512 % 512 / 2 ^ (3 * j) &&& 7) : Nat) : Int) = (((x % 512 / 2 ^ j &&& 73) * (y / 512 % 512 / 2 ^ (3 * j) &&& 7) : Nat) : Int) from (Int.natCast_mul _ _).symm, g_w_id (by unfold g_rg; omega)]) ?_
    refine ev_ior (z := (((x / 512 % 512 / 2 ^ j &&& 73) * (y % 512 / 2 ^ (3 * j) &&& 7) ||| (x % 512 / 2 ^ j &&& 73) * (y / 512 % 512 / 2 ^ (3 * j) &&& 7) : Nat) : Int)) d_En_compose_84 rfl (g_b_or (by omega) (by omega)) ?_
    refine ev_ior (z := (((o_e (o_jS x y (j + 1)) 9) : Nat) : Int)) d_En_compose_85 rfl (by have k4 : (x / 512 % 512 / 2 ^ j &&& 73) * (y % 512 / 2 ^ (3 * j) &&& 7) ||| (x % 512 / 2 ^ j &&& 73) * (y / 512 % 512 / 2 ^ (3 * j) &&& 7) < 2 ^ 9 := Nat.or_lt_two_pow k2 k3; rw [g_b_or (by omega) (by omega), o_jS_s (by omega)]) ?_
    refine ev_istore_n (i := 3) d_En_compose_86 rfl rfl (by decide) rfl ?_
    refine ev_iinc (z := (j : Int) + 1) d_En_compose_87 rfl rfl (by decide) (g_w_id (by unfold g_rg; omega)) rfl ?_
    refine ev_goto (tgt := 7) d_En_compose_90 (by decide) ?_
    exact ev_le (ih (3 - (j + 1)) [some (g_i (x : Int)), some (g_i (y : Int)), some (g_i (((o_e (o_jA x y (j + 1)) 9) : Nat) : Int)), some (g_i (((o_e (o_jS x y (j + 1)) 9) : Nat) : Int)), some (g_i ((j + 1 : Nat) : Int)), none, none, none, none] (by omega) ⟨j + 1, by omega, rfl, rfl⟩) rfl ⟨rfl, rfl, rfl, rfl, rfl, trivial⟩
