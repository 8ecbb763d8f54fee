/-- the patterns of a new clause, the first i of them -/
def a_P (M : g_M) (m : Nat) (p q r : Int) (i : Nat) : g_M := fun k b => if k = 21 ∧ 3 * m ≤ b ∧ b < 3 * m + i then j_pk p q r (b - 3 * m) else M k b
theorem a_P_0 (M : g_M) (m : Nat) (p q r : Int) : M = a_P M m p q r 0 := by
  funext k b
  simp only [a_P]
  rw [if_neg (by omega)]
theorem a_P_s (M : g_M) (m : Nat) (p q r : Int) (i : Nat) : g_up (a_P M m p q r i) 21 (3 * m + i) (j_pk p q r i) = a_P M m p q r (i + 1) := by
  funext k b
  simp only [g_up, a_P]
  by_cases hk : k = 21
  · subst hk
    by_cases hb : b = 3 * m + i
    · subst hb
      rw [if_pos ⟨rfl, rfl⟩, if_pos ⟨rfl, by omega, by omega⟩, show 3 * m + i - 3 * m = i by omega]
    · rw [if_neg (by omega)]
      by_cases h : 3 * m ≤ b ∧ b < 3 * m + i
      · rw [if_pos ⟨rfl, h⟩, if_pos ⟨rfl, h.1, by omega⟩]
      · rw [if_neg (by omega), if_neg (by omega)]
  · rw [if_neg (fun h => hk h.1), if_neg (fun h => hk h.1), if_neg (fun h => hk h.1)]
theorem a_P_ne (M : g_M) (m : Nat) (p q r : Int) (i k b : Nat) (h : k ≠ 21) : a_P M m p q r i k b = M k b := if_neg (fun h9 => h h9.1)
theorem c_Cl_add (d : Nat) (M : g_M) (f w c m : Nat) (p q r b : Int) (hf : f < 6) (hw : M 7 f = w) (hw3 : w ≤ 3) (hm : M 19 7 = m) (hl : m < 24) (hc : M 24 f = c) (hc6 : c < 6) : Con y_Cl_add w_Cl_add (g_rm (d + 1)) LX M [g_r 19, g_i (f : Int), g_i p, g_i q, g_i r, g_i b] LX (g_up (g_up (g_up (a_P (g_up (g_up M 20 m (f : Int)) 22 m b) m p q r w) 23 (6 * f + c) (m : Int)) 24 f ((c : Int) + 1)) 19 7 ((m : Int) + 1)) (some (g_i ((m : Int) + 1))) := by
  refine con_of (av := [g_r 19, g_i (f : Int), g_i p, g_i q, g_i r, g_i b]) (ls0 := [some (g_r 19), some (g_i (f : Int)), some (g_i p), some (g_i q), some (g_i r), some (g_i b), none]) (by decide) rfl (Nat.le_of_ble_eq_true rfl) (g_hls (av := [g_r 19, g_i (f : Int), g_i p, g_i q, g_i r, g_i b]) (k := 1)) (fun _ h9 => List.mem_cons_of_mem _ h9) ?_
  refine ev_aload_n (i := 0) d_Cl_add_0 rfl rfl rfl ?_
  refine ev_getR d_Cl_add_1 rfl lk_Cl_19 lx_19 rfl ?_
  refine ev_aload_n (i := 0) d_Cl_add_4 rfl rfl rfl ?_
  refine ev_getI (z := (m : Int)) d_Cl_add_5 rfl lk_Cl_35 lx_19 rfl (hm) ?_
  refine ev_iload_n (i := 1) d_Cl_add_8 rfl rfl rfl ?_
  refine ev_iastore d_Cl_add_9 rfl lx_20 (by omega) (by omega) ?_
  rw [show Int.toNat (((m : Int))) = m by rfl]
  refine ev_aload_n (i := 0) d_Cl_add_10 rfl rfl rfl ?_
  refine ev_getR d_Cl_add_11 rfl lk_Cl_26 lx_19 rfl ?_
  refine ev_aload_n (i := 0) d_Cl_add_14 rfl rfl rfl ?_
  refine ev_getI (z := (m : Int)) d_Cl_add_15 rfl lk_Cl_35 lx_19 rfl (by simp [g_up, hm]) ?_
  refine ev_iload (i := 5) d_Cl_add_18 rfl rfl ?_
  refine ev_iastore d_Cl_add_20 rfl lx_22 (by omega) (by omega) ?_
  rw [show Int.toNat (((m : Int))) = m by rfl]
  refine ev_iconst d_Cl_add_21 rfl ⟨by decide, by decide⟩ ?_
  refine ev_istore (i := 6) d_Cl_add_22 rfl (by decide) rfl ?_
  refine ev_lp (fun i : Nat => [some (g_r 19), some (g_i (f : Int)), some (g_i p), some (g_i q), some (g_i r), some (g_i b), some (g_i (i : Int))]) (fun i : Nat => (a_P (g_up (g_up M 20 m (f : Int)) 22 m b) m p q r i)) w ?_ ?_ (rfl) (a_P_0 _ _ _ _ _)
  · intro i hi K24
    refine ev_iload (i := 6) d_Cl_add_24 rfl rfl ?_
    refine ev_aload_n (i := 0) d_Cl_add_26 rfl rfl rfl ?_
    refine ev_getR d_Cl_add_27 rfl lk_Cl_9 lx_19 rfl ?_
    refine ev_iload_n (i := 1) d_Cl_add_30 rfl rfl rfl ?_
    refine ev_callV (As := [g_i (f : Int)]) d_Cl_add_31 rfl cl_Cl_56 (c_Sg_width_f_w (d + 0) (a_P (g_up (g_up M 20 m (f : Int)) 22 m b) m p q r i) f w hf (by simp [g_up, a_P, hw])) (g_hR (by decide)) g_h0 lx_5 rfl rfl (Nat.le_of_ble_eq_true rfl) rfl rfl ?_
    refine ev_icmp_ge_f (tgt := 66) d_Cl_add_34 (by decide) rfl (by omega) ?_
    refine ev_aload_n (i := 0) d_Cl_add_37 rfl rfl rfl ?_
    refine ev_getR d_Cl_add_38 rfl lk_Cl_23 lx_19 rfl ?_
    refine ev_aload_n (i := 0) d_Cl_add_41 rfl rfl rfl ?_
    refine ev_getI (z := (m : Int)) d_Cl_add_42 rfl lk_Cl_35 lx_19 rfl (by simp [g_up, a_P, hm]) ?_
    refine ev_iconst d_Cl_add_45 rfl ⟨by decide, by decide⟩ ?_
    refine ev_imul (z := ((m : Int)) * 3) d_Cl_add_46 rfl (g_w_id (by unfold g_rg; omega)) ?_
    refine ev_iload (i := 6) d_Cl_add_47 rfl rfl ?_
    refine ev_iadd (z := (((m : Int)) * 3) + (i : Int)) d_Cl_add_49 rfl (g_w_id (by unfold g_rg; omega)) ?_
    refine ev_iload (i := 6) d_Cl_add_50 rfl rfl ?_
    refine ev_iload_n (i := 2) d_Cl_add_52 rfl rfl rfl ?_
    refine ev_iload_n (i := 3) d_Cl_add_53 rfl rfl rfl ?_
    refine ev_iload (i := 4) d_Cl_add_54 rfl rfl ?_
    refine ev_callN (As := [g_i (i : Int), g_i p, g_i q, g_i r]) d_Cl_add_56 rfl cl_Cl_39 (c_Fu_pickJ (d + 0) (a_P (g_up (g_up M 20 m (f : Int)) 22 m b) m p q r i) i p q r) (g_hR (by decide)) g_h0 rfl rfl (Nat.le_of_ble_eq_true rfl) rfl rfl ?_
    refine ev_iastore d_Cl_add_59 rfl lx_21 (by omega) (by omega) ?_
    rw [show Int.toNat (((((m : Int)) * 3) + (i : Int))) = 3 * m + i by omega]
    refine ev_iinc (z := (i : Int) + 1) d_Cl_add_60 rfl rfl (by decide) (g_w_id (by unfold g_rg; omega)) rfl ?_
    refine ev_goto (tgt := 24) d_Cl_add_63 (by decide) ?_
    exact ev_le K24 (a_P_s _ _ _ _ _ _) ⟨rfl, rfl, rfl, rfl, rfl, rfl, rfl, trivial⟩
  · refine ev_iload (i := 6) d_Cl_add_24 rfl rfl ?_
    refine ev_aload_n (i := 0) d_Cl_add_26 rfl rfl rfl ?_
    refine ev_getR d_Cl_add_27 rfl lk_Cl_9 lx_19 rfl ?_
    refine ev_iload_n (i := 1) d_Cl_add_30 rfl rfl rfl ?_
    refine ev_callV (As := [g_i (f : Int)]) d_Cl_add_31 rfl cl_Cl_56 (c_Sg_width_f_w (d + 0) (a_P (g_up (g_up M 20 m (f : Int)) 22 m b) m p q r w) f w hf (by simp [g_up, a_P, hw])) (g_hR (by decide)) g_h0 lx_5 rfl rfl (Nat.le_of_ble_eq_true rfl) rfl rfl ?_
    refine ev_icmp_ge_t (tgt := 66) d_Cl_add_34 (by decide) (by omega) ?_
    refine ev_aload_n (i := 0) d_Cl_add_66 rfl rfl rfl ?_
    refine ev_getR d_Cl_add_67 rfl lk_Cl_29 lx_19 rfl ?_
    refine ev_iload_n (i := 1) d_Cl_add_70 rfl rfl rfl ?_
    refine ev_bipush d_Cl_add_71 rfl (by decide +kernel) ⟨by decide, by decide⟩ ?_
    refine ev_imul (z := (f : Int) * 6) d_Cl_add_73 rfl (g_w_id (by unfold g_rg; omega)) ?_
    refine ev_aload_n (i := 0) d_Cl_add_74 rfl rfl rfl ?_
    refine ev_getR d_Cl_add_75 rfl lk_Cl_32 lx_19 rfl ?_
    refine ev_iload_n (i := 1) d_Cl_add_78 rfl rfl rfl ?_
    refine ev_iaload (z := (c : Int)) d_Cl_add_79 rfl lx_24 (by omega) (by omega) (by simp [g_up, a_P, hc]) ?_
    refine ev_iadd (z := ((f : Int) * 6) + ((c : Int))) d_Cl_add_80 rfl (g_w_id (by unfold g_rg; omega)) ?_
    refine ev_aload_n (i := 0) d_Cl_add_81 rfl rfl rfl ?_
    refine ev_getI (z := (m : Int)) d_Cl_add_82 rfl lk_Cl_35 lx_19 rfl (by simp [g_up, a_P, hm]) ?_
    refine ev_iastore d_Cl_add_85 rfl lx_23 (by omega) (by omega) ?_
    rw [show Int.toNat ((((f : Int) * 6) + ((c : Int)))) = 6 * f + c by omega]
    refine ev_aload_n (i := 0) d_Cl_add_86 rfl rfl rfl ?_
    refine ev_getR d_Cl_add_87 rfl lk_Cl_32 lx_19 rfl ?_
    refine ev_iload_n (i := 1) d_Cl_add_90 rfl rfl rfl ?_
    refine ev_dup2 d_Cl_add_91 rfl rfl rfl ?_
    refine ev_iaload (z := (c : Int)) d_Cl_add_92 rfl lx_24 (by omega) (by omega) (by simp [g_up, a_P, hc]) ?_
    refine ev_iconst d_Cl_add_93 rfl ⟨by decide, by decide⟩ ?_
    refine ev_iadd (z := ((c : Int)) + 1) d_Cl_add_94 rfl (g_w_id (by unfold g_rg; omega)) ?_
    refine ev_iastore d_Cl_add_95 rfl lx_24 (by omega) (by omega) ?_
    rw [show Int.toNat ((f : Int)) = f by rfl]
    refine ev_aload_n (i := 0) d_Cl_add_96 rfl rfl rfl ?_
    refine ev_dup d_Cl_add_97 rfl rfl ?_
    refine ev_getI (z := (m : Int)) d_Cl_add_98 rfl lk_Cl_35 lx_19 rfl (by simp [g_up, a_P, hm]) ?_
    refine ev_iconst d_Cl_add_101 rfl ⟨by decide, by decide⟩ ?_
    refine ev_iadd (z := ((m : Int)) + 1) d_Cl_add_102 rfl (g_w_id (by unfold g_rg; omega)) ?_
    refine ev_putI d_Cl_add_103 rfl lk_Cl_35 fp_Cl_7 (Or.inl rfl) lx_19 rfl ?_
    refine ev_aload_n (i := 0) d_Cl_add_106 rfl rfl rfl ?_
    refine ev_getI (z := (m : Int) + 1) d_Cl_add_107 rfl lk_Cl_35 lx_19 rfl (by simp [g_up]) ?_
    exact ev_retI d_Cl_add_110 (by first | rfl | omega | simp_all) rfl (Or.inl rfl)
theorem c_Fu_clause (d : Nat) (M : g_M) (f w c m : Nat) (p q r b : Int) (hf : f < 6) (hf2 : (f : Int) < M 5 4) (hw : M 7 f = w) (hw3 : w ≤ 3) (hnt : M 9 9 ≤ 100) (hwf : w_wf M w p q r b = true) (hm : M 19 7 = m) (hc : M 24 f = c) (hfu : ¬ (24 ≤ m ∨ 6 ≤ c)) : Con y_Fu_clause w_Fu_clause (g_rm (d + 4)) LX M [g_r 0, g_i (f : Int), g_i p, g_i q, g_i r, g_i b] LX (g_up (g_up (g_up (a_P (g_up (g_up (g_up M 0 8 (-1)) 20 m (f : Int)) 22 m b) m p q r w) 23 (6 * f + c) (m : Int)) 24 f ((c : Int) + 1)) 19 7 ((m : Int) + 1)) (some (g_i ((m : Int) + 1))) := by
  refine con_of (av := [g_r 0, g_i (f : Int), g_i p, g_i q, g_i r, g_i b]) (ls0 := [some (g_r 0), some (g_i (f : Int)), some (g_i p), some (g_i q), some (g_i r), some (g_i b)]) (by decide) rfl (Nat.le_of_ble_eq_true rfl) (g_hls (av := [g_r 0, g_i (f : Int), g_i p, g_i q, g_i r, g_i b]) (k := 0)) (fun _ h9 => List.mem_cons_of_mem _ h9) ?_
  refine ev_aload_n (i := 0) d_Fu_clause_0 rfl rfl rfl ?_
  refine ev_getR d_Fu_clause_1 rfl lk_Fu_18 lx_0 rfl ?_
  refine ev_iload_n (i := 1) d_Fu_clause_4 rfl rfl rfl ?_
  refine ev_callV (As := [g_i (f : Int)]) d_Fu_clause_5 rfl cl_Fu_108 (c_Sg_has_f (d + 3) M (f : Int)) (g_hR (by decide)) g_h0 lx_5 rfl rfl (Nat.le_of_ble_eq_true rfl) rfl rfl ?_
  refine ev_if_eq_f (tgt := 35) d_Fu_clause_8 (by decide) rfl (by rw [if_pos ⟨by omega, hf2⟩]; decide) ?_
  refine ev_aload_n (i := 0) d_Fu_clause_11 rfl rfl rfl ?_
  refine ev_getR d_Fu_clause_12 rfl lk_Fu_33 lx_0 rfl ?_
  refine ev_aload_n (i := 0) d_Fu_clause_15 rfl rfl rfl ?_
  refine ev_getR d_Fu_clause_16 rfl lk_Fu_18 lx_0 rfl ?_
  refine ev_iload_n (i := 1) d_Fu_clause_19 rfl rfl rfl ?_
  refine ev_callV (As := [g_i (f : Int)]) d_Fu_clause_20 rfl cl_Fu_112 (c_Sg_width_f_w (d + 3) M f w hf hw) (g_hR (by decide)) g_h0 lx_5 rfl rfl (Nat.le_of_ble_eq_true rfl) rfl rfl ?_
  refine ev_iload_n (i := 2) d_Fu_clause_23 rfl rfl rfl ?_
  refine ev_iload_n (i := 3) d_Fu_clause_24 rfl rfl rfl ?_
  refine ev_iload (i := 4) d_Fu_clause_25 rfl rfl ?_
  refine ev_iload (i := 5) d_Fu_clause_27 rfl rfl ?_
  refine ev_callV (As := [g_i (w : Int), g_i p, g_i q, g_i r, g_i b]) d_Fu_clause_29 rfl cl_Fu_129 (c_Cl_isWellFormed (d + 2) M w p q r b hw3 hnt) (g_hR (by decide)) g_h0 lx_19 rfl rfl (Nat.le_of_ble_eq_true rfl) rfl rfl ?_
  refine ev_if_ne_t (tgt := 45) d_Fu_clause_32 (by decide) (by rw [if_pos hwf]; decide) ?_
  refine ev_aload_n (i := 0) d_Fu_clause_45 rfl rfl rfl ?_
  refine ev_getR d_Fu_clause_46 rfl lk_Fu_33 lx_0 rfl ?_
  refine ev_iload_n (i := 1) d_Fu_clause_49 rfl rfl rfl ?_
  refine ev_callV (As := [g_i (f : Int)]) d_Fu_clause_50 rfl cl_Fu_135 (c_Cl_isFull (d + 3) M f hf) (g_hR (by decide)) g_h0 lx_19 rfl rfl (Nat.le_of_ble_eq_true rfl) rfl rfl ?_
  refine ev_if_eq_t (tgt := 66) d_Fu_clause_53 (by decide) (by rw [if_neg (by omega)]) ?_
  refine ev_aload_n (i := 0) d_Fu_clause_66 rfl rfl rfl ?_
  refine ev_iconst d_Fu_clause_67 rfl ⟨by decide, by decide⟩ ?_
  refine ev_putI d_Fu_clause_68 rfl lk_Fu_69 fp_Fu_8 (Or.inl rfl) lx_0 rfl ?_
  refine ev_aload_n (i := 0) d_Fu_clause_71 rfl rfl rfl ?_
  refine ev_getR d_Fu_clause_72 rfl lk_Fu_33 lx_0 rfl ?_
  refine ev_iload_n (i := 1) d_Fu_clause_75 rfl rfl rfl ?_
  refine ev_iload_n (i := 2) d_Fu_clause_76 rfl rfl rfl ?_
  refine ev_iload_n (i := 3) d_Fu_clause_77 rfl rfl rfl ?_
  refine ev_iload (i := 4) d_Fu_clause_78 rfl rfl ?_
  refine ev_iload (i := 5) d_Fu_clause_80 rfl rfl ?_
  refine ev_callV (As := [g_i (f : Int), g_i p, g_i q, g_i r, g_i b]) d_Fu_clause_82 rfl cl_Fu_139 (c_Cl_add (d + 2) (g_up M 0 8 (-1)) f w c m p q r b hf hw hw3 hm (by omega) hc (by omega)) (g_hR (by decide)) g_h0 lx_19 rfl rfl (Nat.le_of_ble_eq_true rfl) rfl rfl ?_
  exact ev_retI d_Fu_clause_85 (by first | rfl | omega | simp_all) rfl (Or.inl rfl)
theorem c_Fu_clause_x1 (d : Nat) (M : g_M) (f w : Nat) (p q r b : Int) (hf : f < 6) (hf2 : (f : Int) < M 5 4) (hw : M 7 f = w) (hw3 : w ≤ 3) (hnt : M 9 9 ≤ 100) (hwf : ¬ w_wf M w p q r b = true) : CoX y_Fu_clause w_Fu_clause (g_ra (d + 6) 1 6) LX M [g_r 0, g_i (f : Int), g_i p, g_i q, g_i r, g_i b] M x_E1 := by
  refine conX_of (av := [g_r 0, g_i (f : Int), g_i p, g_i q, g_i r, g_i b]) (ls0 := [some (g_r 0), some (g_i (f : Int)), some (g_i p), some (g_i q), some (g_i r), some (g_i b)]) (by decide) rfl (Nat.le_of_ble_eq_true rfl) (g_hls (av := [g_r 0, g_i (f : Int), g_i p, g_i q, g_i r, g_i b]) (k := 0)) (fun _ h9 => List.mem_cons_of_mem _ h9) rfl ⟨by show 6 ≤ d + 6; omega, by show 90 ≤ 40 * (d + 6); omega⟩ ⟨Nat.le_refl _, Nat.le_refl _⟩ ?_
  refine ev_aload_n (i := 0) d_Fu_clause_0 rfl rfl rfl ?_
  refine ev_getR d_Fu_clause_1 rfl lk_Fu_18 lx_0 rfl ?_
  refine ev_iload_n (i := 1) d_Fu_clause_4 rfl rfl rfl ?_
  refine ev_callV (As := [g_i (f : Int)]) d_Fu_clause_5 rfl cl_Fu_108 (c_Sg_has_f (d + 5) M (f : Int)) (g_hR (by decide)) ⟨Nat.zero_le _, Nat.zero_le _⟩ lx_5 rfl rfl (Nat.le_of_ble_eq_true rfl) rfl rfl ?_
  refine ev_if_eq_f (tgt := 35) d_Fu_clause_8 (by decide) rfl (by rw [if_pos ⟨by omega, hf2⟩]; decide) ?_
  refine ev_aload_n (i := 0) d_Fu_clause_11 rfl rfl rfl ?_
  refine ev_getR d_Fu_clause_12 rfl lk_Fu_33 lx_0 rfl ?_
  refine ev_aload_n (i := 0) d_Fu_clause_15 rfl rfl rfl ?_
  refine ev_getR d_Fu_clause_16 rfl lk_Fu_18 lx_0 rfl ?_
  refine ev_iload_n (i := 1) d_Fu_clause_19 rfl rfl rfl ?_
  refine ev_callV (As := [g_i (f : Int)]) d_Fu_clause_20 rfl cl_Fu_112 (c_Sg_width_f_w (d + 5) M f w hf hw) (g_hR (by decide)) ⟨Nat.zero_le _, Nat.zero_le _⟩ lx_5 rfl rfl (Nat.le_of_ble_eq_true rfl) rfl rfl ?_
  refine ev_iload_n (i := 2) d_Fu_clause_23 rfl rfl rfl ?_
  refine ev_iload_n (i := 3) d_Fu_clause_24 rfl rfl rfl ?_
  refine ev_iload (i := 4) d_Fu_clause_25 rfl rfl ?_
  refine ev_iload (i := 5) d_Fu_clause_27 rfl rfl ?_
  refine ev_callV (As := [g_i (w : Int), g_i p, g_i q, g_i r, g_i b]) d_Fu_clause_29 rfl cl_Fu_129 (c_Cl_isWellFormed (d + 4) M w p q r b hw3 hnt) (g_hR (by decide)) ⟨Nat.zero_le _, Nat.zero_le _⟩ lx_19 rfl rfl (Nat.le_of_ble_eq_true rfl) rfl rfl ?_
  refine ev_if_ne_f (tgt := 45) d_Fu_clause_32 (by decide) rfl (by rw [if_neg hwf]) ?_
  exact ev_done ⟨rfl, rfl, rfl, rfl, rfl, 77, 133, 81, _, x_ex1, List.mem_of_getElem? (i := 7) rfl, d_Fu_clause_35, d_Fu_clause_38, d_Fu_clause_39, d_Fu_clause_41, d_Fu_clause_44⟩
theorem c_Fu_clause_x2 (d : Nat) (M : g_M) (f w : Nat) (p q r b : Int) (hf : f < 6) (hf2 : (f : Int) < M 5 4) (hw : M 7 f = w) (hw3 : w ≤ 3) (hnt : M 9 9 ≤ 100) (hwf : w_wf M w p q r b = true) (hfu : 24 ≤ M 19 7 ∨ 6 ≤ M 24 f) : CoX y_Fu_clause w_Fu_clause (g_ra (d + 6) 1 6) LX M [g_r 0, g_i (f : Int), g_i p, g_i q, g_i r, g_i b] M x_E2 := by
  refine conX_of (av := [g_r 0, g_i (f : Int), g_i p, g_i q, g_i r, g_i b]) (ls0 := [some (g_r 0), some (g_i (f : Int)), some (g_i p), some (g_i q), some (g_i r), some (g_i b)]) (by decide) rfl (Nat.le_of_ble_eq_true rfl) (g_hls (av := [g_r 0, g_i (f : Int), g_i p, g_i q, g_i r, g_i b]) (k := 0)) (fun _ h9 => List.mem_cons_of_mem _ h9) rfl ⟨by show 6 ≤ d + 6; omega, by show 90 ≤ 40 * (d + 6); omega⟩ ⟨Nat.le_refl _, Nat.le_refl _⟩ ?_
  refine ev_aload_n (i := 0) d_Fu_clause_0 rfl rfl rfl ?_
  refine ev_getR d_Fu_clause_1 rfl lk_Fu_18 lx_0 rfl ?_
  refine ev_iload_n (i := 1) d_Fu_clause_4 rfl rfl rfl ?_
  refine ev_callV (As := [g_i (f : Int)]) d_Fu_clause_5 rfl cl_Fu_108 (c_Sg_has_f (d + 5) M (f : Int)) (g_hR (by decide)) ⟨Nat.zero_le _, Nat.zero_le _⟩ lx_5 rfl rfl (Nat.le_of_ble_eq_true rfl) rfl rfl ?_
  refine ev_if_eq_f (tgt := 35) d_Fu_clause_8 (by decide) rfl (by rw [if_pos ⟨by omega, hf2⟩]; decide) ?_
  refine ev_aload_n (i := 0) d_Fu_clause_11 rfl rfl rfl ?_
  refine ev_getR d_Fu_clause_12 rfl lk_Fu_33 lx_0 rfl ?_
  refine ev_aload_n (i := 0) d_Fu_clause_15 rfl rfl rfl ?_
  refine ev_getR d_Fu_clause_16 rfl lk_Fu_18 lx_0 rfl ?_
  refine ev_iload_n (i := 1) d_Fu_clause_19 rfl rfl rfl ?_
  refine ev_callV (As := [g_i (f : Int)]) d_Fu_clause_20 rfl cl_Fu_112 (c_Sg_width_f_w (d + 5) M f w hf hw) (g_hR (by decide)) ⟨Nat.zero_le _, Nat.zero_le _⟩ lx_5 rfl rfl (Nat.le_of_ble_eq_true rfl) rfl rfl ?_
  refine ev_iload_n (i := 2) d_Fu_clause_23 rfl rfl rfl ?_
  refine ev_iload_n (i := 3) d_Fu_clause_24 rfl rfl rfl ?_
  refine ev_iload (i := 4) d_Fu_clause_25 rfl rfl ?_
  refine ev_iload (i := 5) d_Fu_clause_27 rfl rfl ?_
  refine ev_callV (As := [g_i (w : Int), g_i p, g_i q, g_i r, g_i b]) d_Fu_clause_29 rfl cl_Fu_129 (c_Cl_isWellFormed (d + 4) M w p q r b hw3 hnt) (g_hR (by decide)) ⟨Nat.zero_le _, Nat.zero_le _⟩ lx_19 rfl rfl (Nat.le_of_ble_eq_true rfl) rfl rfl ?_
  refine ev_if_ne_t (tgt := 45) d_Fu_clause_32 (by decide) (by rw [if_pos hwf]; decide) ?_
  refine ev_aload_n (i := 0) d_Fu_clause_45 rfl rfl rfl ?_
  refine ev_getR d_Fu_clause_46 rfl lk_Fu_33 lx_0 rfl ?_
  refine ev_iload_n (i := 1) d_Fu_clause_49 rfl rfl rfl ?_
  refine ev_callV (As := [g_i (f : Int)]) d_Fu_clause_50 rfl cl_Fu_135 (c_Cl_isFull (d + 5) M f hf) (g_hR (by decide)) ⟨Nat.zero_le _, Nat.zero_le _⟩ lx_19 rfl rfl (Nat.le_of_ble_eq_true rfl) rfl rfl ?_
  refine ev_if_eq_f (tgt := 66) d_Fu_clause_53 (by decide) rfl (by rw [if_pos hfu]; decide) ?_
  exact ev_done ⟨rfl, rfl, rfl, rfl, rfl, 88, 137, 92, _, x_ex2, List.mem_of_getElem? (i := 8) rfl, d_Fu_clause_56, d_Fu_clause_59, d_Fu_clause_60, d_Fu_clause_62, d_Fu_clause_65⟩
