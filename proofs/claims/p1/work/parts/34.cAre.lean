theorem c_Fu_areTypes (d : Nat) (M : g_M) (t a b c : Int)  : Con y_Fu_areTypes w_Fu_areTypes (g_rm (d + 1)) LX M [g_i t, g_i a, g_i b, g_i c] LX M (some (g_i (if s_ok t a b c then 1 else 0))) := by
  refine con_of (av := [g_i t, g_i a, g_i b, g_i c]) (ls0 := [some (g_i t), some (g_i a), some (g_i b), some (g_i c), none]) (by decide) rfl (Nat.le_of_ble_eq_true rfl) (g_hls (av := [g_i t, g_i a, g_i b, g_i c]) (k := 1)) (fun _ h9 => List.mem_cons_of_mem _ h9) ?_
  refine ev_iload_n (i := 0) d_Fu_areTypes_0 rfl rfl rfl ?_
  refine ev_callS (As := [g_i t]) d_Fu_areTypes_1 rfl cl_Fu_173 (c_Fu_isType (d + 0) M t) (g_hR (by decide)) g_h0 rfl rfl (Nat.le_of_ble_eq_true rfl) rfl rfl ?_
  refine ev_bne (tgt := 9) d_Fu_areTypes_4 (by decide) rfl (fun h1 => ?_) (fun h1 => ?_)
  · refine ev_iconst d_Fu_areTypes_9 rfl ⟨by decide, by decide⟩ ?_
    refine ev_istore (i := 4) d_Fu_areTypes_10 rfl (by decide) rfl ?_
    refine ev_iload (i := 4) d_Fu_areTypes_12 rfl rfl ?_
    refine ev_iload_n (i := 1) d_Fu_areTypes_14 rfl rfl rfl ?_
    refine ev_iload_n (i := 2) d_Fu_areTypes_15 rfl rfl rfl ?_
    refine ev_iload_n (i := 3) d_Fu_areTypes_16 rfl rfl rfl ?_
    refine ev_callS (As := [g_i a, g_i b, g_i c]) d_Fu_areTypes_17 rfl cl_Fu_234 (c_Fu_leadingPlaces (d + 0) M a b c) (g_hR (by decide)) g_h0 rfl rfl (Nat.le_of_ble_eq_true rfl) rfl rfl ?_
    refine ev_icmp_ge (tgt := 45) d_Fu_areTypes_20 (by decide) rfl (fun h2 => ?_) (fun h2 => ?_)
    · refine ev_iconst d_Fu_areTypes_45 rfl ⟨by decide, by decide⟩ ?_
      exact ev_retI d_Fu_areTypes_46 (by first | rfl | omega | simp_all) rfl (Or.inr ⟨rfl, by omega⟩)
    · refine ev_iload (i := 4) d_Fu_areTypes_23 rfl rfl ?_
      refine ev_iload_n (i := 1) d_Fu_areTypes_25 rfl rfl rfl ?_
      refine ev_iload_n (i := 2) d_Fu_areTypes_26 rfl rfl rfl ?_
      refine ev_iload_n (i := 3) d_Fu_areTypes_27 rfl rfl rfl ?_
      refine ev_callS (As := [g_i 0, g_i a, g_i b, g_i c]) d_Fu_areTypes_28 rfl cl_Fu_225 (c_Fu_pick (d + 0) M 0 a b c) (g_hR (by decide)) g_h0 rfl rfl (Nat.le_of_ble_eq_true rfl) rfl rfl ?_
      refine ev_callS (As := [g_i (if 0 = 0 then a else if 0 = 1 then b else c)]) d_Fu_areTypes_31 rfl cl_Fu_173 (c_Fu_isType (d + 0) M ((if 0 = 0 then a else if 0 = 1 then b else c))) (g_hR (by decide)) g_h0 rfl rfl (Nat.le_of_ble_eq_true rfl) rfl rfl ?_
      refine ev_bne (tgt := 39) d_Fu_areTypes_34 (by decide) rfl (fun h3 => ?_) (fun h3 => ?_)
      · refine ev_iinc (z := 1) d_Fu_areTypes_39 rfl rfl (by decide) (by decide +kernel) rfl ?_
        refine ev_goto (tgt := 12) d_Fu_areTypes_42 (by decide) ?_
        refine ev_iload (i := 4) d_Fu_areTypes_12 rfl rfl ?_
        refine ev_iload_n (i := 1) d_Fu_areTypes_14 rfl rfl rfl ?_
        refine ev_iload_n (i := 2) d_Fu_areTypes_15 rfl rfl rfl ?_
        refine ev_iload_n (i := 3) d_Fu_areTypes_16 rfl rfl rfl ?_
        refine ev_callS (As := [g_i a, g_i b, g_i c]) d_Fu_areTypes_17 rfl cl_Fu_234 (c_Fu_leadingPlaces (d + 0) M a b c) (g_hR (by decide)) g_h0 rfl rfl (Nat.le_of_ble_eq_true rfl) rfl rfl ?_
        refine ev_icmp_ge (tgt := 45) d_Fu_areTypes_20 (by decide) rfl (fun h4 => ?_) (fun h4 => ?_)
        · refine ev_iconst d_Fu_areTypes_45 rfl ⟨by decide, by decide⟩ ?_
          exact ev_retI d_Fu_areTypes_46 (by first | rfl | omega | simp_all) rfl (Or.inr ⟨rfl, by omega⟩)
        · refine ev_iload (i := 4) d_Fu_areTypes_23 rfl rfl ?_
          refine ev_iload_n (i := 1) d_Fu_areTypes_25 rfl rfl rfl ?_
          refine ev_iload_n (i := 2) d_Fu_areTypes_26 rfl rfl rfl ?_
          refine ev_iload_n (i := 3) d_Fu_areTypes_27 rfl rfl rfl ?_
          refine ev_callS (As := [g_i 1, g_i a, g_i b, g_i c]) d_Fu_areTypes_28 rfl cl_Fu_225 (c_Fu_pick (d + 0) M 1 a b c) (g_hR (by decide)) g_h0 rfl rfl (Nat.le_of_ble_eq_true rfl) rfl rfl ?_
          refine ev_callS (As := [g_i (if 1 = 0 then a else if 1 = 1 then b else c)]) d_Fu_areTypes_31 rfl cl_Fu_173 (c_Fu_isType (d + 0) M ((if 1 = 0 then a else if 1 = 1 then b else c))) (g_hR (by decide)) g_h0 rfl rfl (Nat.le_of_ble_eq_true rfl) rfl rfl ?_
          refine ev_bne (tgt := 39) d_Fu_areTypes_34 (by decide) rfl (fun h5 => ?_) (fun h5 => ?_)
          · refine ev_iinc (z := 2) d_Fu_areTypes_39 rfl rfl (by decide) (by decide +kernel) rfl ?_
            refine ev_goto (tgt := 12) d_Fu_areTypes_42 (by decide) ?_
            refine ev_iload (i := 4) d_Fu_areTypes_12 rfl rfl ?_
            refine ev_iload_n (i := 1) d_Fu_areTypes_14 rfl rfl rfl ?_
            refine ev_iload_n (i := 2) d_Fu_areTypes_15 rfl rfl rfl ?_
            refine ev_iload_n (i := 3) d_Fu_areTypes_16 rfl rfl rfl ?_
            refine ev_callS (As := [g_i a, g_i b, g_i c]) d_Fu_areTypes_17 rfl cl_Fu_234 (c_Fu_leadingPlaces (d + 0) M a b c) (g_hR (by decide)) g_h0 rfl rfl (Nat.le_of_ble_eq_true rfl) rfl rfl ?_
            refine ev_icmp_ge (tgt := 45) d_Fu_areTypes_20 (by decide) rfl (fun h6 => ?_) (fun h6 => ?_)
            · refine ev_iconst d_Fu_areTypes_45 rfl ⟨by decide, by decide⟩ ?_
              exact ev_retI d_Fu_areTypes_46 (by first | rfl | omega | simp_all) rfl (Or.inr ⟨rfl, by omega⟩)
            · refine ev_iload (i := 4) d_Fu_areTypes_23 rfl rfl ?_
              refine ev_iload_n (i := 1) d_Fu_areTypes_25 rfl rfl rfl ?_
              refine ev_iload_n (i := 2) d_Fu_areTypes_26 rfl rfl rfl ?_
              refine ev_iload_n (i := 3) d_Fu_areTypes_27 rfl rfl rfl ?_
              refine ev_callS (As := [g_i 2, g_i a, g_i b, g_i c]) d_Fu_areTypes_28 rfl cl_Fu_225 (c_Fu_pick (d + 0) M 2 a b c) (g_hR (by decide)) g_h0 rfl rfl (Nat.le_of_ble_eq_true rfl) rfl rfl ?_
              refine ev_callS (As := [g_i (if 2 = 0 then a else if 2 = 1 then b else c)]) d_Fu_areTypes_31 rfl cl_Fu_173 (c_Fu_isType (d + 0) M ((if 2 = 0 then a else if 2 = 1 then b else c))) (g_hR (by decide)) g_h0 rfl rfl (Nat.le_of_ble_eq_true rfl) rfl rfl ?_
              refine ev_bne (tgt := 39) d_Fu_areTypes_34 (by decide) rfl (fun h7 => ?_) (fun h7 => ?_)
              · refine ev_iinc (z := 3) d_Fu_areTypes_39 rfl rfl (by decide) (by decide +kernel) rfl ?_
                refine ev_goto (tgt := 12) d_Fu_areTypes_42 (by decide) ?_
                refine ev_iload (i := 4) d_Fu_areTypes_12 rfl rfl ?_
                refine ev_iload_n (i := 1) d_Fu_areTypes_14 rfl rfl rfl ?_
                refine ev_iload_n (i := 2) d_Fu_areTypes_15 rfl rfl rfl ?_
                refine ev_iload_n (i := 3) d_Fu_areTypes_16 rfl rfl rfl ?_
                refine ev_callS (As := [g_i a, g_i b, g_i c]) d_Fu_areTypes_17 rfl cl_Fu_234 (c_Fu_leadingPlaces (d + 0) M a b c) (g_hR (by decide)) g_h0 rfl rfl (Nat.le_of_ble_eq_true rfl) rfl rfl ?_
                refine ev_icmp_ge_t (tgt := 45) d_Fu_areTypes_20 (by decide) (by omega) ?_
                refine ev_iconst d_Fu_areTypes_45 rfl ⟨by decide, by decide⟩ ?_
                exact ev_retI d_Fu_areTypes_46 (by first | rfl | omega | simp_all) rfl (Or.inr ⟨rfl, by omega⟩)
              · refine ev_iconst d_Fu_areTypes_37 rfl ⟨by decide, by decide⟩ ?_
                exact ev_retI d_Fu_areTypes_38 (by first | rfl | omega | simp_all) rfl (Or.inr ⟨rfl, by omega⟩)
          · refine ev_iconst d_Fu_areTypes_37 rfl ⟨by decide, by decide⟩ ?_
            exact ev_retI d_Fu_areTypes_38 (by first | rfl | omega | simp_all) rfl (Or.inr ⟨rfl, by omega⟩)
      · refine ev_iconst d_Fu_areTypes_37 rfl ⟨by decide, by decide⟩ ?_
        exact ev_retI d_Fu_areTypes_38 (by first | rfl | omega | simp_all) rfl (Or.inr ⟨rfl, by omega⟩)
  · refine ev_iconst d_Fu_areTypes_7 rfl ⟨by decide, by decide⟩ ?_
    exact ev_retI d_Fu_areTypes_8 (by first | rfl | omega | simp_all) rfl (Or.inr ⟨rfl, by omega⟩)
theorem c_Fu_pick0 (d : Nat) (M : g_M) (x y z : Int) : Con y_Fu_pick w_Fu_pick (g_rm d) LX M [g_i 0, g_i x, g_i y, g_i z] LX M (some (g_i x)) := c_Fu_pick d M 0 x y z
theorem c_Fu_pick1 (d : Nat) (M : g_M) (x y z : Int) : Con y_Fu_pick w_Fu_pick (g_rm d) LX M [g_i 1, g_i x, g_i y, g_i z] LX M (some (g_i y)) := c_Fu_pick d M 1 x y z
theorem c_Fu_pick2 (d : Nat) (M : g_M) (x y z : Int) : Con y_Fu_pick w_Fu_pick (g_rm d) LX M [g_i 2, g_i x, g_i y, g_i z] LX M (some (g_i z)) := c_Fu_pick d M 2 x y z
/-- the memory behind a declaration -/
def s_dec (M : g_M) (k a0 n : Nat) (t a b c : Int) : g_M :=
  g_up (if a = -1 then g_up (g_up M a0 n t) (a0 + 1) n (s_w a b c) else if b = -1 then g_up (g_up (g_up M a0 n t) (a0 + 1) n (s_w a b c)) (a0 + 2) (3 * n) a else if c = -1 then g_up (g_up (g_up (g_up M a0 n t) (a0 + 1) n (s_w a b c)) (a0 + 2) (3 * n) a) (a0 + 2) (3 * n + 1) b
    else g_up (g_up (g_up (g_up (g_up M a0 n t) (a0 + 1) n (s_w a b c)) (a0 + 2) (3 * n) a) (a0 + 2) (3 * n + 1) b) (a0 + 2) (3 * n + 2) c) k 4 ((n : Int) + 1)
theorem c_Sg_declare_c (d : Nat) (M : g_M) (n : Nat) (t a b c : Int) (hn : M 1 4 = n) (hl : n < 8) : Con y_Sg_declare w_Sg_declare (g_rm (d + 1)) LX M [g_r 1, g_i t, g_i a, g_i b, g_i c] LX (s_dec M 1 2 n t a b c) (some (g_i (n : Int))) := by
  refine con_of (av := [g_r 1, g_i t, g_i a, g_i b, g_i c]) (ls0 := [some (g_r 1), some (g_i t), some (g_i a), some (g_i b), some (g_i c), none]) (by decide) rfl (Nat.le_of_ble_eq_true rfl) (g_hls (av := [g_r 1, g_i t, g_i a, g_i b, g_i c]) (k := 1)) (fun _ h9 => List.mem_cons_of_mem _ h9) ?_
  refine ev_aload_n (i := 0) d_Sg_declare_0 rfl rfl rfl ?_
  refine ev_getR d_Sg_declare_1 rfl lk_Sg_15 lx_1 rfl ?_
  refine ev_aload_n (i := 0) d_Sg_declare_4 rfl rfl rfl ?_
  refine ev_getI (z := (n : Int)) d_Sg_declare_5 rfl lk_Sg_25 lx_1 rfl (hn) ?_
  refine ev_iload_n (i := 1) d_Sg_declare_8 rfl rfl rfl ?_
  refine ev_iastore d_Sg_declare_9 rfl lx_2 (by omega) (by omega) ?_
  rw [show Int.toNat (((n : Int))) = n by rfl]
  refine ev_aload_n (i := 0) d_Sg_declare_10 rfl rfl rfl ?_
  refine ev_getR d_Sg_declare_11 rfl lk_Sg_19 lx_1 rfl ?_
  refine ev_aload_n (i := 0) d_Sg_declare_14 rfl rfl rfl ?_
  refine ev_getI (z := (n : Int)) d_Sg_declare_15 rfl lk_Sg_25 lx_1 rfl (by simp [g_up, hn]) ?_
  refine ev_iload_n (i := 2) d_Sg_declare_18 rfl rfl rfl ?_
  refine ev_iload_n (i := 3) d_Sg_declare_19 rfl rfl rfl ?_
  refine ev_iload (i := 4) d_Sg_declare_20 rfl rfl ?_
  refine ev_callN (As := [g_i a, g_i b, g_i c]) d_Sg_declare_22 rfl cl_Sg_28 (c_Fu_leadingPlaces (d + 0) (g_up M 2 n t) a b c) (g_hR (by decide)) g_h0 rfl rfl (Nat.le_of_ble_eq_true rfl) rfl rfl ?_
  refine ev_iastore d_Sg_declare_25 rfl lx_3 (by omega) (by omega) ?_
  rw [show Int.toNat (((n : Int))) = n by rfl]
  refine ev_iconst d_Sg_declare_26 rfl ⟨by decide, by decide⟩ ?_
  refine ev_istore (i := 5) d_Sg_declare_27 rfl (by decide) rfl ?_
  refine ev_iload (i := 5) d_Sg_declare_29 rfl rfl ?_
  refine ev_aload_n (i := 0) d_Sg_declare_31 rfl rfl rfl ?_
  refine ev_getR d_Sg_declare_32 rfl lk_Sg_19 lx_1 rfl ?_
  refine ev_aload_n (i := 0) d_Sg_declare_35 rfl rfl rfl ?_
  refine ev_getI (z := (n : Int)) d_Sg_declare_36 rfl lk_Sg_25 lx_1 rfl (by simp [g_up, hn]) ?_
  refine ev_iaload (z := if a = -1 then 0 else if b = -1 then 1 else if c = -1 then 2 else 3) d_Sg_declare_39 rfl lx_3 (by omega) (by omega) (by simp [g_up]) ?_
  refine ev_icmp_ge (tgt := 72) d_Sg_declare_40 (by decide) rfl (fun h1 => ?_) (fun h1 => ?_)
  · refine ev_aload_n (i := 0) d_Sg_declare_72 rfl rfl rfl ?_
    refine ev_dup d_Sg_declare_73 rfl rfl ?_
    refine ev_getI (z := (n : Int)) d_Sg_declare_74 rfl lk_Sg_25 lx_1 rfl (by simp [g_up, hn]) ?_
    refine ev_dup_x1 d_Sg_declare_77 rfl rfl rfl ?_
    refine ev_iconst d_Sg_declare_78 rfl ⟨by decide, by decide⟩ ?_
    refine ev_iadd (z := ((n : Int)) + 1) d_Sg_declare_79 rfl (g_w_id (by unfold g_rg; omega)) ?_
    refine ev_putI d_Sg_declare_80 rfl lk_Sg_25 fp_Sg_4 (Or.inl rfl) lx_1 rfl ?_
    exact ev_retI d_Sg_declare_83 (by first | rfl | omega | simp_all) (by (have ha : a = -1 := by omega); simp only [s_dec, s_w, if_pos ha]) (Or.inl rfl)
  · refine ev_aload_n (i := 0) d_Sg_declare_43 rfl rfl rfl ?_
    refine ev_getR d_Sg_declare_44 rfl lk_Sg_22 lx_1 rfl ?_
    refine ev_aload_n (i := 0) d_Sg_declare_47 rfl rfl rfl ?_
    refine ev_getI (z := (n : Int)) d_Sg_declare_48 rfl lk_Sg_25 lx_1 rfl (by simp [g_up, hn]) ?_
    refine ev_iconst d_Sg_declare_51 rfl ⟨by decide, by decide⟩ ?_
    refine ev_imul (z := ((n : Int)) * 3) d_Sg_declare_52 rfl (g_w_id (by unfold g_rg; omega)) ?_
    refine ev_iload (i := 5) d_Sg_declare_53 rfl rfl ?_
    refine ev_iadd (z := (n : Int) * 3 + 0) d_Sg_declare_55 rfl (g_w_id (by unfold g_rg; omega)) ?_
    refine ev_iload (i := 5) d_Sg_declare_56 rfl rfl ?_
    refine ev_iload_n (i := 2) d_Sg_declare_58 rfl rfl rfl ?_
    refine ev_iload_n (i := 3) d_Sg_declare_59 rfl rfl rfl ?_
    refine ev_iload (i := 4) d_Sg_declare_60 rfl rfl ?_
    refine ev_callN (As := [g_i 0, g_i a, g_i b, g_i c]) d_Sg_declare_62 rfl cl_Sg_32 (c_Fu_pick0 (d + 0) (g_up (g_up M 2 n t) 3 n ((if a = -1 then 0 else if b = -1 then 1 else if c = -1 then 2 else 3))) a b c) (g_hR (by decide)) g_h0 rfl rfl (Nat.le_of_ble_eq_true rfl) rfl rfl ?_
    refine ev_iastore d_Sg_declare_65 rfl lx_4 (by omega) (by omega) ?_
    rw [show Int.toNat (((n : Int) * 3 + 0)) = 3 * n by omega]
    refine ev_iinc (z := 1) d_Sg_declare_66 rfl rfl (by decide) (by decide +kernel) rfl ?_
    refine ev_goto (tgt := 29) d_Sg_declare_69 (by decide) ?_
    refine ev_iload (i := 5) d_Sg_declare_29 rfl rfl ?_
    refine ev_aload_n (i := 0) d_Sg_declare_31 rfl rfl rfl ?_
    refine ev_getR d_Sg_declare_32 rfl lk_Sg_19 lx_1 rfl ?_
    refine ev_aload_n (i := 0) d_Sg_declare_35 rfl rfl rfl ?_
    refine ev_getI (z := (n : Int)) d_Sg_declare_36 rfl lk_Sg_25 lx_1 rfl (by simp [g_up, hn]) ?_
    refine ev_iaload (z := if a = -1 then 0 else if b = -1 then 1 else if c = -1 then 2 else 3) d_Sg_declare_39 rfl lx_3 (by omega) (by omega) (by simp [g_up]) ?_
    refine ev_icmp_ge (tgt := 72) d_Sg_declare_40 (by decide) rfl (fun h2 => ?_) (fun h2 => ?_)
    · refine ev_aload_n (i := 0) d_Sg_declare_72 rfl rfl rfl ?_
      refine ev_dup d_Sg_declare_73 rfl rfl ?_
      refine ev_getI (z := (n : Int)) d_Sg_declare_74 rfl lk_Sg_25 lx_1 rfl (by simp [g_up, hn]) ?_
      refine ev_dup_x1 d_Sg_declare_77 rfl rfl rfl ?_
      refine ev_iconst d_Sg_declare_78 rfl ⟨by decide, by decide⟩ ?_
      refine ev_iadd (z := ((n : Int)) + 1) d_Sg_declare_79 rfl (g_w_id (by unfold g_rg; omega)) ?_
      refine ev_putI d_Sg_declare_80 rfl lk_Sg_25 fp_Sg_4 (Or.inl rfl) lx_1 rfl ?_
      exact ev_retI d_Sg_declare_83 (by first | rfl | omega | simp_all) (by (have ha : ¬ a = -1 := by omega); (have hb : b = -1 := by omega); simp only [s_dec, s_w, if_neg ha, if_pos hb]) (Or.inl rfl)
    · refine ev_aload_n (i := 0) d_Sg_declare_43 rfl rfl rfl ?_
      refine ev_getR d_Sg_declare_44 rfl lk_Sg_22 lx_1 rfl ?_
      refine ev_aload_n (i := 0) d_Sg_declare_47 rfl rfl rfl ?_
      refine ev_getI (z := (n : Int)) d_Sg_declare_48 rfl lk_Sg_25 lx_1 rfl (by simp [g_up, hn]) ?_
      refine ev_iconst d_Sg_declare_51 rfl ⟨by decide, by decide⟩ ?_
      refine ev_imul (z := ((n : Int)) * 3) d_Sg_declare_52 rfl (g_w_id (by unfold g_rg; omega)) ?_
      refine ev_iload (i := 5) d_Sg_declare_53 rfl rfl ?_
      refine ev_iadd (z := (n : Int) * 3 + 1) d_Sg_declare_55 rfl (g_w_id (by unfold g_rg; omega)) ?_
      refine ev_iload (i := 5) d_Sg_declare_56 rfl rfl ?_
      refine ev_iload_n (i := 2) d_Sg_declare_58 rfl rfl rfl ?_
      refine ev_iload_n (i := 3) d_Sg_declare_59 rfl rfl rfl ?_
      refine ev_iload (i := 4) d_Sg_declare_60 rfl rfl ?_
      refine ev_callN (As := [g_i 1, g_i a, g_i b, g_i c]) d_Sg_declare_62 rfl cl_Sg_32 (c_Fu_pick1 (d + 0) (g_up (g_up (g_up M 2 n t) 3 n ((if a = -1 then 0 else if b = -1 then 1 else if c = -1 then 2 else 3))) 4 (3 * n) a) a b c) (g_hR (by decide)) g_h0 rfl rfl (Nat.le_of_ble_eq_true rfl) rfl rfl ?_
      refine ev_iastore d_Sg_declare_65 rfl lx_4 (by omega) (by omega) ?_
      rw [show Int.toNat (((n : Int) * 3 + 1)) = 3 * n + 1 by omega]
      refine ev_iinc (z := 2) d_Sg_declare_66 rfl rfl (by decide) (by decide +kernel) rfl ?_
      refine ev_goto (tgt := 29) d_Sg_declare_69 (by decide) ?_
      refine ev_iload (i := 5) d_Sg_declare_29 rfl rfl ?_
      refine ev_aload_n (i := 0) d_Sg_declare_31 rfl rfl rfl ?_
      refine ev_getR d_Sg_declare_32 rfl lk_Sg_19 lx_1 rfl ?_
      refine ev_aload_n (i := 0) d_Sg_declare_35 rfl rfl rfl ?_
      refine ev_getI (z := (n : Int)) d_Sg_declare_36 rfl lk_Sg_25 lx_1 rfl (by simp [g_up, hn]) ?_
      refine ev_iaload (z := if a = -1 then 0 else if b = -1 then 1 else if c = -1 then 2 else 3) d_Sg_declare_39 rfl lx_3 (by omega) (by omega) (by simp [g_up]) ?_
      refine ev_icmp_ge (tgt := 72) d_Sg_declare_40 (by decide) rfl (fun h3 => ?_) (fun h3 => ?_)
      · refine ev_aload_n (i := 0) d_Sg_declare_72 rfl rfl rfl ?_
        refine ev_dup d_Sg_declare_73 rfl rfl ?_
        refine ev_getI (z := (n : Int)) d_Sg_declare_74 rfl lk_Sg_25 lx_1 rfl (by simp [g_up, hn]) ?_
        refine ev_dup_x1 d_Sg_declare_77 rfl rfl rfl ?_
        refine ev_iconst d_Sg_declare_78 rfl ⟨by decide, by decide⟩ ?_
        refine ev_iadd (z := ((n : Int)) + 1) d_Sg_declare_79 rfl (g_w_id (by unfold g_rg; omega)) ?_
        refine ev_putI d_Sg_declare_80 rfl lk_Sg_25 fp_Sg_4 (Or.inl rfl) lx_1 rfl ?_
        exact ev_retI d_Sg_declare_83 (by first | rfl | omega | simp_all) (by (have ha : ¬ a = -1 := by omega); (have hb : ¬ b = -1 := by omega); (have hc : c = -1 := by omega); simp only [s_dec, s_w, if_neg ha, if_neg hb, if_pos hc]) (Or.inl rfl)
      · refine ev_aload_n (i := 0) d_Sg_declare_43 rfl rfl rfl ?_
        refine ev_getR d_Sg_declare_44 rfl lk_Sg_22 lx_1 rfl ?_
        refine ev_aload_n (i := 0) d_Sg_declare_47 rfl rfl rfl ?_
        refine ev_getI (z := (n : Int)) d_Sg_declare_48 rfl lk_Sg_25 lx_1 rfl (by simp [g_up, hn]) ?_
        refine ev_iconst d_Sg_declare_51 rfl ⟨by decide, by decide⟩ ?_
        refine ev_imul (z := ((n : Int)) * 3) d_Sg_declare_52 rfl (g_w_id (by unfold g_rg; omega)) ?_
        refine ev_iload (i := 5) d_Sg_declare_53 rfl rfl ?_
        refine ev_iadd (z := (n : Int) * 3 + 2) d_Sg_declare_55 rfl (g_w_id (by unfold g_rg; omega)) ?_
        refine ev_iload (i := 5) d_Sg_declare_56 rfl rfl ?_
        refine ev_iload_n (i := 2) d_Sg_declare_58 rfl rfl rfl ?_
        refine ev_iload_n (i := 3) d_Sg_declare_59 rfl rfl rfl ?_
        refine ev_iload (i := 4) d_Sg_declare_60 rfl rfl ?_
        refine ev_callN (As := [g_i 2, g_i a, g_i b, g_i c]) d_Sg_declare_62 rfl cl_Sg_32 (c_Fu_pick2 (d + 0) (g_up (g_up (g_up (g_up M 2 n t) 3 n ((if a = -1 then 0 else if b = -1 then 1 else if c = -1 then 2 else 3))) 4 (3 * n) a) 4 (3 * n + 1) b) a b c) (g_hR (by decide)) g_h0 rfl rfl (Nat.le_of_ble_eq_true rfl) rfl rfl ?_
        refine ev_iastore d_Sg_declare_65 rfl lx_4 (by omega) (by omega) ?_
        rw [show Int.toNat (((n : Int) * 3 + 2)) = 3 * n + 2 by omega]
        refine ev_iinc (z := 3) d_Sg_declare_66 rfl rfl (by decide) (by decide +kernel) rfl ?_
        refine ev_goto (tgt := 29) d_Sg_declare_69 (by decide) ?_
        refine ev_iload (i := 5) d_Sg_declare_29 rfl rfl ?_
        refine ev_aload_n (i := 0) d_Sg_declare_31 rfl rfl rfl ?_
        refine ev_getR d_Sg_declare_32 rfl lk_Sg_19 lx_1 rfl ?_
        refine ev_aload_n (i := 0) d_Sg_declare_35 rfl rfl rfl ?_
        refine ev_getI (z := (n : Int)) d_Sg_declare_36 rfl lk_Sg_25 lx_1 rfl (by simp [g_up, hn]) ?_
        refine ev_iaload (z := if a = -1 then 0 else if b = -1 then 1 else if c = -1 then 2 else 3) d_Sg_declare_39 rfl lx_3 (by omega) (by omega) (by simp [g_up]) ?_
        refine ev_icmp_ge_t (tgt := 72) d_Sg_declare_40 (by decide) (by omega) ?_
        refine ev_aload_n (i := 0) d_Sg_declare_72 rfl rfl rfl ?_
        refine ev_dup d_Sg_declare_73 rfl rfl ?_
        refine ev_getI (z := (n : Int)) d_Sg_declare_74 rfl lk_Sg_25 lx_1 rfl (by simp [g_up, hn]) ?_
        refine ev_dup_x1 d_Sg_declare_77 rfl rfl rfl ?_
        refine ev_iconst d_Sg_declare_78 rfl ⟨by decide, by decide⟩ ?_
        refine ev_iadd (z := ((n : Int)) + 1) d_Sg_declare_79 rfl (g_w_id (by unfold g_rg; omega)) ?_
        refine ev_putI d_Sg_declare_80 rfl lk_Sg_25 fp_Sg_4 (Or.inl rfl) lx_1 rfl ?_
        exact ev_retI d_Sg_declare_83 (by first | rfl | omega | simp_all) (by (have ha : ¬ a = -1 := by omega); (have hb : ¬ b = -1 := by omega); (have hc : ¬ c = -1 := by omega); simp only [s_dec, s_w, if_neg ha, if_neg hb, if_neg hc]) (Or.inl rfl)
theorem c_Sg_declare_f (d : Nat) (M : g_M) (n : Nat) (t a b c : Int) (hn : M 5 4 = n) (hl : n < 6) : Con y_Sg_declare w_Sg_declare (g_rm (d + 1)) LX M [g_r 5, g_i t, g_i a, g_i b, g_i c] LX (s_dec M 5 6 n t a b c) (some (g_i (n : Int))) := by
  refine con_of (av := [g_r 5, g_i t, g_i a, g_i b, g_i c]) (ls0 := [some (g_r 5), some (g_i t), some (g_i a), some (g_i b), some (g_i c), none]) (by decide) rfl (Nat.le_of_ble_eq_true rfl) (g_hls (av := [g_r 5, g_i t, g_i a, g_i b, g_i c]) (k := 1)) (fun _ h9 => List.mem_cons_of_mem _ h9) ?_
  refine ev_aload_n (i := 0) d_Sg_declare_0 rfl rfl rfl ?_
  refine ev_getR d_Sg_declare_1 rfl lk_Sg_15 lx_5 rfl ?_
  refine ev_aload_n (i := 0) d_Sg_declare_4 rfl rfl rfl ?_
  refine ev_getI (z := (n : Int)) d_Sg_declare_5 rfl lk_Sg_25 lx_5 rfl (hn) ?_
  refine ev_iload_n (i := 1) d_Sg_declare_8 rfl rfl rfl ?_
  refine ev_iastore d_Sg_declare_9 rfl lx_6 (by omega) (by omega) ?_
  rw [show Int.toNat (((n : Int))) = n by rfl]
  refine ev_aload_n (i := 0) d_Sg_declare_10 rfl rfl rfl ?_
  refine ev_getR d_Sg_declare_11 rfl lk_Sg_19 lx_5 rfl ?_
  refine ev_aload_n (i := 0) d_Sg_declare_14 rfl rfl rfl ?_
  refine ev_getI (z := (n : Int)) d_Sg_declare_15 rfl lk_Sg_25 lx_5 rfl (by simp [g_up, hn]) ?_
  refine ev_iload_n (i := 2) d_Sg_declare_18 rfl rfl rfl ?_
  refine ev_iload_n (i := 3) d_Sg_declare_19 rfl rfl rfl ?_
  refine ev_iload (i := 4) d_Sg_declare_20 rfl rfl ?_
  refine ev_callN (As := [g_i a, g_i b, g_i c]) d_Sg_declare_22 rfl cl_Sg_28 (c_Fu_leadingPlaces (d + 0) (g_up M 6 n t) a b c) (g_hR (by decide)) g_h0 rfl rfl (Nat.le_of_ble_eq_true rfl) rfl rfl ?_
  refine ev_iastore d_Sg_declare_25 rfl lx_7 (by omega) (by omega) ?_
  rw [show Int.toNat (((n : Int))) = n by rfl]
  refine ev_iconst d_Sg_declare_26 rfl ⟨by decide, by decide⟩ ?_
  refine ev_istore (i := 5) d_Sg_declare_27 rfl (by decide) rfl ?_
  refine ev_iload (i := 5) d_Sg_declare_29 rfl rfl ?_
  refine ev_aload_n (i := 0) d_Sg_declare_31 rfl rfl rfl ?_
  refine ev_getR d_Sg_declare_32 rfl lk_Sg_19 lx_5 rfl ?_
  refine ev_aload_n (i := 0) d_Sg_declare_35 rfl rfl rfl ?_
  refine ev_getI (z := (n : Int)) d_Sg_declare_36 rfl lk_Sg_25 lx_5 rfl (by simp [g_up, hn]) ?_
  refine ev_iaload (z := if a = -1 then 0 else if b = -1 then 1 else if c = -1 then 2 else 3) d_Sg_declare_39 rfl lx_7 (by omega) (by omega) (by simp [g_up]) ?_
  refine ev_icmp_ge (tgt := 72) d_Sg_declare_40 (by decide) rfl (fun h1 => ?_) (fun h1 => ?_)
  · refine ev_aload_n (i := 0) d_Sg_declare_72 rfl rfl rfl ?_
    refine ev_dup d_Sg_declare_73 rfl rfl ?_
    refine ev_getI (z := (n : Int)) d_Sg_declare_74 rfl lk_Sg_25 lx_5 rfl (by simp [g_up, hn]) ?_
    refine ev_dup_x1 d_Sg_declare_77 rfl rfl rfl ?_
    refine ev_iconst d_Sg_declare_78 rfl ⟨by decide, by decide⟩ ?_
    refine ev_iadd (z := ((n : Int)) + 1) d_Sg_declare_79 rfl (g_w_id (by unfold g_rg; omega)) ?_
    refine ev_putI d_Sg_declare_80 rfl lk_Sg_25 fp_Sg_4 (Or.inl rfl) lx_5 rfl ?_
    exact ev_retI d_Sg_declare_83 (by first | rfl | omega | simp_all) (by (have ha : a = -1 := by omega); simp only [s_dec, s_w, if_pos ha]) (Or.inl rfl)
  · refine ev_aload_n (i := 0) d_Sg_declare_43 rfl rfl rfl ?_
    refine ev_getR d_Sg_declare_44 rfl lk_Sg_22 lx_5 rfl ?_
    refine ev_aload_n (i := 0) d_Sg_declare_47 rfl rfl rfl ?_
    refine ev_getI (z := (n : Int)) d_Sg_declare_48 rfl lk_Sg_25 lx_5 rfl (by simp [g_up, hn]) ?_
    refine ev_iconst d_Sg_declare_51 rfl ⟨by decide, by decide⟩ ?_
    refine ev_imul (z := ((n : Int)) * 3) d_Sg_declare_52 rfl (g_w_id (by unfold g_rg; omega)) ?_
    refine ev_iload (i := 5) d_Sg_declare_53 rfl rfl ?_
    refine ev_iadd (z := (n : Int) * 3 + 0) d_Sg_declare_55 rfl (g_w_id (by unfold g_rg; omega)) ?_
    refine ev_iload (i := 5) d_Sg_declare_56 rfl rfl ?_
    refine ev_iload_n (i := 2) d_Sg_declare_58 rfl rfl rfl ?_
    refine ev_iload_n (i := 3) d_Sg_declare_59 rfl rfl rfl ?_
    refine ev_iload (i := 4) d_Sg_declare_60 rfl rfl ?_
    refine ev_callN (As := [g_i 0, g_i a, g_i b, g_i c]) d_Sg_declare_62 rfl cl_Sg_32 (c_Fu_pick0 (d + 0) (g_up (g_up M 6 n t) 7 n ((if a = -1 then 0 else if b = -1 then 1 else if c = -1 then 2 else 3))) a b c) (g_hR (by decide)) g_h0 rfl rfl (Nat.le_of_ble_eq_true rfl) rfl rfl ?_
    refine ev_iastore d_Sg_declare_65 rfl lx_8 (by omega) (by omega) ?_
    rw [show Int.toNat (((n : Int) * 3 + 0)) = 3 * n by omega]
    refine ev_iinc (z := 1) d_Sg_declare_66 rfl rfl (by decide) (by decide +kernel) rfl ?_
    refine ev_goto (tgt := 29) d_Sg_declare_69 (by decide) ?_
    refine ev_iload (i := 5) d_Sg_declare_29 rfl rfl ?_
    refine ev_aload_n (i := 0) d_Sg_declare_31 rfl rfl rfl ?_
    refine ev_getR d_Sg_declare_32 rfl lk_Sg_19 lx_5 rfl ?_
    refine ev_aload_n (i := 0) d_Sg_declare_35 rfl rfl rfl ?_
    refine ev_getI (z := (n : Int)) d_Sg_declare_36 rfl lk_Sg_25 lx_5 rfl (by simp [g_up, hn]) ?_
    refine ev_iaload (z := if a = -1 then 0 else if b = -1 then 1 else if c = -1 then 2 else 3) d_Sg_declare_39 rfl lx_7 (by omega) (by omega) (by simp [g_up]) ?_
    refine ev_icmp_ge (tgt := 72) d_Sg_declare_40 (by decide) rfl (fun h2 => ?_) (fun h2 => ?_)
    · refine ev_aload_n (i := 0) d_Sg_declare_72 rfl rfl rfl ?_
      refine ev_dup d_Sg_declare_73 rfl rfl ?_
      refine ev_getI (z := (n : Int)) d_Sg_declare_74 rfl lk_Sg_25 lx_5 rfl (by simp [g_up, hn]) ?_
      refine ev_dup_x1 d_Sg_declare_77 rfl rfl rfl ?_
      refine ev_iconst d_Sg_declare_78 rfl ⟨by decide, by decide⟩ ?_
      refine ev_iadd (z := ((n : Int)) + 1) d_Sg_declare_79 rfl (g_w_id (by unfold g_rg; omega)) ?_
      refine ev_putI d_Sg_declare_80 rfl lk_Sg_25 fp_Sg_4 (Or.inl rfl) lx_5 rfl ?_
      exact ev_retI d_Sg_declare_83 (by first | rfl | omega | simp_all) (by (have ha : ¬ a = -1 := by omega); (have hb : b = -1 := by omega); simp only [s_dec, s_w, if_neg ha, if_pos hb]) (Or.inl rfl)
    · refine ev_aload_n (i := 0) d_Sg_declare_43 rfl rfl rfl ?_
      refine ev_getR d_Sg_declare_44 rfl lk_Sg_22 lx_5 rfl ?_
      refine ev_aload_n (i := 0) d_Sg_declare_47 rfl rfl rfl ?_
      refine ev_getI (z := (n : Int)) d_Sg_declare_48 rfl lk_Sg_25 lx_5 rfl (by simp [g_up, hn]) ?_
      refine ev_iconst d_Sg_declare_51 rfl ⟨by decide, by decide⟩ ?_
      refine ev_imul (z := ((n : Int)) * 3) d_Sg_declare_52 rfl (g_w_id (by unfold g_rg; omega)) ?_
      refine ev_iload (i := 5) d_Sg_declare_53 rfl rfl ?_
      refine ev_iadd (z := (n : Int) * 3 + 1) d_Sg_declare_55 rfl (g_w_id (by unfold g_rg; omega)) ?_
      refine ev_iload (i := 5) d_Sg_declare_56 rfl rfl ?_
      refine ev_iload_n (i := 2) d_Sg_declare_58 rfl rfl rfl ?_
      refine ev_iload_n (i := 3) d_Sg_declare_59 rfl rfl rfl ?_
      refine ev_iload (i := 4) d_Sg_declare_60 rfl rfl ?_
      refine ev_callN (As := [g_i 1, g_i a, g_i b, g_i c]) d_Sg_declare_62 rfl cl_Sg_32 (c_Fu_pick1 (d + 0) (g_up (g_up (g_up M 6 n t) 7 n ((if a = -1 then 0 else if b = -1 then 1 else if c = -1 then 2 else 3))) 8 (3 * n) a) a b c) (g_hR (by decide)) g_h0 rfl rfl (Nat.le_of_ble_eq_true rfl) rfl rfl ?_
      refine ev_iastore d_Sg_declare_65 rfl lx_8 (by omega) (by omega) ?_
      rw [show Int.toNat (((n : Int) * 3 + 1)) = 3 * n + 1 by omega]
      refine ev_iinc (z := 2) d_Sg_declare_66 rfl rfl (by decide) (by decide +kernel) rfl ?_
      refine ev_goto (tgt := 29) d_Sg_declare_69 (by decide) ?_
      refine ev_iload (i := 5) d_Sg_declare_29 rfl rfl ?_
      refine ev_aload_n (i := 0) d_Sg_declare_31 rfl rfl rfl ?_
      refine ev_getR d_Sg_declare_32 rfl lk_Sg_19 lx_5 rfl ?_
      refine ev_aload_n (i := 0) d_Sg_declare_35 rfl rfl rfl ?_
      refine ev_getI (z := (n : Int)) d_Sg_declare_36 rfl lk_Sg_25 lx_5 rfl (by simp [g_up, hn]) ?_
      refine ev_iaload (z := if a = -1 then 0 else if b = -1 then 1 else if c = -1 then 2 else 3) d_Sg_declare_39 rfl lx_7 (by omega) (by omega) (by simp [g_up]) ?_
      refine ev_icmp_ge (tgt := 72) d_Sg_declare_40 (by decide) rfl (fun h3 => ?_) (fun h3 => ?_)
      · refine ev_aload_n (i := 0) d_Sg_declare_72 rfl rfl rfl ?_
        refine ev_dup d_Sg_declare_73 rfl rfl ?_
        refine ev_getI (z := (n : Int)) d_Sg_declare_74 rfl lk_Sg_25 lx_5 rfl (by simp [g_up, hn]) ?_
        refine ev_dup_x1 d_Sg_declare_77 rfl rfl rfl ?_
        refine ev_iconst d_Sg_declare_78 rfl ⟨by decide, by decide⟩ ?_
        refine ev_iadd (z := ((n : Int)) + 1) d_Sg_declare_79 rfl (g_w_id (by unfold g_rg; omega)) ?_
        refine ev_putI d_Sg_declare_80 rfl lk_Sg_25 fp_Sg_4 (Or.inl rfl) lx_5 rfl ?_
        exact ev_retI d_Sg_declare_83 (by first | rfl | omega | simp_all) (by (have ha : ¬ a = -1 := by omega); (have hb : ¬ b = -1 := by omega); (have hc : c = -1 := by omega); simp only [s_dec, s_w, if_neg ha, if_neg hb, if_pos hc]) (Or.inl rfl)
      · refine ev_aload_n (i := 0) d_Sg_declare_43 rfl rfl rfl ?_
        refine ev_getR d_Sg_declare_44 rfl lk_Sg_22 lx_5 rfl ?_
        refine ev_aload_n (i := 0) d_Sg_declare_47 rfl rfl rfl ?_
        refine ev_getI (z := (n : Int)) d_Sg_declare_48 rfl lk_Sg_25 lx_5 rfl (by simp [g_up, hn]) ?_
        refine ev_iconst d_Sg_declare_51 rfl ⟨by decide, by decide⟩ ?_
        refine ev_imul (z := ((n : Int)) * 3) d_Sg_declare_52 rfl (g_w_id (by unfold g_rg; omega)) ?_
        refine ev_iload (i := 5) d_Sg_declare_53 rfl rfl ?_
        refine ev_iadd (z := (n : Int) * 3 + 2) d_Sg_declare_55 rfl (g_w_id (by unfold g_rg; omega)) ?_
        refine ev_iload (i := 5) d_Sg_declare_56 rfl rfl ?_
        refine ev_iload_n (i := 2) d_Sg_declare_58 rfl rfl rfl ?_
        refine ev_iload_n (i := 3) d_Sg_declare_59 rfl rfl rfl ?_
        refine ev_iload (i := 4) d_Sg_declare_60 rfl rfl ?_
        refine ev_callN (As := [g_i 2, g_i a, g_i b, g_i c]) d_Sg_declare_62 rfl cl_Sg_32 (c_Fu_pick2 (d + 0) (g_up (g_up (g_up (g_up M 6 n t) 7 n ((if a = -1 then 0 else if b = -1 then 1 else if c = -1 then 2 else 3))) 8 (3 * n) a) 8 (3 * n + 1) b) a b c) (g_hR (by decide)) g_h0 rfl rfl (Nat.le_of_ble_eq_true rfl) rfl rfl ?_
        refine ev_iastore d_Sg_declare_65 rfl lx_8 (by omega) (by omega) ?_
        rw [show Int.toNat (((n : Int) * 3 + 2)) = 3 * n + 2 by omega]
        refine ev_iinc (z := 3) d_Sg_declare_66 rfl rfl (by decide) (by decide +kernel) rfl ?_
        refine ev_goto (tgt := 29) d_Sg_declare_69 (by decide) ?_
        refine ev_iload (i := 5) d_Sg_declare_29 rfl rfl ?_
        refine ev_aload_n (i := 0) d_Sg_declare_31 rfl rfl rfl ?_
        refine ev_getR d_Sg_declare_32 rfl lk_Sg_19 lx_5 rfl ?_
        refine ev_aload_n (i := 0) d_Sg_declare_35 rfl rfl rfl ?_
        refine ev_getI (z := (n : Int)) d_Sg_declare_36 rfl lk_Sg_25 lx_5 rfl (by simp [g_up, hn]) ?_
        refine ev_iaload (z := if a = -1 then 0 else if b = -1 then 1 else if c = -1 then 2 else 3) d_Sg_declare_39 rfl lx_7 (by omega) (by omega) (by simp [g_up]) ?_
        refine ev_icmp_ge_t (tgt := 72) d_Sg_declare_40 (by decide) (by omega) ?_
        refine ev_aload_n (i := 0) d_Sg_declare_72 rfl rfl rfl ?_
        refine ev_dup d_Sg_declare_73 rfl rfl ?_
        refine ev_getI (z := (n : Int)) d_Sg_declare_74 rfl lk_Sg_25 lx_5 rfl (by simp [g_up, hn]) ?_
        refine ev_dup_x1 d_Sg_declare_77 rfl rfl rfl ?_
        refine ev_iconst d_Sg_declare_78 rfl ⟨by decide, by decide⟩ ?_
        refine ev_iadd (z := ((n : Int)) + 1) d_Sg_declare_79 rfl (g_w_id (by unfold g_rg; omega)) ?_
        refine ev_putI d_Sg_declare_80 rfl lk_Sg_25 fp_Sg_4 (Or.inl rfl) lx_5 rfl ?_
        exact ev_retI d_Sg_declare_83 (by first | rfl | omega | simp_all) (by (have ha : ¬ a = -1 := by omega); (have hb : ¬ b = -1 := by omega); (have hc : ¬ c = -1 := by omega); simp only [s_dec, s_w, if_neg ha, if_neg hb, if_neg hc]) (Or.inl rfl)
