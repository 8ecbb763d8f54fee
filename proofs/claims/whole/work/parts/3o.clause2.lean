theorem s_cn_eq {M M1 : g_M} (h : M1 56 = M 56) (f : Int) : ∀ i, s_cn M1 f i = s_cn M f i
  | 0 => rfl
  | i + 1 => by
    show (if M1 56 i = f then s_cn M1 f i + 1 else s_cn M1 f i) = (if M 56 i = f then s_cn M f i + 1 else s_cn M f i)
    rw [h, s_cn_eq h f i]
theorem s_cn_p {M : g_M} {f : Int} {i : Nat} (h : M 56 i = f) : s_cn M f i + 1 = s_cn M f (i + 1) := (if_pos h).symm
theorem s_cn_n {M : g_M} {f : Int} {i : Nat} (h : M 56 i ≠ f) : s_cn M f i = s_cn M f (i + 1) := (if_neg h).symm
theorem c_Mo_clause_x1 (d : Nat) (M : g_M) (f w b m : Nat) (p q r : Int) (hT : q_T M) (hf : f < 6) (hf2 : (f : Int) < M 45 4) (hw : M 50 f = w) (hw3 : w ≤ 3) (hb : (b : Int) < M 45 8) (hm : M 45 13 = m) (hl : m ≤ 24) (hcl : ¬ q_cls M w p q r b = true) : ConR y_Mo_clause w_Mo_clause (g_rm (d + 4)) LX M [g_r 45, g_i (f : Int), g_i p, g_i q, g_i r, g_i (b : Int)] LX (fun M2 v2 => v2 = some (g_i 0) ∧ ∃ M1, q_e4 M M1 ∧ M2 = g_up M1 45 44 1) := by
  refine con_ofR (av := [g_r 45, g_i (f : Int), g_i p, g_i q, g_i r, g_i (b : Int)]) (ls0 := [some (g_r 45), some (g_i (f : Int)), some (g_i p), some (g_i q), some (g_i r), some (g_i (b : Int)), none, none, none]) (by decide) rfl (Nat.le_of_ble_eq_true rfl) (g_hls (av := [g_r 45, g_i (f : Int), g_i p, g_i q, g_i r, g_i (b : Int)]) (k := 3)) (fun _ h9 => List.mem_cons_of_mem _ h9) ?_
  refine ev_aload_n (i := 0) d_Mo_clause_0 rfl rfl rfl ?_
  refine ev_iload_n (i := 1) d_Mo_clause_1 rfl rfl rfl ?_
  refine ev_iload_n (i := 2) d_Mo_clause_2 rfl rfl rfl ?_
  refine ev_iload_n (i := 3) d_Mo_clause_3 rfl rfl rfl ?_
  refine ev_iload (i := 4) d_Mo_clause_4 rfl rfl ?_
  refine ev_iload (i := 5) d_Mo_clause_6 rfl rfl ?_
  refine ev_callVR (As := [g_i (f : Int), g_i p, g_i q, g_i r, g_i (b : Int)]) d_Mo_clause_8 rfl cl_Mo_162 (c_Mo_isClause (d + 0) M f w b p q r hT hf hf2 hw hw3 hb) (g_hR (by decide)) g_h0 lx_45 rfl rfl (Nat.le_of_ble_eq_true rfl) rfl rfl (fun M1 v9 g9 => ?_)
  obtain ⟨hq1, rfl⟩ := g9
  have hc13 : M1 45 13 = m := by rw [hq1 45 13 (by decide) (by decide) (by decide) (by decide)]; exact hm
  have hcn1 := s_cn_eq (hq1.fn (k := 56) (by decide) (by decide) (by decide) (by decide)) (f : Int) m
  refine ev_istore (i := 6) d_Mo_clause_11 rfl (by decide) rfl ?_
  refine ev_iconst d_Mo_clause_13 rfl ⟨by decide, by decide⟩ ?_
  refine ev_istore (i := 7) d_Mo_clause_14 rfl (by decide) rfl ?_
  refine ev_iconst d_Mo_clause_16 rfl ⟨by decide, by decide⟩ ?_
  refine ev_istore (i := 8) d_Mo_clause_17 rfl (by decide) rfl ?_
  refine ev_lp (fun i : Nat => [some (g_r 45), some (g_i (f : Int)), some (g_i p), some (g_i q), some (g_i r), some (g_i (b : Int)), some (g_i (if q_cls M w p q r b = true then 1 else 0)), some (g_i (s_cn M1 (f : Int) i)), some (g_i (i : Int))]) (fun i : Nat => M1) m ?_ ?_ (rfl) (rfl)
  · intro i hi K19
    have h9 := s_cn_le M1 (f : Int) i
    refine ev_iload (i := 8) d_Mo_clause_19 rfl rfl ?_
    refine ev_aload_n (i := 0) d_Mo_clause_21 rfl rfl rfl ?_
    refine ev_getI (z := M1 45 13) d_Mo_clause_22 rfl lk_Mo_166 lx_45 rfl (rfl) ?_
    refine ev_icmp_ge_f (tgt := 56) d_Mo_clause_25 (by decide) rfl (by omega) ?_
    refine ev_aload_n (i := 0) d_Mo_clause_28 rfl rfl rfl ?_
    refine ev_getR d_Mo_clause_29 rfl lk_Mo_40 lx_45 rfl ?_
    refine ev_iload (i := 8) d_Mo_clause_32 rfl rfl ?_
    refine ev_iaload (z := M1 56 i) d_Mo_clause_34 rfl lx_56 (by omega) (by omega) (rfl) ?_
    refine ev_iload_n (i := 1) d_Mo_clause_35 rfl rfl rfl ?_
    refine ev_icmp_ne (tgt := 46) d_Mo_clause_36 (by decide) rfl (fun h1 => ?_) (fun h1 => ?_)
    · refine ev_iload (i := 7) d_Mo_clause_46 rfl rfl ?_
      refine ev_istore (i := 7) d_Mo_clause_48 rfl (by decide) rfl ?_
      refine ev_iinc (z := (i : Int) + 1) d_Mo_clause_50 rfl rfl (by decide) (g_w_id (by unfold g_rg; omega)) rfl ?_
      refine ev_goto (tgt := 19) d_Mo_clause_53 (by decide) ?_
      exact ev_le K19 (rfl) ⟨rfl, rfl, rfl, rfl, rfl, rfl, rfl, by first | exact congrArg (fun z => some (some (g_i z))) (s_cn_p (M := M1) (f := (f : Int)) (i := i) (by assumption)) | exact congrArg (fun z => some (some (g_i z))) (s_cn_n (M := M1) (f := (f : Int)) (i := i) (by assumption)), rfl, trivial⟩
    · refine ev_iload (i := 7) d_Mo_clause_39 rfl rfl ?_
      refine ev_iconst d_Mo_clause_41 rfl ⟨by decide, by decide⟩ ?_
      refine ev_iadd (z := (s_cn M1 (f : Int) i) + 1) d_Mo_clause_42 rfl (g_w_id (by unfold g_rg; omega)) ?_
      refine ev_goto (tgt := 48) d_Mo_clause_43 (by decide) ?_
      refine ev_istore (i := 7) d_Mo_clause_48 rfl (by decide) rfl ?_
      refine ev_iinc (z := (i : Int) + 1) d_Mo_clause_50 rfl rfl (by decide) (g_w_id (by unfold g_rg; omega)) rfl ?_
      refine ev_goto (tgt := 19) d_Mo_clause_53 (by decide) ?_
      exact ev_le K19 (rfl) ⟨rfl, rfl, rfl, rfl, rfl, rfl, rfl, by first | exact congrArg (fun z => some (some (g_i z))) (s_cn_p (M := M1) (f := (f : Int)) (i := i) (by assumption)) | exact congrArg (fun z => some (some (g_i z))) (s_cn_n (M := M1) (f := (f : Int)) (i := i) (by assumption)), rfl, trivial⟩
  · have h9 := s_cn_le M1 (f : Int) m
    refine ev_iload (i := 8) d_Mo_clause_19 rfl rfl ?_
    refine ev_aload_n (i := 0) d_Mo_clause_21 rfl rfl rfl ?_
    refine ev_getI (z := M1 45 13) d_Mo_clause_22 rfl lk_Mo_166 lx_45 rfl (rfl) ?_
    refine ev_icmp_ge_t (tgt := 56) d_Mo_clause_25 (by decide) (by omega) ?_
    refine ev_aload_n (i := 0) d_Mo_clause_56 rfl rfl rfl ?_
    refine ev_iload (i := 6) d_Mo_clause_57 rfl rfl ?_
    refine ev_if_ne_f (tgt := 66) d_Mo_clause_59 (by decide) rfl (by rw [if_neg hcl]) ?_
    refine ev_iconst d_Mo_clause_62 rfl ⟨by decide, by decide⟩ ?_
    refine ev_goto (tgt := 87) d_Mo_clause_63 (by decide) ?_
    refine ev_putI d_Mo_clause_87 rfl lk_Mo_104 fp_Mo_44 (Or.inl rfl) lx_45 rfl ?_
    refine ev_aload_n (i := 0) d_Mo_clause_90 rfl rfl rfl ?_
    refine ev_getI (z := 1) d_Mo_clause_91 rfl lk_Mo_104 lx_45 rfl (by simp [g_up]) ?_
    refine ev_if_eq_f (tgt := 99) d_Mo_clause_94 (by decide) rfl (by decide) ?_
    refine ev_iconst d_Mo_clause_97 rfl ⟨by decide, by decide⟩ ?_
    exact ev_retIR d_Mo_clause_98 (⟨rfl, M1, hq1, rfl⟩) (Or.inl rfl)
theorem c_Mo_clause_x2 (d : Nat) (M : g_M) (f w b m : Nat) (p q r : Int) (hT : q_T M) (hf : f < 6) (hf2 : (f : Int) < M 45 4) (hw : M 50 f = w) (hw3 : w ≤ 3) (hb : (b : Int) < M 45 8) (hm : M 45 13 = m) (hl : m ≤ 24) (hcl : q_cls M w p q r b = true) (hfu : s_cn M (f : Int) m = 6 ∨ m = 24) : ConR y_Mo_clause w_Mo_clause (g_rm (d + 4)) LX M [g_r 45, g_i (f : Int), g_i p, g_i q, g_i r, g_i (b : Int)] LX (fun M2 v2 => v2 = some (g_i 0) ∧ ∃ M1, q_e4 M M1 ∧ M2 = g_up M1 45 44 2) := by
  refine con_ofR (av := [g_r 45, g_i (f : Int), g_i p, g_i q, g_i r, g_i (b : Int)]) (ls0 := [some (g_r 45), some (g_i (f : Int)), some (g_i p), some (g_i q), some (g_i r), some (g_i (b : Int)), none, none, none]) (by decide) rfl (Nat.le_of_ble_eq_true rfl) (g_hls (av := [g_r 45, g_i (f : Int), g_i p, g_i q, g_i r, g_i (b : Int)]) (k := 3)) (fun _ h9 => List.mem_cons_of_mem _ h9) ?_
  refine ev_aload_n (i := 0) d_Mo_clause_0 rfl rfl rfl ?_
  refine ev_iload_n (i := 1) d_Mo_clause_1 rfl rfl rfl ?_
  refine ev_iload_n (i := 2) d_Mo_clause_2 rfl rfl rfl ?_
  refine ev_iload_n (i := 3) d_Mo_clause_3 rfl rfl rfl ?_
  refine ev_iload (i := 4) d_Mo_clause_4 rfl rfl ?_
  refine ev_iload (i := 5) d_Mo_clause_6 rfl rfl ?_
  refine ev_callVR (As := [g_i (f : Int), g_i p, g_i q, g_i r, g_i (b : Int)]) d_Mo_clause_8 rfl cl_Mo_162 (c_Mo_isClause (d + 0) M f w b p q r hT hf hf2 hw hw3 hb) (g_hR (by decide)) g_h0 lx_45 rfl rfl (Nat.le_of_ble_eq_true rfl) rfl rfl (fun M1 v9 g9 => ?_)
  obtain ⟨hq1, rfl⟩ := g9
  have hc13 : M1 45 13 = m := by rw [hq1 45 13 (by decide) (by decide) (by decide) (by decide)]; exact hm
  have hcn1 := s_cn_eq (hq1.fn (k := 56) (by decide) (by decide) (by decide) (by decide)) (f : Int) m
  refine ev_istore (i := 6) d_Mo_clause_11 rfl (by decide) rfl ?_
  refine ev_iconst d_Mo_clause_13 rfl ⟨by decide, by decide⟩ ?_
  refine ev_istore (i := 7) d_Mo_clause_14 rfl (by decide) rfl ?_
  refine ev_iconst d_Mo_clause_16 rfl ⟨by decide, by decide⟩ ?_
  refine ev_istore (i := 8) d_Mo_clause_17 rfl (by decide) rfl ?_
  refine ev_lp (fun i : Nat => [some (g_r 45), some (g_i (f : Int)), some (g_i p), some (g_i q), some (g_i r), some (g_i (b : Int)), some (g_i (if q_cls M w p q r b = true then 1 else 0)), some (g_i (s_cn M1 (f : Int) i)), some (g_i (i : Int))]) (fun i : Nat => M1) m ?_ ?_ (rfl) (rfl)
  · intro i hi K19
    have h9 := s_cn_le M1 (f : Int) i
    refine ev_iload (i := 8) d_Mo_clause_19 rfl rfl ?_
    refine ev_aload_n (i := 0) d_Mo_clause_21 rfl rfl rfl ?_
    refine ev_getI (z := M1 45 13) d_Mo_clause_22 rfl lk_Mo_166 lx_45 rfl (rfl) ?_
    refine ev_icmp_ge_f (tgt := 56) d_Mo_clause_25 (by decide) rfl (by omega) ?_
    refine ev_aload_n (i := 0) d_Mo_clause_28 rfl rfl rfl ?_
    refine ev_getR d_Mo_clause_29 rfl lk_Mo_40 lx_45 rfl ?_
    refine ev_iload (i := 8) d_Mo_clause_32 rfl rfl ?_
    refine ev_iaload (z := M1 56 i) d_Mo_clause_34 rfl lx_56 (by omega) (by omega) (rfl) ?_
    refine ev_iload_n (i := 1) d_Mo_clause_35 rfl rfl rfl ?_
    refine ev_icmp_ne (tgt := 46) d_Mo_clause_36 (by decide) rfl (fun h1 => ?_) (fun h1 => ?_)
    · refine ev_iload (i := 7) d_Mo_clause_46 rfl rfl ?_
      refine ev_istore (i := 7) d_Mo_clause_48 rfl (by decide) rfl ?_
      refine ev_iinc (z := (i : Int) + 1) d_Mo_clause_50 rfl rfl (by decide) (g_w_id (by unfold g_rg; omega)) rfl ?_
      refine ev_goto (tgt := 19) d_Mo_clause_53 (by decide) ?_
      exact ev_le K19 (rfl) ⟨rfl, rfl, rfl, rfl, rfl, rfl, rfl, by first | exact congrArg (fun z => some (some (g_i z))) (s_cn_p (M := M1) (f := (f : Int)) (i := i) (by assumption)) | exact congrArg (fun z => some (some (g_i z))) (s_cn_n (M := M1) (f := (f : Int)) (i := i) (by assumption)), rfl, trivial⟩
    · refine ev_iload (i := 7) d_Mo_clause_39 rfl rfl ?_
      refine ev_iconst d_Mo_clause_41 rfl ⟨by decide, by decide⟩ ?_
      refine ev_iadd (z := (s_cn M1 (f : Int) i) + 1) d_Mo_clause_42 rfl (g_w_id (by unfold g_rg; omega)) ?_
      refine ev_goto (tgt := 48) d_Mo_clause_43 (by decide) ?_
      refine ev_istore (i := 7) d_Mo_clause_48 rfl (by decide) rfl ?_
      refine ev_iinc (z := (i : Int) + 1) d_Mo_clause_50 rfl rfl (by decide) (g_w_id (by unfold g_rg; omega)) rfl ?_
      refine ev_goto (tgt := 19) d_Mo_clause_53 (by decide) ?_
      exact ev_le K19 (rfl) ⟨rfl, rfl, rfl, rfl, rfl, rfl, rfl, by first | exact congrArg (fun z => some (some (g_i z))) (s_cn_p (M := M1) (f := (f : Int)) (i := i) (by assumption)) | exact congrArg (fun z => some (some (g_i z))) (s_cn_n (M := M1) (f := (f : Int)) (i := i) (by assumption)), rfl, trivial⟩
  · have h9 := s_cn_le M1 (f : Int) m
    refine ev_iload (i := 8) d_Mo_clause_19 rfl rfl ?_
    refine ev_aload_n (i := 0) d_Mo_clause_21 rfl rfl rfl ?_
    refine ev_getI (z := M1 45 13) d_Mo_clause_22 rfl lk_Mo_166 lx_45 rfl (rfl) ?_
    refine ev_icmp_ge_t (tgt := 56) d_Mo_clause_25 (by decide) (by omega) ?_
    refine ev_aload_n (i := 0) d_Mo_clause_56 rfl rfl rfl ?_
    refine ev_iload (i := 6) d_Mo_clause_57 rfl rfl ?_
    refine ev_if_ne_t (tgt := 66) d_Mo_clause_59 (by decide) (by rw [if_pos hcl]; decide) ?_
    refine ev_iload (i := 7) d_Mo_clause_66 rfl rfl ?_
    refine ev_bipush d_Mo_clause_68 rfl (by decide +kernel) ⟨by decide, by decide⟩ ?_
    refine ev_icmp_eq (tgt := 82) d_Mo_clause_70 (by decide) rfl (fun c6 => ?_) (fun c6 => ?_)
    · refine ev_iconst d_Mo_clause_82 rfl ⟨by decide, by decide⟩ ?_
      refine ev_goto (tgt := 87) d_Mo_clause_83 (by decide) ?_
      refine ev_putI d_Mo_clause_87 rfl lk_Mo_104 fp_Mo_44 (Or.inl rfl) lx_45 rfl ?_
      refine ev_aload_n (i := 0) d_Mo_clause_90 rfl rfl rfl ?_
      refine ev_getI (z := 2) d_Mo_clause_91 rfl lk_Mo_104 lx_45 rfl (by simp [g_up]) ?_
      refine ev_if_eq_f (tgt := 99) d_Mo_clause_94 (by decide) rfl (by decide) ?_
      refine ev_iconst d_Mo_clause_97 rfl ⟨by decide, by decide⟩ ?_
      exact ev_retIR d_Mo_clause_98 (⟨rfl, M1, hq1, rfl⟩) (Or.inl rfl)
    · refine ev_aload_n (i := 0) d_Mo_clause_73 rfl rfl rfl ?_
      refine ev_getI (z := (m : Int)) d_Mo_clause_74 rfl lk_Mo_166 lx_45 rfl (hc13) ?_
      refine ev_bipush d_Mo_clause_77 rfl (by decide +kernel) ⟨by decide, by decide⟩ ?_
      refine ev_icmp_ne_f (tgt := 86) d_Mo_clause_79 (by decide) rfl (by omega) ?_
      refine ev_iconst d_Mo_clause_82 rfl ⟨by decide, by decide⟩ ?_
      refine ev_goto (tgt := 87) d_Mo_clause_83 (by decide) ?_
      refine ev_putI d_Mo_clause_87 rfl lk_Mo_104 fp_Mo_44 (Or.inl rfl) lx_45 rfl ?_
      refine ev_aload_n (i := 0) d_Mo_clause_90 rfl rfl rfl ?_
      refine ev_getI (z := 2) d_Mo_clause_91 rfl lk_Mo_104 lx_45 rfl (by simp [g_up]) ?_
      refine ev_if_eq_f (tgt := 99) d_Mo_clause_94 (by decide) rfl (by decide) ?_
      refine ev_iconst d_Mo_clause_97 rfl ⟨by decide, by decide⟩ ?_
      exact ev_retIR d_Mo_clause_98 (⟨rfl, M1, hq1, rfl⟩) (Or.inl rfl)
theorem c_Mo_clause (d : Nat) (M : g_M) (f w b m : Nat) (p q r : Int) (hT : q_T M) (hf : f < 6) (hf2 : (f : Int) < M 45 4) (hw : M 50 f = w) (hw3 : w ≤ 3) (hb : (b : Int) < M 45 8) (hm : M 45 13 = m) (hl : m ≤ 24) (hcl : q_cls M w p q r b = true) (hfu : ¬ (s_cn M (f : Int) m = 6 ∨ m = 24)) : ConR y_Mo_clause w_Mo_clause (g_rm (d + 4)) LX M [g_r 45, g_i (f : Int), g_i p, g_i q, g_i r, g_i (b : Int)] LX (fun M2 v2 => v2 = some (g_i ((m : Int) + 1)) ∧ ∃ M1, q_e4 M M1 ∧ M2 = g_up (g_up (g_up (g_up (g_up (g_up (g_up (g_up M1 45 44 0) 56 m (f : Int)) 57 (3 * m) p) 57 (3 * m + 1) q) 57 (3 * m + 2) r) 58 m (b : Int)) 45 13 ((m : Int) + 1)) 45 17 0) := by
  refine con_ofR (av := [g_r 45, g_i (f : Int), g_i p, g_i q, g_i r, g_i (b : Int)]) (ls0 := [some (g_r 45), some (g_i (f : Int)), some (g_i p), some (g_i q), some (g_i r), some (g_i (b : Int)), none, none, none]) (by decide) rfl (Nat.le_of_ble_eq_true rfl) (g_hls (av := [g_r 45, g_i (f : Int), g_i p, g_i q, g_i r, g_i (b : Int)]) (k := 3)) (fun _ h9 => List.mem_cons_of_mem _ h9) ?_
  refine ev_aload_n (i := 0) d_Mo_clause_0 rfl rfl rfl ?_
  refine ev_iload_n (i := 1) d_Mo_clause_1 rfl rfl rfl ?_
  refine ev_iload_n (i := 2) d_Mo_clause_2 rfl rfl rfl ?_
  refine ev_iload_n (i := 3) d_Mo_clause_3 rfl rfl rfl ?_
  refine ev_iload (i := 4) d_Mo_clause_4 rfl rfl ?_
  refine ev_iload (i := 5) d_Mo_clause_6 rfl rfl ?_
  refine ev_callVR (As := [g_i (f : Int), g_i p, g_i q, g_i r, g_i (b : Int)]) d_Mo_clause_8 rfl cl_Mo_162 (c_Mo_isClause (d + 0) M f w b p q r hT hf hf2 hw hw3 hb) (g_hR (by decide)) g_h0 lx_45 rfl rfl (Nat.le_of_ble_eq_true rfl) rfl rfl (fun M1 v9 g9 => ?_)
  obtain ⟨hq1, rfl⟩ := g9
  have hc13 : M1 45 13 = m := by rw [hq1 45 13 (by decide) (by decide) (by decide) (by decide)]; exact hm
  have hcn1 := s_cn_eq (hq1.fn (k := 56) (by decide) (by decide) (by decide) (by decide)) (f : Int) m
  refine ev_istore (i := 6) d_Mo_clause_11 rfl (by decide) rfl ?_
  refine ev_iconst d_Mo_clause_13 rfl ⟨by decide, by decide⟩ ?_
  refine ev_istore (i := 7) d_Mo_clause_14 rfl (by decide) rfl ?_
  refine ev_iconst d_Mo_clause_16 rfl ⟨by decide, by decide⟩ ?_
  refine ev_istore (i := 8) d_Mo_clause_17 rfl (by decide) rfl ?_
  refine ev_lp (fun i : Nat => [some (g_r 45), some (g_i (f : Int)), some (g_i p), some (g_i q), some (g_i r), some (g_i (b : Int)), some (g_i (if q_cls M w p q r b = true then 1 else 0)), some (g_i (s_cn M1 (f : Int) i)), some (g_i (i : Int))]) (fun i : Nat => M1) m ?_ ?_ (rfl) (rfl)
  · intro i hi K19
    have h9 := s_cn_le M1 (f : Int) i
    refine ev_iload (i := 8) d_Mo_clause_19 rfl rfl ?_
    refine ev_aload_n (i := 0) d_Mo_clause_21 rfl rfl rfl ?_
    refine ev_getI (z := M1 45 13) d_Mo_clause_22 rfl lk_Mo_166 lx_45 rfl (rfl) ?_
    refine ev_icmp_ge_f (tgt := 56) d_Mo_clause_25 (by decide) rfl (by omega) ?_
    refine ev_aload_n (i := 0) d_Mo_clause_28 rfl rfl rfl ?_
    refine ev_getR d_Mo_clause_29 rfl lk_Mo_40 lx_45 rfl ?_
    refine ev_iload (i := 8) d_Mo_clause_32 rfl rfl ?_
    refine ev_iaload (z := M1 56 i) d_Mo_clause_34 rfl lx_56 (by omega) (by omega) (rfl) ?_
    refine ev_iload_n (i := 1) d_Mo_clause_35 rfl rfl rfl ?_
    refine ev_icmp_ne (tgt := 46) d_Mo_clause_36 (by decide) rfl (fun h1 => ?_) (fun h1 => ?_)
    · refine ev_iload (i := 7) d_Mo_clause_46 rfl rfl ?_
      refine ev_istore (i := 7) d_Mo_clause_48 rfl (by decide) rfl ?_
      refine ev_iinc (z := (i : Int) + 1) d_Mo_clause_50 rfl rfl (by decide) (g_w_id (by unfold g_rg; omega)) rfl ?_
      refine ev_goto (tgt := 19) d_Mo_clause_53 (by decide) ?_
      exact ev_le K19 (rfl) ⟨rfl, rfl, rfl, rfl, rfl, rfl, rfl, by first | exact congrArg (fun z => some (some (g_i z))) (s_cn_p (M := M1) (f := (f : Int)) (i := i) (by assumption)) | exact congrArg (fun z => some (some (g_i z))) (s_cn_n (M := M1) (f := (f : Int)) (i := i) (by assumption)), rfl, trivial⟩
    · refine ev_iload (i := 7) d_Mo_clause_39 rfl rfl ?_
      refine ev_iconst d_Mo_clause_41 rfl ⟨by decide, by decide⟩ ?_
      refine ev_iadd (z := (s_cn M1 (f : Int) i) + 1) d_Mo_clause_42 rfl (g_w_id (by unfold g_rg; omega)) ?_
      refine ev_goto (tgt := 48) d_Mo_clause_43 (by decide) ?_
      refine ev_istore (i := 7) d_Mo_clause_48 rfl (by decide) rfl ?_
      refine ev_iinc (z := (i : Int) + 1) d_Mo_clause_50 rfl rfl (by decide) (g_w_id (by unfold g_rg; omega)) rfl ?_
      refine ev_goto (tgt := 19) d_Mo_clause_53 (by decide) ?_
      exact ev_le K19 (rfl) ⟨rfl, rfl, rfl, rfl, rfl, rfl, rfl, by first | exact congrArg (fun z => some (some (g_i z))) (s_cn_p (M := M1) (f := (f : Int)) (i := i) (by assumption)) | exact congrArg (fun z => some (some (g_i z))) (s_cn_n (M := M1) (f := (f : Int)) (i := i) (by assumption)), rfl, trivial⟩
  · have h9 := s_cn_le M1 (f : Int) m
    refine ev_iload (i := 8) d_Mo_clause_19 rfl rfl ?_
    refine ev_aload_n (i := 0) d_Mo_clause_21 rfl rfl rfl ?_
    refine ev_getI (z := M1 45 13) d_Mo_clause_22 rfl lk_Mo_166 lx_45 rfl (rfl) ?_
    refine ev_icmp_ge_t (tgt := 56) d_Mo_clause_25 (by decide) (by omega) ?_
    refine ev_aload_n (i := 0) d_Mo_clause_56 rfl rfl rfl ?_
    refine ev_iload (i := 6) d_Mo_clause_57 rfl rfl ?_
    refine ev_if_ne_t (tgt := 66) d_Mo_clause_59 (by decide) (by rw [if_pos hcl]; decide) ?_
    refine ev_iload (i := 7) d_Mo_clause_66 rfl rfl ?_
    refine ev_bipush d_Mo_clause_68 rfl (by decide +kernel) ⟨by decide, by decide⟩ ?_
    refine ev_icmp_eq_f (tgt := 82) d_Mo_clause_70 (by decide) rfl (by omega) ?_
    refine ev_aload_n (i := 0) d_Mo_clause_73 rfl rfl rfl ?_
    refine ev_getI (z := (m : Int)) d_Mo_clause_74 rfl lk_Mo_166 lx_45 rfl (hc13) ?_
    refine ev_bipush d_Mo_clause_77 rfl (by decide +kernel) ⟨by decide, by decide⟩ ?_
    refine ev_icmp_ne_t (tgt := 86) d_Mo_clause_79 (by decide) (by omega) ?_
    refine ev_iconst d_Mo_clause_86 rfl ⟨by decide, by decide⟩ ?_
    refine ev_putI d_Mo_clause_87 rfl lk_Mo_104 fp_Mo_44 (Or.inl rfl) lx_45 rfl ?_
    refine ev_aload_n (i := 0) d_Mo_clause_90 rfl rfl rfl ?_
    refine ev_getI (z := 0) d_Mo_clause_91 rfl lk_Mo_104 lx_45 rfl (by simp [g_up]) ?_
    refine ev_if_eq_t (tgt := 99) d_Mo_clause_94 (by decide) (rfl) ?_
    refine ev_aload_n (i := 0) d_Mo_clause_99 rfl rfl rfl ?_
    refine ev_getR d_Mo_clause_100 rfl lk_Mo_40 lx_45 rfl ?_
    refine ev_aload_n (i := 0) d_Mo_clause_103 rfl rfl rfl ?_
    refine ev_getI (z := (m : Int)) d_Mo_clause_104 rfl lk_Mo_166 lx_45 rfl (by simp [g_up, hc13]) ?_
    refine ev_iload_n (i := 1) d_Mo_clause_107 rfl rfl rfl ?_
    refine ev_iastore d_Mo_clause_108 rfl lx_56 (by omega) (by omega) ?_
    rw [show Int.toNat (((m : Int))) = m by first | rfl | omega]
    refine ev_aload_n (i := 0) d_Mo_clause_109 rfl rfl rfl ?_
    refine ev_getR d_Mo_clause_110 rfl lk_Mo_43 lx_45 rfl ?_
    refine ev_iconst d_Mo_clause_113 rfl ⟨by decide, by decide⟩ ?_
    refine ev_aload_n (i := 0) d_Mo_clause_114 rfl rfl rfl ?_
    refine ev_getI (z := (m : Int)) d_Mo_clause_115 rfl lk_Mo_166 lx_45 rfl (by simp [g_up, hc13]) ?_
    refine ev_imul (z := 3 * ((m : Int))) d_Mo_clause_118 rfl (g_w_id (by unfold g_rg; omega)) ?_
    refine ev_iload_n (i := 2) d_Mo_clause_119 rfl rfl rfl ?_
    refine ev_iastore d_Mo_clause_120 rfl lx_57 (by omega) (by omega) ?_
    rw [show Int.toNat ((3 * ((m : Int)))) = 3 * m by first | rfl | omega]
    refine ev_aload_n (i := 0) d_Mo_clause_121 rfl rfl rfl ?_
    refine ev_getR d_Mo_clause_122 rfl lk_Mo_43 lx_45 rfl ?_
    refine ev_iconst d_Mo_clause_125 rfl ⟨by decide, by decide⟩ ?_
    refine ev_aload_n (i := 0) d_Mo_clause_126 rfl rfl rfl ?_
    refine ev_getI (z := (m : Int)) d_Mo_clause_127 rfl lk_Mo_166 lx_45 rfl (by simp [g_up, hc13]) ?_
    refine ev_imul (z := 3 * ((m : Int))) d_Mo_clause_130 rfl (g_w_id (by unfold g_rg; omega)) ?_
    refine ev_iconst d_Mo_clause_131 rfl ⟨by decide, by decide⟩ ?_
    refine ev_iadd (z := (3 * ((m : Int))) + 1) d_Mo_clause_132 rfl (g_w_id (by unfold g_rg; omega)) ?_
    refine ev_iload_n (i := 3) d_Mo_clause_133 rfl rfl rfl ?_
    refine ev_iastore d_Mo_clause_134 rfl lx_57 (by omega) (by omega) ?_
    rw [show Int.toNat (((3 * ((m : Int))) + 1)) = 3 * m + 1 by first | rfl | omega]
    refine ev_aload_n (i := 0) d_Mo_clause_135 rfl rfl rfl ?_
    refine ev_getR d_Mo_clause_136 rfl lk_Mo_43 lx_45 rfl ?_
    refine ev_iconst d_Mo_clause_139 rfl ⟨by decide, by decide⟩ ?_
    refine ev_aload_n (i := 0) d_Mo_clause_140 rfl rfl rfl ?_
    refine ev_getI (z := (m : Int)) d_Mo_clause_141 rfl lk_Mo_166 lx_45 rfl (by simp [g_up, hc13]) ?_
    refine ev_imul (z := 3 * ((m : Int))) d_Mo_clause_144 rfl (g_w_id (by unfold g_rg; omega)) ?_
    refine ev_iconst d_Mo_clause_145 rfl ⟨by decide, by decide⟩ ?_
    refine ev_iadd (z := (3 * ((m : Int))) + 2) d_Mo_clause_146 rfl (g_w_id (by unfold g_rg; omega)) ?_
    refine ev_iload (i := 4) d_Mo_clause_147 rfl rfl ?_
    refine ev_iastore d_Mo_clause_149 rfl lx_57 (by omega) (by omega) ?_
    rw [show Int.toNat (((3 * ((m : Int))) + 2)) = 3 * m + 2 by first | rfl | omega]
    refine ev_aload_n (i := 0) d_Mo_clause_150 rfl rfl rfl ?_
    refine ev_getR d_Mo_clause_151 rfl lk_Mo_46 lx_45 rfl ?_
    refine ev_aload_n (i := 0) d_Mo_clause_154 rfl rfl rfl ?_
    refine ev_getI (z := (m : Int)) d_Mo_clause_155 rfl lk_Mo_166 lx_45 rfl (by simp [g_up, hc13]) ?_
    refine ev_iload (i := 5) d_Mo_clause_158 rfl rfl ?_
    refine ev_iastore d_Mo_clause_160 rfl lx_58 (by omega) (by omega) ?_
    rw [show Int.toNat (((m : Int))) = m by first | rfl | omega]
    refine ev_aload_n (i := 0) d_Mo_clause_161 rfl rfl rfl ?_
    refine ev_dup d_Mo_clause_162 rfl rfl ?_
    refine ev_getI (z := (m : Int)) d_Mo_clause_163 rfl lk_Mo_166 lx_45 rfl (by simp [g_up, hc13]) ?_
    refine ev_iconst d_Mo_clause_166 rfl ⟨by decide, by decide⟩ ?_
    refine ev_iadd (z := ((m : Int)) + 1) d_Mo_clause_167 rfl (g_w_id (by unfold g_rg; omega)) ?_
    refine ev_putI d_Mo_clause_168 rfl lk_Mo_166 fp_Mo_13 (Or.inl rfl) lx_45 rfl ?_
    refine ev_aload_n (i := 0) d_Mo_clause_171 rfl rfl rfl ?_
    refine ev_iconst d_Mo_clause_172 rfl ⟨by decide, by decide⟩ ?_
    refine ev_putI d_Mo_clause_173 rfl lk_Mo_123 fp_Mo_17 (Or.inr ⟨rfl, by omega⟩) lx_45 rfl ?_
    refine ev_aload_n (i := 0) d_Mo_clause_176 rfl rfl rfl ?_
    refine ev_getI (z := (m : Int) + 1) d_Mo_clause_177 rfl lk_Mo_166 lx_45 rfl (by simp [g_up]) ?_
    exact ev_retIR d_Mo_clause_180 (⟨rfl, M1, hq1, rfl⟩) (Or.inl rfl)
