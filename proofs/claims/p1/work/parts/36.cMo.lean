theorem ev_jn {Me : g_Me} {R : Room} {Fi : g_Fin} {pc : Nat} {ls : g_Ls} {st : List g_v} {L : g_L} {M : g_M} {nc ns : Nat} (pj : Nat) (lj : Int → g_Ls) (sj : Int → List g_v) (Mj : g_M) (P : Int → Prop) (k : ∀ v, P v → Ev Me R Fi pj (lj v) (sj v) L Mj nc ns) (h : (∀ v, P v → Ev Me R Fi pj (lj v) (sj v) L Mj nc ns) → Ev Me R Fi pc ls st L M nc ns) : Ev Me R Fi pc ls st L M nc ns := h k
theorem c_Mo_wrongTypes (d : Nat) (M : g_M) (t a b c : Int)  : Con y_Mo_wrongTypes w_Mo_wrongTypes (g_rm (d + 1)) LX M [g_i t, g_i a, g_i b, g_i c] LX M (some (g_i (if s_ok t a b c then 0 else 1))) := by
  refine con_of (av := [g_i t, g_i a, g_i b, g_i c]) (ls0 := [some (g_i t), some (g_i a), some (g_i b), some (g_i c), none, none, none]) (by decide) rfl (Nat.le_of_ble_eq_true rfl) (g_hls (av := [g_i t, g_i a, g_i b, g_i c]) (k := 3)) (fun _ h9 => List.mem_cons_of_mem _ h9) ?_
  refine ev_jn 17 (fun v9 => [some (g_i t), some (g_i a), some (g_i b), some (g_i c), some (g_i v9), none, none]) (fun v9 => []) M (fun v9 => v9 = if a < -1 ∨ 2 < a then 1 else 0) ?_ (fun K17 => ?_)
  · intro v9 hv9; subst hv9
    refine ev_jn 38 (fun v9 => [some (g_i t), some (g_i a), some (g_i b), some (g_i c), some (g_i (if a < -1 ∨ 2 < a then 1 else 0)), some (g_i v9), none]) (fun v9 => []) M (fun v9 => v9 = if 0 ≤ a ∧ (b < -1 ∨ 2 < b) then 1 else 0) ?_ (fun K38 => ?_)
    · intro v9 hv9; subst hv9
      refine ev_jn 63 (fun v9 => [some (g_i t), some (g_i a), some (g_i b), some (g_i c), some (g_i (if a < -1 ∨ 2 < a then 1 else 0)), some (g_i (if 0 ≤ a ∧ (b < -1 ∨ 2 < b) then 1 else 0)), some (g_i v9)]) (fun v9 => []) M (fun v9 => v9 = if 0 ≤ a ∧ 0 ≤ b ∧ (c < -1 ∨ 2 < c) then 1 else 0) ?_ (fun K63 => ?_)
      · intro v9 hv9; subst hv9
        refine ev_iload_n (i := 0) d_Mo_wrongTypes_63 rfl rfl rfl ?_
        refine ev_iconst d_Mo_wrongTypes_64 rfl ⟨by decide, by decide⟩ ?_
        refine ev_callS (As := [g_i t, g_i 2]) d_Mo_wrongTypes_65 rfl cl_Mo_108 (c_Mo_outside (d + 0) M t 2) (g_hR (by decide)) g_h0 rfl rfl (Nat.le_of_ble_eq_true rfl) rfl rfl ?_
        refine ev_bne (tgt := 86) d_Mo_wrongTypes_68 (by decide) rfl (fun h1 => ?_) (fun h1 => ?_)
        · refine ev_iconst d_Mo_wrongTypes_86 rfl ⟨by decide, by decide⟩ ?_
          refine ev_goto (tgt := 91) d_Mo_wrongTypes_87 (by decide) ?_
          exact ev_retI d_Mo_wrongTypes_91 (by first | rfl | omega | simp_all) rfl (Or.inr ⟨rfl, by omega⟩)
        · refine ev_iload (i := 4) d_Mo_wrongTypes_71 rfl rfl ?_
          refine ev_bne (tgt := 86) d_Mo_wrongTypes_73 (by decide) rfl (fun h2 => ?_) (fun h2 => ?_)
          · refine ev_iconst d_Mo_wrongTypes_86 rfl ⟨by decide, by decide⟩ ?_
            refine ev_goto (tgt := 91) d_Mo_wrongTypes_87 (by decide) ?_
            exact ev_retI d_Mo_wrongTypes_91 (by first | rfl | omega | simp_all) rfl (Or.inr ⟨rfl, by omega⟩)
          · refine ev_iload (i := 5) d_Mo_wrongTypes_76 rfl rfl ?_
            refine ev_bne (tgt := 86) d_Mo_wrongTypes_78 (by decide) rfl (fun h3 => ?_) (fun h3 => ?_)
            · refine ev_iconst d_Mo_wrongTypes_86 rfl ⟨by decide, by decide⟩ ?_
              refine ev_goto (tgt := 91) d_Mo_wrongTypes_87 (by decide) ?_
              exact ev_retI d_Mo_wrongTypes_91 (by first | rfl | omega | simp_all) rfl (Or.inr ⟨rfl, by omega⟩)
            · refine ev_iload (i := 6) d_Mo_wrongTypes_81 rfl rfl ?_
              refine ev_beq (tgt := 90) d_Mo_wrongTypes_83 (by decide) rfl (fun h4 => ?_) (fun h4 => ?_)
              · refine ev_iconst d_Mo_wrongTypes_90 rfl ⟨by decide, by decide⟩ ?_
                exact ev_retI d_Mo_wrongTypes_91 (by first | rfl | omega | simp_all) rfl (Or.inr ⟨rfl, by omega⟩)
              · refine ev_iconst d_Mo_wrongTypes_86 rfl ⟨by decide, by decide⟩ ?_
                refine ev_goto (tgt := 91) d_Mo_wrongTypes_87 (by decide) ?_
                exact ev_retI d_Mo_wrongTypes_91 (by first | rfl | omega | simp_all) rfl (Or.inr ⟨rfl, by omega⟩)
      · refine ev_iload_n (i := 1) d_Mo_wrongTypes_38 rfl rfl rfl ?_
        refine ev_if_lt (tgt := 60) d_Mo_wrongTypes_39 (by decide) rfl (fun h5 => ?_) (fun h5 => ?_)
        · refine ev_iconst d_Mo_wrongTypes_60 rfl ⟨by decide, by decide⟩ ?_
          refine ev_istore (i := 6) d_Mo_wrongTypes_61 rfl (by decide) rfl ?_
          exact K63 _ (by omega)
        · refine ev_iload_n (i := 2) d_Mo_wrongTypes_42 rfl rfl rfl ?_
          refine ev_if_lt (tgt := 60) d_Mo_wrongTypes_43 (by decide) rfl (fun h6 => ?_) (fun h6 => ?_)
          · refine ev_iconst d_Mo_wrongTypes_60 rfl ⟨by decide, by decide⟩ ?_
            refine ev_istore (i := 6) d_Mo_wrongTypes_61 rfl (by decide) rfl ?_
            exact K63 _ (by omega)
          · refine ev_iload_n (i := 3) d_Mo_wrongTypes_46 rfl rfl rfl ?_
            refine ev_iconst d_Mo_wrongTypes_47 rfl ⟨by decide, by decide⟩ ?_
            refine ev_icmp_lt (tgt := 56) d_Mo_wrongTypes_48 (by decide) rfl (fun h7 => ?_) (fun h7 => ?_)
            · refine ev_iconst d_Mo_wrongTypes_56 rfl ⟨by decide, by decide⟩ ?_
              refine ev_goto (tgt := 61) d_Mo_wrongTypes_57 (by decide) ?_
              refine ev_istore (i := 6) d_Mo_wrongTypes_61 rfl (by decide) rfl ?_
              exact K63 _ (by omega)
            · refine ev_iload_n (i := 3) d_Mo_wrongTypes_51 rfl rfl rfl ?_
              refine ev_iconst d_Mo_wrongTypes_52 rfl ⟨by decide, by decide⟩ ?_
              refine ev_icmp_le (tgt := 60) d_Mo_wrongTypes_53 (by decide) rfl (fun h8 => ?_) (fun h8 => ?_)
              · refine ev_iconst d_Mo_wrongTypes_60 rfl ⟨by decide, by decide⟩ ?_
                refine ev_istore (i := 6) d_Mo_wrongTypes_61 rfl (by decide) rfl ?_
                exact K63 _ (by omega)
              · refine ev_iconst d_Mo_wrongTypes_56 rfl ⟨by decide, by decide⟩ ?_
                refine ev_goto (tgt := 61) d_Mo_wrongTypes_57 (by decide) ?_
                refine ev_istore (i := 6) d_Mo_wrongTypes_61 rfl (by decide) rfl ?_
                exact K63 _ (by omega)
    · refine ev_iload_n (i := 1) d_Mo_wrongTypes_17 rfl rfl rfl ?_
      refine ev_if_lt (tgt := 35) d_Mo_wrongTypes_18 (by decide) rfl (fun h9 => ?_) (fun h9 => ?_)
      · refine ev_iconst d_Mo_wrongTypes_35 rfl ⟨by decide, by decide⟩ ?_
        refine ev_istore (i := 5) d_Mo_wrongTypes_36 rfl (by decide) rfl ?_
        exact K38 _ (by omega)
      · refine ev_iload_n (i := 2) d_Mo_wrongTypes_21 rfl rfl rfl ?_
        refine ev_iconst d_Mo_wrongTypes_22 rfl ⟨by decide, by decide⟩ ?_
        refine ev_icmp_lt (tgt := 31) d_Mo_wrongTypes_23 (by decide) rfl (fun h10 => ?_) (fun h10 => ?_)
        · refine ev_iconst d_Mo_wrongTypes_31 rfl ⟨by decide, by decide⟩ ?_
          refine ev_goto (tgt := 36) d_Mo_wrongTypes_32 (by decide) ?_
          refine ev_istore (i := 5) d_Mo_wrongTypes_36 rfl (by decide) rfl ?_
          exact K38 _ (by omega)
        · refine ev_iload_n (i := 2) d_Mo_wrongTypes_26 rfl rfl rfl ?_
          refine ev_iconst d_Mo_wrongTypes_27 rfl ⟨by decide, by decide⟩ ?_
          refine ev_icmp_le (tgt := 35) d_Mo_wrongTypes_28 (by decide) rfl (fun h11 => ?_) (fun h11 => ?_)
          · refine ev_iconst d_Mo_wrongTypes_35 rfl ⟨by decide, by decide⟩ ?_
            refine ev_istore (i := 5) d_Mo_wrongTypes_36 rfl (by decide) rfl ?_
            exact K38 _ (by omega)
          · refine ev_iconst d_Mo_wrongTypes_31 rfl ⟨by decide, by decide⟩ ?_
            refine ev_goto (tgt := 36) d_Mo_wrongTypes_32 (by decide) ?_
            refine ev_istore (i := 5) d_Mo_wrongTypes_36 rfl (by decide) rfl ?_
            exact K38 _ (by omega)
  · refine ev_iload_n (i := 1) d_Mo_wrongTypes_0 rfl rfl rfl ?_
    refine ev_iconst d_Mo_wrongTypes_1 rfl ⟨by decide, by decide⟩ ?_
    refine ev_icmp_lt (tgt := 10) d_Mo_wrongTypes_2 (by decide) rfl (fun h12 => ?_) (fun h12 => ?_)
    · refine ev_iconst d_Mo_wrongTypes_10 rfl ⟨by decide, by decide⟩ ?_
      refine ev_goto (tgt := 15) d_Mo_wrongTypes_11 (by decide) ?_
      refine ev_istore (i := 4) d_Mo_wrongTypes_15 rfl (by decide) rfl ?_
      exact K17 _ (by omega)
    · refine ev_iload_n (i := 1) d_Mo_wrongTypes_5 rfl rfl rfl ?_
      refine ev_iconst d_Mo_wrongTypes_6 rfl ⟨by decide, by decide⟩ ?_
      refine ev_icmp_le (tgt := 14) d_Mo_wrongTypes_7 (by decide) rfl (fun h13 => ?_) (fun h13 => ?_)
      · refine ev_iconst d_Mo_wrongTypes_14 rfl ⟨by decide, by decide⟩ ?_
        refine ev_istore (i := 4) d_Mo_wrongTypes_15 rfl (by decide) rfl ?_
        exact K17 _ (by omega)
      · refine ev_iconst d_Mo_wrongTypes_10 rfl ⟨by decide, by decide⟩ ?_
        refine ev_goto (tgt := 15) d_Mo_wrongTypes_11 (by decide) ?_
        refine ev_istore (i := 4) d_Mo_wrongTypes_15 rfl (by decide) rfl ?_
        exact K17 _ (by omega)
theorem c_Mo_constructor (d : Nat) (M : g_M) (n : Nat) (t a b c : Int) (hs : s_ok t a b c) (hn : M 45 0 = n) (hl : n < 8) : Con y_Mo_constructor w_Mo_constructor (g_rm (d + 2)) LX M [g_r 45, g_i t, g_i a, g_i b, g_i c] LX (g_up (g_up (g_up (g_up (g_up (g_up (g_up (g_up M 45 44 0) 46 n t) 47 n (if a < 0 then 0 else if b < 0 then 1 else if c < 0 then 2 else 3)) 48 (3 * n) a) 48 (3 * n + 1) b) 48 (3 * n + 2) c) 45 0 ((n : Int) + 1)) 45 17 0) (some (g_i (n : Int))) := by
  refine con_of (av := [g_r 45, g_i t, g_i a, g_i b, g_i c]) (ls0 := [some (g_r 45), some (g_i t), some (g_i a), some (g_i b), some (g_i c)]) (by decide) rfl (Nat.le_of_ble_eq_true rfl) (g_hls (av := [g_r 45, g_i t, g_i a, g_i b, g_i c]) (k := 0)) (fun _ h9 => List.mem_cons_of_mem _ h9) ?_
  refine ev_aload_n (i := 0) d_Mo_constructor_0 rfl rfl rfl ?_
  refine ev_iload_n (i := 1) d_Mo_constructor_1 rfl rfl rfl ?_
  refine ev_iload_n (i := 2) d_Mo_constructor_2 rfl rfl rfl ?_
  refine ev_iload_n (i := 3) d_Mo_constructor_3 rfl rfl rfl ?_
  refine ev_iload (i := 4) d_Mo_constructor_4 rfl rfl ?_
  refine ev_callS (As := [g_i t, g_i a, g_i b, g_i c]) d_Mo_constructor_6 rfl cl_Mo_112 (c_Mo_wrongTypes (d + 0) M t a b c) (g_hR (by decide)) g_h0 rfl rfl (Nat.le_of_ble_eq_true rfl) rfl rfl ?_
  refine ev_if_eq_t (tgt := 16) d_Mo_constructor_9 (by decide) (by rw [if_pos hs]) ?_
  refine ev_aload_n (i := 0) d_Mo_constructor_16 rfl rfl rfl ?_
  refine ev_getI (z := (n : Int)) d_Mo_constructor_17 rfl lk_Mo_116 lx_45 rfl (by simp [g_up, hn]) ?_
  refine ev_bipush d_Mo_constructor_20 rfl (by decide +kernel) ⟨by decide, by decide⟩ ?_
  refine ev_icmp_ne_t (tgt := 29) d_Mo_constructor_22 (by decide) (by omega) ?_
  refine ev_iconst d_Mo_constructor_29 rfl ⟨by decide, by decide⟩ ?_
  refine ev_putI d_Mo_constructor_30 rfl lk_Mo_104 fp_Mo_44 (Or.inl rfl) lx_45 rfl ?_
  refine ev_aload_n (i := 0) d_Mo_constructor_33 rfl rfl rfl ?_
  refine ev_getI (z := 0) d_Mo_constructor_34 rfl lk_Mo_104 lx_45 rfl (by simp [g_up]) ?_
  refine ev_if_eq_t (tgt := 42) d_Mo_constructor_37 (by decide) (rfl) ?_
  refine ev_aload_n (i := 0) d_Mo_constructor_42 rfl rfl rfl ?_
  refine ev_getR d_Mo_constructor_43 rfl lk_Mo_7 lx_45 rfl ?_
  refine ev_aload_n (i := 0) d_Mo_constructor_46 rfl rfl rfl ?_
  refine ev_getI (z := (n : Int)) d_Mo_constructor_47 rfl lk_Mo_116 lx_45 rfl (by simp [g_up, hn]) ?_
  refine ev_iload_n (i := 1) d_Mo_constructor_50 rfl rfl rfl ?_
  refine ev_iastore d_Mo_constructor_51 rfl lx_46 (by omega) (by omega) ?_
  rw [show (((n : Int))).toNat = n by first | rfl | omega]
  refine ev_aload_n (i := 0) d_Mo_constructor_52 rfl rfl rfl ?_
  refine ev_getR d_Mo_constructor_53 rfl lk_Mo_13 lx_45 rfl ?_
  refine ev_aload_n (i := 0) d_Mo_constructor_56 rfl rfl rfl ?_
  refine ev_getI (z := (n : Int)) d_Mo_constructor_57 rfl lk_Mo_116 lx_45 rfl (by simp [g_up, hn]) ?_
  refine ev_iload_n (i := 2) d_Mo_constructor_60 rfl rfl rfl ?_
  refine ev_iload_n (i := 3) d_Mo_constructor_61 rfl rfl rfl ?_
  refine ev_iload (i := 4) d_Mo_constructor_62 rfl rfl ?_
  refine ev_callS (As := [g_i a, g_i b, g_i c]) d_Mo_constructor_64 rfl cl_Mo_119 (c_Mo_many (d + 1) (g_up (g_up M 45 44 0) 46 n t) a b c) (g_hR (by decide)) g_h0 rfl rfl (Nat.le_of_ble_eq_true rfl) rfl rfl ?_
  refine ev_iastore d_Mo_constructor_67 rfl lx_47 (by omega) (by omega) ?_
  rw [show (((n : Int))).toNat = n by first | rfl | omega]
  refine ev_aload_n (i := 0) d_Mo_constructor_68 rfl rfl rfl ?_
  refine ev_getR d_Mo_constructor_69 rfl lk_Mo_16 lx_45 rfl ?_
  refine ev_iconst d_Mo_constructor_72 rfl ⟨by decide, by decide⟩ ?_
  refine ev_aload_n (i := 0) d_Mo_constructor_73 rfl rfl rfl ?_
  refine ev_getI (z := (n : Int)) d_Mo_constructor_74 rfl lk_Mo_116 lx_45 rfl (by simp [g_up, hn]) ?_
  refine ev_imul (z := 3 * ((n : Int))) d_Mo_constructor_77 rfl (g_w_id (by unfold g_rg; omega)) ?_
  refine ev_iload_n (i := 2) d_Mo_constructor_78 rfl rfl rfl ?_
  refine ev_iastore d_Mo_constructor_79 rfl lx_48 (by omega) (by omega) ?_
  rw [show ((3 * ((n : Int)))).toNat = 3 * n by first | rfl | omega]
  refine ev_aload_n (i := 0) d_Mo_constructor_80 rfl rfl rfl ?_
  refine ev_getR d_Mo_constructor_81 rfl lk_Mo_16 lx_45 rfl ?_
  refine ev_iconst d_Mo_constructor_84 rfl ⟨by decide, by decide⟩ ?_
  refine ev_aload_n (i := 0) d_Mo_constructor_85 rfl rfl rfl ?_
  refine ev_getI (z := (n : Int)) d_Mo_constructor_86 rfl lk_Mo_116 lx_45 rfl (by simp [g_up, hn]) ?_
  refine ev_imul (z := 3 * ((n : Int))) d_Mo_constructor_89 rfl (g_w_id (by unfold g_rg; omega)) ?_
  refine ev_iconst d_Mo_constructor_90 rfl ⟨by decide, by decide⟩ ?_
  refine ev_iadd (z := (3 * ((n : Int))) + 1) d_Mo_constructor_91 rfl (g_w_id (by unfold g_rg; omega)) ?_
  refine ev_iload_n (i := 3) d_Mo_constructor_92 rfl rfl rfl ?_
  refine ev_iastore d_Mo_constructor_93 rfl lx_48 (by omega) (by omega) ?_
  rw [show (((3 * ((n : Int))) + 1)).toNat = 3 * n + 1 by first | rfl | omega]
  refine ev_aload_n (i := 0) d_Mo_constructor_94 rfl rfl rfl ?_
  refine ev_getR d_Mo_constructor_95 rfl lk_Mo_16 lx_45 rfl ?_
  refine ev_iconst d_Mo_constructor_98 rfl ⟨by decide, by decide⟩ ?_
  refine ev_aload_n (i := 0) d_Mo_constructor_99 rfl rfl rfl ?_
  refine ev_getI (z := (n : Int)) d_Mo_constructor_100 rfl lk_Mo_116 lx_45 rfl (by simp [g_up, hn]) ?_
  refine ev_imul (z := 3 * ((n : Int))) d_Mo_constructor_103 rfl (g_w_id (by unfold g_rg; omega)) ?_
  refine ev_iconst d_Mo_constructor_104 rfl ⟨by decide, by decide⟩ ?_
  refine ev_iadd (z := (3 * ((n : Int))) + 2) d_Mo_constructor_105 rfl (g_w_id (by unfold g_rg; omega)) ?_
  refine ev_iload (i := 4) d_Mo_constructor_106 rfl rfl ?_
  refine ev_iastore d_Mo_constructor_108 rfl lx_48 (by omega) (by omega) ?_
  rw [show (((3 * ((n : Int))) + 2)).toNat = 3 * n + 2 by first | rfl | omega]
  refine ev_aload_n (i := 0) d_Mo_constructor_109 rfl rfl rfl ?_
  refine ev_dup d_Mo_constructor_110 rfl rfl ?_
  refine ev_getI (z := (n : Int)) d_Mo_constructor_111 rfl lk_Mo_116 lx_45 rfl (by simp [g_up, hn]) ?_
  refine ev_iconst d_Mo_constructor_114 rfl ⟨by decide, by decide⟩ ?_
  refine ev_iadd (z := ((n : Int)) + 1) d_Mo_constructor_115 rfl (g_w_id (by unfold g_rg; omega)) ?_
  refine ev_putI d_Mo_constructor_116 rfl lk_Mo_116 fp_Mo_0 (Or.inl rfl) lx_45 rfl ?_
  refine ev_aload_n (i := 0) d_Mo_constructor_119 rfl rfl rfl ?_
  refine ev_iconst d_Mo_constructor_120 rfl ⟨by decide, by decide⟩ ?_
  refine ev_putI d_Mo_constructor_121 rfl lk_Mo_123 fp_Mo_17 (Or.inr ⟨rfl, by omega⟩) lx_45 rfl ?_
  refine ev_aload_n (i := 0) d_Mo_constructor_124 rfl rfl rfl ?_
  refine ev_getI (z := (n : Int) + 1) d_Mo_constructor_125 rfl lk_Mo_116 lx_45 rfl (by simp [g_up]) ?_
  refine ev_iconst d_Mo_constructor_128 rfl ⟨by decide, by decide⟩ ?_
  refine ev_isub (z := ((n : Int) + 1) - 1) d_Mo_constructor_129 rfl (g_w_id (by unfold g_rg; omega)) ?_
  exact ev_retI d_Mo_constructor_130 (by first | rfl | omega | simp_all) rfl (Or.inl rfl)
theorem c_Mo_constructor_x1 (d : Nat) (M : g_M) (t a b c : Int) (hs : ¬ s_ok t a b c) : Con y_Mo_constructor w_Mo_constructor (g_rm (d + 2)) LX M [g_r 45, g_i t, g_i a, g_i b, g_i c] LX (g_up M 45 44 1) (some (g_i 0)) := by
  refine con_of (av := [g_r 45, g_i t, g_i a, g_i b, g_i c]) (ls0 := [some (g_r 45), some (g_i t), some (g_i a), some (g_i b), some (g_i c)]) (by decide) rfl (Nat.le_of_ble_eq_true rfl) (g_hls (av := [g_r 45, g_i t, g_i a, g_i b, g_i c]) (k := 0)) (fun _ h9 => List.mem_cons_of_mem _ h9) ?_
  refine ev_aload_n (i := 0) d_Mo_constructor_0 rfl rfl rfl ?_
  refine ev_iload_n (i := 1) d_Mo_constructor_1 rfl rfl rfl ?_
  refine ev_iload_n (i := 2) d_Mo_constructor_2 rfl rfl rfl ?_
  refine ev_iload_n (i := 3) d_Mo_constructor_3 rfl rfl rfl ?_
  refine ev_iload (i := 4) d_Mo_constructor_4 rfl rfl ?_
  refine ev_callS (As := [g_i t, g_i a, g_i b, g_i c]) d_Mo_constructor_6 rfl cl_Mo_112 (c_Mo_wrongTypes (d + 0) M t a b c) (g_hR (by decide)) g_h0 rfl rfl (Nat.le_of_ble_eq_true rfl) rfl rfl ?_
  refine ev_if_eq_f (tgt := 16) d_Mo_constructor_9 (by decide) rfl (by rw [if_neg hs]; decide) ?_
  refine ev_iconst d_Mo_constructor_12 rfl ⟨by decide, by decide⟩ ?_
  refine ev_goto (tgt := 30) d_Mo_constructor_13 (by decide) ?_
  refine ev_putI d_Mo_constructor_30 rfl lk_Mo_104 fp_Mo_44 (Or.inl rfl) lx_45 rfl ?_
  refine ev_aload_n (i := 0) d_Mo_constructor_33 rfl rfl rfl ?_
  refine ev_getI (z := 1) d_Mo_constructor_34 rfl lk_Mo_104 lx_45 rfl (by simp [g_up]) ?_
  refine ev_if_eq_f (tgt := 42) d_Mo_constructor_37 (by decide) rfl (by decide) ?_
  refine ev_iconst d_Mo_constructor_40 rfl ⟨by decide, by decide⟩ ?_
  exact ev_retI d_Mo_constructor_41 (by first | rfl | omega | simp_all) rfl (Or.inl rfl)
theorem c_Mo_constructor_x2 (d : Nat) (M : g_M) (t a b c : Int) (hs : s_ok t a b c) (hf : M 45 0 = 8) : Con y_Mo_constructor w_Mo_constructor (g_rm (d + 2)) LX M [g_r 45, g_i t, g_i a, g_i b, g_i c] LX (g_up M 45 44 2) (some (g_i 0)) := by
  refine con_of (av := [g_r 45, g_i t, g_i a, g_i b, g_i c]) (ls0 := [some (g_r 45), some (g_i t), some (g_i a), some (g_i b), some (g_i c)]) (by decide) rfl (Nat.le_of_ble_eq_true rfl) (g_hls (av := [g_r 45, g_i t, g_i a, g_i b, g_i c]) (k := 0)) (fun _ h9 => List.mem_cons_of_mem _ h9) ?_
  refine ev_aload_n (i := 0) d_Mo_constructor_0 rfl rfl rfl ?_
  refine ev_iload_n (i := 1) d_Mo_constructor_1 rfl rfl rfl ?_
  refine ev_iload_n (i := 2) d_Mo_constructor_2 rfl rfl rfl ?_
  refine ev_iload_n (i := 3) d_Mo_constructor_3 rfl rfl rfl ?_
  refine ev_iload (i := 4) d_Mo_constructor_4 rfl rfl ?_
  refine ev_callS (As := [g_i t, g_i a, g_i b, g_i c]) d_Mo_constructor_6 rfl cl_Mo_112 (c_Mo_wrongTypes (d + 0) M t a b c) (g_hR (by decide)) g_h0 rfl rfl (Nat.le_of_ble_eq_true rfl) rfl rfl ?_
  refine ev_if_eq_t (tgt := 16) d_Mo_constructor_9 (by decide) (by rw [if_pos hs]) ?_
  refine ev_aload_n (i := 0) d_Mo_constructor_16 rfl rfl rfl ?_
  refine ev_getI (z := M 45 0) d_Mo_constructor_17 rfl lk_Mo_116 lx_45 rfl (rfl) ?_
  refine ev_bipush d_Mo_constructor_20 rfl (by decide +kernel) ⟨by decide, by decide⟩ ?_
  refine ev_icmp_ne_f (tgt := 29) d_Mo_constructor_22 (by decide) rfl (hf) ?_
  refine ev_iconst d_Mo_constructor_25 rfl ⟨by decide, by decide⟩ ?_
  refine ev_goto (tgt := 30) d_Mo_constructor_26 (by decide) ?_
  refine ev_putI d_Mo_constructor_30 rfl lk_Mo_104 fp_Mo_44 (Or.inl rfl) lx_45 rfl ?_
  refine ev_aload_n (i := 0) d_Mo_constructor_33 rfl rfl rfl ?_
  refine ev_getI (z := 2) d_Mo_constructor_34 rfl lk_Mo_104 lx_45 rfl (by simp [g_up]) ?_
  refine ev_if_eq_f (tgt := 42) d_Mo_constructor_37 (by decide) rfl (by decide) ?_
  refine ev_iconst d_Mo_constructor_40 rfl ⟨by decide, by decide⟩ ?_
  exact ev_retI d_Mo_constructor_41 (by first | rfl | omega | simp_all) rfl (Or.inl rfl)
theorem c_Mo_function (d : Nat) (M : g_M) (n : Nat) (t a b c : Int) (hs : s_ok t a b c) (hn : M 45 4 = n) (hl : n < 6) : Con y_Mo_function w_Mo_function (g_rm (d + 2)) LX M [g_r 45, g_i t, g_i a, g_i b, g_i c] LX (g_up (g_up (g_up (g_up (g_up (g_up (g_up (g_up M 45 44 0) 49 n t) 50 n (if a < 0 then 0 else if b < 0 then 1 else if c < 0 then 2 else 3)) 51 (3 * n) a) 51 (3 * n + 1) b) 51 (3 * n + 2) c) 45 4 ((n : Int) + 1)) 45 17 0) (some (g_i (n : Int))) := by
  refine con_of (av := [g_r 45, g_i t, g_i a, g_i b, g_i c]) (ls0 := [some (g_r 45), some (g_i t), some (g_i a), some (g_i b), some (g_i c)]) (by decide) rfl (Nat.le_of_ble_eq_true rfl) (g_hls (av := [g_r 45, g_i t, g_i a, g_i b, g_i c]) (k := 0)) (fun _ h9 => List.mem_cons_of_mem _ h9) ?_
  refine ev_aload_n (i := 0) d_Mo_function_0 rfl rfl rfl ?_
  refine ev_iload_n (i := 1) d_Mo_function_1 rfl rfl rfl ?_
  refine ev_iload_n (i := 2) d_Mo_function_2 rfl rfl rfl ?_
  refine ev_iload_n (i := 3) d_Mo_function_3 rfl rfl rfl ?_
  refine ev_iload (i := 4) d_Mo_function_4 rfl rfl ?_
  refine ev_callS (As := [g_i t, g_i a, g_i b, g_i c]) d_Mo_function_6 rfl cl_Mo_112 (c_Mo_wrongTypes (d + 0) M t a b c) (g_hR (by decide)) g_h0 rfl rfl (Nat.le_of_ble_eq_true rfl) rfl rfl ?_
  refine ev_if_eq_t (tgt := 16) d_Mo_function_9 (by decide) (by rw [if_pos hs]) ?_
  refine ev_aload_n (i := 0) d_Mo_function_16 rfl rfl rfl ?_
  refine ev_getI (z := (n : Int)) d_Mo_function_17 rfl lk_Mo_127 lx_45 rfl (by simp [g_up, hn]) ?_
  refine ev_bipush d_Mo_function_20 rfl (by decide +kernel) ⟨by decide, by decide⟩ ?_
  refine ev_icmp_ne_t (tgt := 29) d_Mo_function_22 (by decide) (by omega) ?_
  refine ev_iconst d_Mo_function_29 rfl ⟨by decide, by decide⟩ ?_
  refine ev_putI d_Mo_function_30 rfl lk_Mo_104 fp_Mo_44 (Or.inl rfl) lx_45 rfl ?_
  refine ev_aload_n (i := 0) d_Mo_function_33 rfl rfl rfl ?_
  refine ev_getI (z := 0) d_Mo_function_34 rfl lk_Mo_104 lx_45 rfl (by simp [g_up]) ?_
  refine ev_if_eq_t (tgt := 42) d_Mo_function_37 (by decide) (rfl) ?_
  refine ev_aload_n (i := 0) d_Mo_function_42 rfl rfl rfl ?_
  refine ev_getR d_Mo_function_43 rfl lk_Mo_19 lx_45 rfl ?_
  refine ev_aload_n (i := 0) d_Mo_function_46 rfl rfl rfl ?_
  refine ev_getI (z := (n : Int)) d_Mo_function_47 rfl lk_Mo_127 lx_45 rfl (by simp [g_up, hn]) ?_
  refine ev_iload_n (i := 1) d_Mo_function_50 rfl rfl rfl ?_
  refine ev_iastore d_Mo_function_51 rfl lx_49 (by omega) (by omega) ?_
  rw [show (((n : Int))).toNat = n by first | rfl | omega]
  refine ev_aload_n (i := 0) d_Mo_function_52 rfl rfl rfl ?_
  refine ev_getR d_Mo_function_53 rfl lk_Mo_22 lx_45 rfl ?_
  refine ev_aload_n (i := 0) d_Mo_function_56 rfl rfl rfl ?_
  refine ev_getI (z := (n : Int)) d_Mo_function_57 rfl lk_Mo_127 lx_45 rfl (by simp [g_up, hn]) ?_
  refine ev_iload_n (i := 2) d_Mo_function_60 rfl rfl rfl ?_
  refine ev_iload_n (i := 3) d_Mo_function_61 rfl rfl rfl ?_
  refine ev_iload (i := 4) d_Mo_function_62 rfl rfl ?_
  refine ev_callS (As := [g_i a, g_i b, g_i c]) d_Mo_function_64 rfl cl_Mo_119 (c_Mo_many (d + 1) (g_up (g_up M 45 44 0) 49 n t) a b c) (g_hR (by decide)) g_h0 rfl rfl (Nat.le_of_ble_eq_true rfl) rfl rfl ?_
  refine ev_iastore d_Mo_function_67 rfl lx_50 (by omega) (by omega) ?_
  rw [show (((n : Int))).toNat = n by first | rfl | omega]
  refine ev_aload_n (i := 0) d_Mo_function_68 rfl rfl rfl ?_
  refine ev_getR d_Mo_function_69 rfl lk_Mo_25 lx_45 rfl ?_
  refine ev_iconst d_Mo_function_72 rfl ⟨by decide, by decide⟩ ?_
  refine ev_aload_n (i := 0) d_Mo_function_73 rfl rfl rfl ?_
  refine ev_getI (z := (n : Int)) d_Mo_function_74 rfl lk_Mo_127 lx_45 rfl (by simp [g_up, hn]) ?_
  refine ev_imul (z := 3 * ((n : Int))) d_Mo_function_77 rfl (g_w_id (by unfold g_rg; omega)) ?_
  refine ev_iload_n (i := 2) d_Mo_function_78 rfl rfl rfl ?_
  refine ev_iastore d_Mo_function_79 rfl lx_51 (by omega) (by omega) ?_
  rw [show ((3 * ((n : Int)))).toNat = 3 * n by first | rfl | omega]
  refine ev_aload_n (i := 0) d_Mo_function_80 rfl rfl rfl ?_
  refine ev_getR d_Mo_function_81 rfl lk_Mo_25 lx_45 rfl ?_
  refine ev_iconst d_Mo_function_84 rfl ⟨by decide, by decide⟩ ?_
  refine ev_aload_n (i := 0) d_Mo_function_85 rfl rfl rfl ?_
  refine ev_getI (z := (n : Int)) d_Mo_function_86 rfl lk_Mo_127 lx_45 rfl (by simp [g_up, hn]) ?_
  refine ev_imul (z := 3 * ((n : Int))) d_Mo_function_89 rfl (g_w_id (by unfold g_rg; omega)) ?_
  refine ev_iconst d_Mo_function_90 rfl ⟨by decide, by decide⟩ ?_
  refine ev_iadd (z := (3 * ((n : Int))) + 1) d_Mo_function_91 rfl (g_w_id (by unfold g_rg; omega)) ?_
  refine ev_iload_n (i := 3) d_Mo_function_92 rfl rfl rfl ?_
  refine ev_iastore d_Mo_function_93 rfl lx_51 (by omega) (by omega) ?_
  rw [show (((3 * ((n : Int))) + 1)).toNat = 3 * n + 1 by first | rfl | omega]
  refine ev_aload_n (i := 0) d_Mo_function_94 rfl rfl rfl ?_
  refine ev_getR d_Mo_function_95 rfl lk_Mo_25 lx_45 rfl ?_
  refine ev_iconst d_Mo_function_98 rfl ⟨by decide, by decide⟩ ?_
  refine ev_aload_n (i := 0) d_Mo_function_99 rfl rfl rfl ?_
  refine ev_getI (z := (n : Int)) d_Mo_function_100 rfl lk_Mo_127 lx_45 rfl (by simp [g_up, hn]) ?_
  refine ev_imul (z := 3 * ((n : Int))) d_Mo_function_103 rfl (g_w_id (by unfold g_rg; omega)) ?_
  refine ev_iconst d_Mo_function_104 rfl ⟨by decide, by decide⟩ ?_
  refine ev_iadd (z := (3 * ((n : Int))) + 2) d_Mo_function_105 rfl (g_w_id (by unfold g_rg; omega)) ?_
  refine ev_iload (i := 4) d_Mo_function_106 rfl rfl ?_
  refine ev_iastore d_Mo_function_108 rfl lx_51 (by omega) (by omega) ?_
  rw [show (((3 * ((n : Int))) + 2)).toNat = 3 * n + 2 by first | rfl | omega]
  refine ev_aload_n (i := 0) d_Mo_function_109 rfl rfl rfl ?_
  refine ev_dup d_Mo_function_110 rfl rfl ?_
  refine ev_getI (z := (n : Int)) d_Mo_function_111 rfl lk_Mo_127 lx_45 rfl (by simp [g_up, hn]) ?_
  refine ev_iconst d_Mo_function_114 rfl ⟨by decide, by decide⟩ ?_
  refine ev_iadd (z := ((n : Int)) + 1) d_Mo_function_115 rfl (g_w_id (by unfold g_rg; omega)) ?_
  refine ev_putI d_Mo_function_116 rfl lk_Mo_127 fp_Mo_4 (Or.inl rfl) lx_45 rfl ?_
  refine ev_aload_n (i := 0) d_Mo_function_119 rfl rfl rfl ?_
  refine ev_iconst d_Mo_function_120 rfl ⟨by decide, by decide⟩ ?_
  refine ev_putI d_Mo_function_121 rfl lk_Mo_123 fp_Mo_17 (Or.inr ⟨rfl, by omega⟩) lx_45 rfl ?_
  refine ev_aload_n (i := 0) d_Mo_function_124 rfl rfl rfl ?_
  refine ev_getI (z := (n : Int) + 1) d_Mo_function_125 rfl lk_Mo_127 lx_45 rfl (by simp [g_up]) ?_
  refine ev_iconst d_Mo_function_128 rfl ⟨by decide, by decide⟩ ?_
  refine ev_isub (z := ((n : Int) + 1) - 1) d_Mo_function_129 rfl (g_w_id (by unfold g_rg; omega)) ?_
  exact ev_retI d_Mo_function_130 (by first | rfl | omega | simp_all) rfl (Or.inl rfl)
theorem c_Mo_function_x1 (d : Nat) (M : g_M) (t a b c : Int) (hs : ¬ s_ok t a b c) : Con y_Mo_function w_Mo_function (g_rm (d + 2)) LX M [g_r 45, g_i t, g_i a, g_i b, g_i c] LX (g_up M 45 44 1) (some (g_i 0)) := by
  refine con_of (av := [g_r 45, g_i t, g_i a, g_i b, g_i c]) (ls0 := [some (g_r 45), some (g_i t), some (g_i a), some (g_i b), some (g_i c)]) (by decide) rfl (Nat.le_of_ble_eq_true rfl) (g_hls (av := [g_r 45, g_i t, g_i a, g_i b, g_i c]) (k := 0)) (fun _ h9 => List.mem_cons_of_mem _ h9) ?_
  refine ev_aload_n (i := 0) d_Mo_function_0 rfl rfl rfl ?_
  refine ev_iload_n (i := 1) d_Mo_function_1 rfl rfl rfl ?_
  refine ev_iload_n (i := 2) d_Mo_function_2 rfl rfl rfl ?_
  refine ev_iload_n (i := 3) d_Mo_function_3 rfl rfl rfl ?_
  refine ev_iload (i := 4) d_Mo_function_4 rfl rfl ?_
  refine ev_callS (As := [g_i t, g_i a, g_i b, g_i c]) d_Mo_function_6 rfl cl_Mo_112 (c_Mo_wrongTypes (d + 0) M t a b c) (g_hR (by decide)) g_h0 rfl rfl (Nat.le_of_ble_eq_true rfl) rfl rfl ?_
  refine ev_if_eq_f (tgt := 16) d_Mo_function_9 (by decide) rfl (by rw [if_neg hs]; decide) ?_
  refine ev_iconst d_Mo_function_12 rfl ⟨by decide, by decide⟩ ?_
  refine ev_goto (tgt := 30) d_Mo_function_13 (by decide) ?_
  refine ev_putI d_Mo_function_30 rfl lk_Mo_104 fp_Mo_44 (Or.inl rfl) lx_45 rfl ?_
  refine ev_aload_n (i := 0) d_Mo_function_33 rfl rfl rfl ?_
  refine ev_getI (z := 1) d_Mo_function_34 rfl lk_Mo_104 lx_45 rfl (by simp [g_up]) ?_
  refine ev_if_eq_f (tgt := 42) d_Mo_function_37 (by decide) rfl (by decide) ?_
  refine ev_iconst d_Mo_function_40 rfl ⟨by decide, by decide⟩ ?_
  exact ev_retI d_Mo_function_41 (by first | rfl | omega | simp_all) rfl (Or.inl rfl)
theorem c_Mo_function_x2 (d : Nat) (M : g_M) (t a b c : Int) (hs : s_ok t a b c) (hf : M 45 4 = 6) : Con y_Mo_function w_Mo_function (g_rm (d + 2)) LX M [g_r 45, g_i t, g_i a, g_i b, g_i c] LX (g_up M 45 44 2) (some (g_i 0)) := by
  refine con_of (av := [g_r 45, g_i t, g_i a, g_i b, g_i c]) (ls0 := [some (g_r 45), some (g_i t), some (g_i a), some (g_i b), some (g_i c)]) (by decide) rfl (Nat.le_of_ble_eq_true rfl) (g_hls (av := [g_r 45, g_i t, g_i a, g_i b, g_i c]) (k := 0)) (fun _ h9 => List.mem_cons_of_mem _ h9) ?_
  refine ev_aload_n (i := 0) d_Mo_function_0 rfl rfl rfl ?_
  refine ev_iload_n (i := 1) d_Mo_function_1 rfl rfl rfl ?_
  refine ev_iload_n (i := 2) d_Mo_function_2 rfl rfl rfl ?_
  refine ev_iload_n (i := 3) d_Mo_function_3 rfl rfl rfl ?_
  refine ev_iload (i := 4) d_Mo_function_4 rfl rfl ?_
  refine ev_callS (As := [g_i t, g_i a, g_i b, g_i c]) d_Mo_function_6 rfl cl_Mo_112 (c_Mo_wrongTypes (d + 0) M t a b c) (g_hR (by decide)) g_h0 rfl rfl (Nat.le_of_ble_eq_true rfl) rfl rfl ?_
  refine ev_if_eq_t (tgt := 16) d_Mo_function_9 (by decide) (by rw [if_pos hs]) ?_
  refine ev_aload_n (i := 0) d_Mo_function_16 rfl rfl rfl ?_
  refine ev_getI (z := M 45 4) d_Mo_function_17 rfl lk_Mo_127 lx_45 rfl (rfl) ?_
  refine ev_bipush d_Mo_function_20 rfl (by decide +kernel) ⟨by decide, by decide⟩ ?_
  refine ev_icmp_ne_f (tgt := 29) d_Mo_function_22 (by decide) rfl (hf) ?_
  refine ev_iconst d_Mo_function_25 rfl ⟨by decide, by decide⟩ ?_
  refine ev_goto (tgt := 30) d_Mo_function_26 (by decide) ?_
  refine ev_putI d_Mo_function_30 rfl lk_Mo_104 fp_Mo_44 (Or.inl rfl) lx_45 rfl ?_
  refine ev_aload_n (i := 0) d_Mo_function_33 rfl rfl rfl ?_
  refine ev_getI (z := 2) d_Mo_function_34 rfl lk_Mo_104 lx_45 rfl (by simp [g_up]) ?_
  refine ev_if_eq_f (tgt := 42) d_Mo_function_37 (by decide) rfl (by decide) ?_
  refine ev_iconst d_Mo_function_40 rfl ⟨by decide, by decide⟩ ?_
  exact ev_retI d_Mo_function_41 (by first | rfl | omega | simp_all) rfl (Or.inl rfl)
