theorem ev_lp {Me : g_Me} {R : Room} {Fi : g_Fin} {pc : Nat} {ls : g_Ls} {st : List g_v} {L : g_L} {M : g_M} {nc ns : Nat} (lj : Nat → g_Ls) (Mj : Nat → g_M) (n : Nat) (stp : ∀ i, i < n → Ev Me R Fi pc (lj (i + 1)) st L (Mj (i + 1)) nc ns → Ev Me R Fi pc (lj i) st L (Mj i) nc ns) (fin : Ev Me R Fi pc (lj n) st L (Mj n) nc ns) (h0 : ls = lj 0) (hM : M = Mj 0) : Ev Me R Fi pc ls st L M nc ns := by
  have h : ∀ j, j ≤ n → Ev Me R Fi pc (lj (n - j)) st L (Mj (n - j)) nc ns := by
    intro j
    induction j with
    | zero => intro _; exact fin
    | succ j ih =>
      intro hj
      refine stp (n - (j + 1)) (by omega) ?_
      rw [show n - (j + 1) + 1 = n - j by omega]
      exact ih (by omega)
  subst h0; subst hM
  have := h n (Nat.le_refl _)
  rwa [Nat.sub_self] at this
theorem ev_eq {Me : g_Me} {R : Room} {Fi : g_Fin} {pc : Nat} {ls ls' : g_Ls} {st : List g_v} {L : g_L} {M M' : g_M} {nc ns : Nat} (h : ls = ls') (hM : M = M') (k : Ev Me R Fi pc ls' st L M' nc ns) : Ev Me R Fi pc ls st L M nc ns := by
  subst h; subst hM; exact k
/-- how many of the first clauses are f's -/
def s_cn (M : g_M) (f : Int) : Nat → Int
  | 0 => 0
  | i + 1 => if M 56 i = f then s_cn M f i + 1 else s_cn M f i
theorem s_cn_le (M : g_M) (f : Int) : ∀ i : Nat, 0 ≤ s_cn M f i ∧ s_cn M f i ≤ i
  | 0 => ⟨Int.le_refl _, Int.le_refl _⟩
  | i + 1 => by
    have := s_cn_le M f i
    show 0 ≤ (if M 56 i = f then s_cn M f i + 1 else s_cn M f i) ∧ (if M 56 i = f then s_cn M f i + 1 else s_cn M f i) ≤ _
    split <;> omega
theorem c_Mo_variable (d : Nat) (M : g_M) (n : Nat) (v : Int) (hv : 0 ≤ v ∧ v < 8) (hn : M 45 8 = n) (hl : n < 100) : Con y_Mo_variable w_Mo_variable (g_rm (d + 1)) LX M [g_r 45, g_i v] LX (g_up (g_up (g_up (g_up (g_up M 45 44 0) 52 n v) 54 n 0) 55 n 1) 45 8 ((n : Int) + 1)) (some (g_i (n : Int))) := by
  refine con_of (av := [g_r 45, g_i v]) (ls0 := [some (g_r 45), some (g_i v)]) (by decide) rfl (Nat.le_of_ble_eq_true rfl) (g_hls (av := [g_r 45, g_i v]) (k := 0)) (fun _ h9 => List.mem_cons_of_mem _ h9) ?_
  refine ev_aload_n (i := 0) d_Mo_variable_0 rfl rfl rfl ?_
  refine ev_iload_n (i := 1) d_Mo_variable_1 rfl rfl rfl ?_
  refine ev_bipush d_Mo_variable_2 rfl (by decide +kernel) ⟨by decide, by decide⟩ ?_
  refine ev_callS (As := [g_i v, g_i 7]) d_Mo_variable_4 rfl cl_Mo_108 (c_Mo_outside (d + 0) M v 7) (g_hR (by decide)) g_h0 rfl rfl (Nat.le_of_ble_eq_true rfl) rfl rfl ?_
  refine ev_if_eq_t (tgt := 14) d_Mo_variable_7 (by decide) (by rw [if_neg (by omega)]) ?_
  refine ev_aload_n (i := 0) d_Mo_variable_14 rfl rfl rfl ?_
  refine ev_getI (z := M 45 8) d_Mo_variable_15 rfl lk_Mo_130 lx_45 rfl (rfl) ?_
  refine ev_bipush d_Mo_variable_18 rfl (by decide +kernel) ⟨by decide, by decide⟩ ?_
  refine ev_icmp_ne_t (tgt := 27) d_Mo_variable_20 (by decide) (by omega) ?_
  refine ev_iconst d_Mo_variable_27 rfl ⟨by decide, by decide⟩ ?_
  refine ev_putI d_Mo_variable_28 rfl lk_Mo_104 fp_Mo_44 (Or.inl rfl) lx_45 rfl ?_
  refine ev_aload_n (i := 0) d_Mo_variable_31 rfl rfl rfl ?_
  refine ev_getI (z := 0) d_Mo_variable_32 rfl lk_Mo_104 lx_45 rfl (by simp [g_up]) ?_
  refine ev_if_eq_t (tgt := 40) d_Mo_variable_35 (by decide) (rfl) ?_
  refine ev_aload_n (i := 0) d_Mo_variable_40 rfl rfl rfl ?_
  refine ev_getR d_Mo_variable_41 rfl lk_Mo_28 lx_45 rfl ?_
  refine ev_aload_n (i := 0) d_Mo_variable_44 rfl rfl rfl ?_
  refine ev_getI (z := (n : Int)) d_Mo_variable_45 rfl lk_Mo_130 lx_45 rfl (by simp [g_up, hn]) ?_
  refine ev_iload_n (i := 1) d_Mo_variable_48 rfl rfl rfl ?_
  refine ev_iastore d_Mo_variable_49 rfl lx_52 (by omega) (by omega) ?_
  rw [show Int.toNat (((n : Int))) = n by rfl]
  refine ev_aload_n (i := 0) d_Mo_variable_50 rfl rfl rfl ?_
  refine ev_getR d_Mo_variable_51 rfl lk_Mo_34 lx_45 rfl ?_
  refine ev_aload_n (i := 0) d_Mo_variable_54 rfl rfl rfl ?_
  refine ev_getI (z := (n : Int)) d_Mo_variable_55 rfl lk_Mo_130 lx_45 rfl (by simp [g_up, hn]) ?_
  refine ev_iconst d_Mo_variable_58 rfl ⟨by decide, by decide⟩ ?_
  refine ev_iastore d_Mo_variable_59 rfl lx_54 (by omega) (by omega) ?_
  rw [show Int.toNat (((n : Int))) = n by rfl]
  refine ev_aload_n (i := 0) d_Mo_variable_60 rfl rfl rfl ?_
  refine ev_getR d_Mo_variable_61 rfl lk_Mo_37 lx_45 rfl ?_
  refine ev_aload_n (i := 0) d_Mo_variable_64 rfl rfl rfl ?_
  refine ev_getI (z := (n : Int)) d_Mo_variable_65 rfl lk_Mo_130 lx_45 rfl (by simp [g_up, hn]) ?_
  refine ev_iconst d_Mo_variable_68 rfl ⟨by decide, by decide⟩ ?_
  refine ev_iastore d_Mo_variable_69 rfl lx_55 (by omega) (by omega) ?_
  rw [show Int.toNat (((n : Int))) = n by rfl]
  refine ev_aload_n (i := 0) d_Mo_variable_70 rfl rfl rfl ?_
  refine ev_dup d_Mo_variable_71 rfl rfl ?_
  refine ev_getI (z := (n : Int)) d_Mo_variable_72 rfl lk_Mo_130 lx_45 rfl (by simp [g_up, hn]) ?_
  refine ev_iconst d_Mo_variable_75 rfl ⟨by decide, by decide⟩ ?_
  refine ev_iadd (z := ((n : Int)) + 1) d_Mo_variable_76 rfl (g_w_id (by unfold g_rg; omega)) ?_
  refine ev_putI d_Mo_variable_77 rfl lk_Mo_130 fp_Mo_8 (Or.inl rfl) lx_45 rfl ?_
  refine ev_aload_n (i := 0) d_Mo_variable_80 rfl rfl rfl ?_
  refine ev_getI (z := (n : Int) + 1) d_Mo_variable_81 rfl lk_Mo_130 lx_45 rfl (by simp [g_up]) ?_
  refine ev_iconst d_Mo_variable_84 rfl ⟨by decide, by decide⟩ ?_
  refine ev_isub (z := ((n : Int) + 1) - 1) d_Mo_variable_85 rfl (g_w_id (by unfold g_rg; omega)) ?_
  exact ev_retI d_Mo_variable_86 (by first | rfl | omega | simp_all) rfl (Or.inl rfl)
theorem c_Mo_variable_x1 (d : Nat) (M : g_M) (v : Int) (hv : v < 0 ∨ 8 ≤ v) : Con y_Mo_variable w_Mo_variable (g_rm (d + 1)) LX M [g_r 45, g_i v] LX (g_up M 45 44 1) (some (g_i 0)) := by
  refine con_of (av := [g_r 45, g_i v]) (ls0 := [some (g_r 45), some (g_i v)]) (by decide) rfl (Nat.le_of_ble_eq_true rfl) (g_hls (av := [g_r 45, g_i v]) (k := 0)) (fun _ h9 => List.mem_cons_of_mem _ h9) ?_
  refine ev_aload_n (i := 0) d_Mo_variable_0 rfl rfl rfl ?_
  refine ev_iload_n (i := 1) d_Mo_variable_1 rfl rfl rfl ?_
  refine ev_bipush d_Mo_variable_2 rfl (by decide +kernel) ⟨by decide, by decide⟩ ?_
  refine ev_callS (As := [g_i v, g_i 7]) d_Mo_variable_4 rfl cl_Mo_108 (c_Mo_outside (d + 0) M v 7) (g_hR (by decide)) g_h0 rfl rfl (Nat.le_of_ble_eq_true rfl) rfl rfl ?_
  refine ev_if_eq_f (tgt := 14) d_Mo_variable_7 (by decide) rfl (by rw [if_pos (by omega)]; decide) ?_
  refine ev_iconst d_Mo_variable_10 rfl ⟨by decide, by decide⟩ ?_
  refine ev_goto (tgt := 28) d_Mo_variable_11 (by decide) ?_
  refine ev_putI d_Mo_variable_28 rfl lk_Mo_104 fp_Mo_44 (Or.inl rfl) lx_45 rfl ?_
  refine ev_aload_n (i := 0) d_Mo_variable_31 rfl rfl rfl ?_
  refine ev_getI (z := 1) d_Mo_variable_32 rfl lk_Mo_104 lx_45 rfl (by simp [g_up]) ?_
  refine ev_if_eq_f (tgt := 40) d_Mo_variable_35 (by decide) rfl (by decide) ?_
  refine ev_iconst d_Mo_variable_38 rfl ⟨by decide, by decide⟩ ?_
  exact ev_retI d_Mo_variable_39 (by first | rfl | omega | simp_all) rfl (Or.inl rfl)
theorem c_Mo_variable_x2 (d : Nat) (M : g_M) (v : Int) (hv : 0 ≤ v ∧ v < 8) (hf : M 45 8 = 100) : Con y_Mo_variable w_Mo_variable (g_rm (d + 1)) LX M [g_r 45, g_i v] LX (g_up M 45 44 2) (some (g_i 0)) := by
  refine con_of (av := [g_r 45, g_i v]) (ls0 := [some (g_r 45), some (g_i v)]) (by decide) rfl (Nat.le_of_ble_eq_true rfl) (g_hls (av := [g_r 45, g_i v]) (k := 0)) (fun _ h9 => List.mem_cons_of_mem _ h9) ?_
  refine ev_aload_n (i := 0) d_Mo_variable_0 rfl rfl rfl ?_
  refine ev_iload_n (i := 1) d_Mo_variable_1 rfl rfl rfl ?_
  refine ev_bipush d_Mo_variable_2 rfl (by decide +kernel) ⟨by decide, by decide⟩ ?_
  refine ev_callS (As := [g_i v, g_i 7]) d_Mo_variable_4 rfl cl_Mo_108 (c_Mo_outside (d + 0) M v 7) (g_hR (by decide)) g_h0 rfl rfl (Nat.le_of_ble_eq_true rfl) rfl rfl ?_
  refine ev_if_eq_t (tgt := 14) d_Mo_variable_7 (by decide) (by rw [if_neg (by omega)]) ?_
  refine ev_aload_n (i := 0) d_Mo_variable_14 rfl rfl rfl ?_
  refine ev_getI (z := M 45 8) d_Mo_variable_15 rfl lk_Mo_130 lx_45 rfl (rfl) ?_
  refine ev_bipush d_Mo_variable_18 rfl (by decide +kernel) ⟨by decide, by decide⟩ ?_
  refine ev_icmp_ne_f (tgt := 27) d_Mo_variable_20 (by decide) rfl (hf) ?_
  refine ev_iconst d_Mo_variable_23 rfl ⟨by decide, by decide⟩ ?_
  refine ev_goto (tgt := 28) d_Mo_variable_24 (by decide) ?_
  refine ev_putI d_Mo_variable_28 rfl lk_Mo_104 fp_Mo_44 (Or.inl rfl) lx_45 rfl ?_
  refine ev_aload_n (i := 0) d_Mo_variable_31 rfl rfl rfl ?_
  refine ev_getI (z := 2) d_Mo_variable_32 rfl lk_Mo_104 lx_45 rfl (by simp [g_up]) ?_
  refine ev_if_eq_f (tgt := 40) d_Mo_variable_35 (by decide) rfl (by decide) ?_
  refine ev_iconst d_Mo_variable_38 rfl ⟨by decide, by decide⟩ ?_
  exact ev_retI d_Mo_variable_39 (by first | rfl | omega | simp_all) rfl (Or.inl rfl)
theorem c_Mo_make_x0 (d : Nat) (M : g_M) (h x y z : Int) (hh : ¬ (0 ≤ h ∧ h < M 45 0)) : Con y_Mo_make w_Mo_make (g_rm (d + 1)) LX M [g_r 45, g_i h, g_i x, g_i y, g_i z] LX (g_up M 45 44 1) (some (g_i 0)) := by
  refine con_of (av := [g_r 45, g_i h, g_i x, g_i y, g_i z]) (ls0 := [some (g_r 45), some (g_i h), some (g_i x), some (g_i y), some (g_i z)]) (by decide) rfl (Nat.le_of_ble_eq_true rfl) (g_hls (av := [g_r 45, g_i h, g_i x, g_i y, g_i z]) (k := 0)) (fun _ h9 => List.mem_cons_of_mem _ h9) ?_
  refine ev_aload_n (i := 0) d_Mo_make_0 rfl rfl rfl ?_
  refine ev_iload_n (i := 1) d_Mo_make_1 rfl rfl rfl ?_
  refine ev_if_lt (tgt := 13) d_Mo_make_2 (by decide) rfl (fun h1 => ?_) (fun h1 => ?_)
  · refine ev_iconst d_Mo_make_13 rfl ⟨by decide, by decide⟩ ?_
    refine ev_goto (tgt := 18) d_Mo_make_14 (by decide) ?_
    refine ev_putI d_Mo_make_18 rfl lk_Mo_104 fp_Mo_44 (Or.inl rfl) lx_45 rfl ?_
    refine ev_aload_n (i := 0) d_Mo_make_21 rfl rfl rfl ?_
    refine ev_getI (z := 1) d_Mo_make_22 rfl lk_Mo_104 lx_45 rfl (by simp [g_up]) ?_
    refine ev_if_eq_f (tgt := 32) d_Mo_make_25 (by decide) rfl (by decide) ?_
    refine ev_iconst d_Mo_make_28 rfl ⟨by decide, by decide⟩ ?_
    refine ev_goto (tgt := 50) d_Mo_make_29 (by decide) ?_
    exact ev_retI d_Mo_make_50 (by first | rfl | omega | simp_all) rfl (Or.inl rfl)
  · refine ev_iload_n (i := 1) d_Mo_make_5 rfl rfl rfl ?_
    refine ev_aload_n (i := 0) d_Mo_make_6 rfl rfl rfl ?_
    refine ev_getI (z := M 45 0) d_Mo_make_7 rfl lk_Mo_116 lx_45 rfl (rfl) ?_
    refine ev_icmp_lt_f (tgt := 17) d_Mo_make_10 (by decide) rfl (by omega) ?_
    refine ev_iconst d_Mo_make_13 rfl ⟨by decide, by decide⟩ ?_
    refine ev_goto (tgt := 18) d_Mo_make_14 (by decide) ?_
    refine ev_putI d_Mo_make_18 rfl lk_Mo_104 fp_Mo_44 (Or.inl rfl) lx_45 rfl ?_
    refine ev_aload_n (i := 0) d_Mo_make_21 rfl rfl rfl ?_
    refine ev_getI (z := 1) d_Mo_make_22 rfl lk_Mo_104 lx_45 rfl (by simp [g_up]) ?_
    refine ev_if_eq_f (tgt := 32) d_Mo_make_25 (by decide) rfl (by decide) ?_
    refine ev_iconst d_Mo_make_28 rfl ⟨by decide, by decide⟩ ?_
    refine ev_goto (tgt := 50) d_Mo_make_29 (by decide) ?_
    exact ev_retI d_Mo_make_50 (by first | rfl | omega | simp_all) rfl (Or.inl rfl)
theorem c_Mo_call_x0 (d : Nat) (M : g_M) (h x y z : Int) (hh : ¬ (0 ≤ h ∧ h < M 45 4)) : Con y_Mo_call w_Mo_call (g_rm (d + 1)) LX M [g_r 45, g_i h, g_i x, g_i y, g_i z] LX (g_up M 45 44 1) (some (g_i 0)) := by
  refine con_of (av := [g_r 45, g_i h, g_i x, g_i y, g_i z]) (ls0 := [some (g_r 45), some (g_i h), some (g_i x), some (g_i y), some (g_i z)]) (by decide) rfl (Nat.le_of_ble_eq_true rfl) (g_hls (av := [g_r 45, g_i h, g_i x, g_i y, g_i z]) (k := 0)) (fun _ h9 => List.mem_cons_of_mem _ h9) ?_
  refine ev_aload_n (i := 0) d_Mo_call_0 rfl rfl rfl ?_
  refine ev_iload_n (i := 1) d_Mo_call_1 rfl rfl rfl ?_
  refine ev_if_lt (tgt := 13) d_Mo_call_2 (by decide) rfl (fun h1 => ?_) (fun h1 => ?_)
  · refine ev_iconst d_Mo_call_13 rfl ⟨by decide, by decide⟩ ?_
    refine ev_goto (tgt := 18) d_Mo_call_14 (by decide) ?_
    refine ev_putI d_Mo_call_18 rfl lk_Mo_104 fp_Mo_44 (Or.inl rfl) lx_45 rfl ?_
    refine ev_aload_n (i := 0) d_Mo_call_21 rfl rfl rfl ?_
    refine ev_getI (z := 1) d_Mo_call_22 rfl lk_Mo_104 lx_45 rfl (by simp [g_up]) ?_
    refine ev_if_eq_f (tgt := 32) d_Mo_call_25 (by decide) rfl (by decide) ?_
    refine ev_iconst d_Mo_call_28 rfl ⟨by decide, by decide⟩ ?_
    refine ev_goto (tgt := 50) d_Mo_call_29 (by decide) ?_
    exact ev_retI d_Mo_call_50 (by first | rfl | omega | simp_all) rfl (Or.inl rfl)
  · refine ev_iload_n (i := 1) d_Mo_call_5 rfl rfl rfl ?_
    refine ev_aload_n (i := 0) d_Mo_call_6 rfl rfl rfl ?_
    refine ev_getI (z := M 45 4) d_Mo_call_7 rfl lk_Mo_127 lx_45 rfl (rfl) ?_
    refine ev_icmp_lt_f (tgt := 17) d_Mo_call_10 (by decide) rfl (by omega) ?_
    refine ev_iconst d_Mo_call_13 rfl ⟨by decide, by decide⟩ ?_
    refine ev_goto (tgt := 18) d_Mo_call_14 (by decide) ?_
    refine ev_putI d_Mo_call_18 rfl lk_Mo_104 fp_Mo_44 (Or.inl rfl) lx_45 rfl ?_
    refine ev_aload_n (i := 0) d_Mo_call_21 rfl rfl rfl ?_
    refine ev_getI (z := 1) d_Mo_call_22 rfl lk_Mo_104 lx_45 rfl (by simp [g_up]) ?_
    refine ev_if_eq_f (tgt := 32) d_Mo_call_25 (by decide) rfl (by decide) ?_
    refine ev_iconst d_Mo_call_28 rfl ⟨by decide, by decide⟩ ?_
    refine ev_goto (tgt := 50) d_Mo_call_29 (by decide) ?_
    exact ev_retI d_Mo_call_50 (by first | rfl | omega | simp_all) rfl (Or.inl rfl)
theorem c_Mo_isClause_x0 (d : Nat) (M : g_M) (f p q r b : Int) (hh : ¬ (0 ≤ f ∧ f < M 45 4) ∨ ¬ (0 ≤ b ∧ b < M 45 8)) : Con y_Mo_isClause w_Mo_isClause (g_rm (d + 1)) LX M [g_r 45, g_i f, g_i p, g_i q, g_i r, g_i b] LX M (some (g_i 0)) := by
  refine con_of (av := [g_r 45, g_i f, g_i p, g_i q, g_i r, g_i b]) (ls0 := [some (g_r 45), some (g_i f), some (g_i p), some (g_i q), some (g_i r), some (g_i b), none, none]) (by decide) rfl (Nat.le_of_ble_eq_true rfl) (g_hls (av := [g_r 45, g_i f, g_i p, g_i q, g_i r, g_i b]) (k := 2)) (fun _ h9 => List.mem_cons_of_mem _ h9) ?_
  refine ev_iload_n (i := 1) d_Mo_isClause_0 rfl rfl rfl ?_
  refine ev_if_lt (tgt := 21) d_Mo_isClause_1 (by decide) rfl (fun h1 => ?_) (fun h1 => ?_)
  · refine ev_iconst d_Mo_isClause_21 rfl ⟨by decide, by decide⟩ ?_
    exact ev_retI d_Mo_isClause_22 (by first | rfl | omega | simp_all) rfl (Or.inr ⟨rfl, by omega⟩)
  · refine ev_iload_n (i := 1) d_Mo_isClause_4 rfl rfl rfl ?_
    refine ev_aload_n (i := 0) d_Mo_isClause_5 rfl rfl rfl ?_
    refine ev_getI (z := M 45 4) d_Mo_isClause_6 rfl lk_Mo_127 lx_45 rfl (rfl) ?_
    refine ev_icmp_ge (tgt := 21) d_Mo_isClause_9 (by decide) rfl (fun h2 => ?_) (fun h2 => ?_)
    · refine ev_iconst d_Mo_isClause_21 rfl ⟨by decide, by decide⟩ ?_
      exact ev_retI d_Mo_isClause_22 (by first | rfl | omega | simp_all) rfl (Or.inr ⟨rfl, by omega⟩)
    · refine ev_aload_n (i := 0) d_Mo_isClause_12 rfl rfl rfl ?_
      refine ev_iload (i := 5) d_Mo_isClause_13 rfl rfl ?_
      refine ev_callV (As := [g_i b]) d_Mo_isClause_15 rfl cl_Mo_133 (c_Mo_isTerm (d + 0) M b) (g_hR (by decide)) g_h0 lx_45 rfl rfl (Nat.le_of_ble_eq_true rfl) rfl rfl ?_
      refine ev_if_ne_f (tgt := 23) d_Mo_isClause_18 (by decide) rfl (by rw [if_neg (by omega)]) ?_
      refine ev_iconst d_Mo_isClause_21 rfl ⟨by decide, by decide⟩ ?_
      exact ev_retI d_Mo_isClause_22 (by first | rfl | omega | simp_all) rfl (Or.inr ⟨rfl, by omega⟩)
theorem c_Mo_clause_x0 (d : Nat) (M : g_M) (m : Nat) (f p q r b : Int) (hh : ¬ (0 ≤ f ∧ f < M 45 4) ∨ ¬ (0 ≤ b ∧ b < M 45 8)) (hm : M 45 13 = m) (hl : m ≤ 24) : Con y_Mo_clause w_Mo_clause (g_rm (d + 2)) LX M [g_r 45, g_i f, g_i p, g_i q, g_i r, g_i b] LX (g_up M 45 44 1) (some (g_i 0)) := by
  refine con_of (av := [g_r 45, g_i f, g_i p, g_i q, g_i r, g_i b]) (ls0 := [some (g_r 45), some (g_i f), some (g_i p), some (g_i q), some (g_i r), some (g_i b), none, none, none]) (by decide) rfl (Nat.le_of_ble_eq_true rfl) (g_hls (av := [g_r 45, g_i f, g_i p, g_i q, g_i r, g_i b]) (k := 3)) (fun _ h9 => List.mem_cons_of_mem _ h9) ?_
  refine ev_aload_n (i := 0) d_Mo_clause_0 rfl rfl rfl ?_
  refine ev_iload_n (i := 1) d_Mo_clause_1 rfl rfl rfl ?_
  refine ev_iload_n (i := 2) d_Mo_clause_2 rfl rfl rfl ?_
  refine ev_iload_n (i := 3) d_Mo_clause_3 rfl rfl rfl ?_
  refine ev_iload (i := 4) d_Mo_clause_4 rfl rfl ?_
  refine ev_iload (i := 5) d_Mo_clause_6 rfl rfl ?_
  refine ev_callV (As := [g_i f, g_i p, g_i q, g_i r, g_i b]) d_Mo_clause_8 rfl cl_Mo_162 (c_Mo_isClause_x0 (d + 0) M f p q r b hh) (g_hR (by decide)) g_h0 lx_45 rfl rfl (Nat.le_of_ble_eq_true rfl) rfl rfl ?_
  refine ev_istore (i := 6) d_Mo_clause_11 rfl (by decide) rfl ?_
  refine ev_iconst d_Mo_clause_13 rfl ⟨by decide, by decide⟩ ?_
  refine ev_istore (i := 7) d_Mo_clause_14 rfl (by decide) rfl ?_
  refine ev_iconst d_Mo_clause_16 rfl ⟨by decide, by decide⟩ ?_
  refine ev_istore (i := 8) d_Mo_clause_17 rfl (by decide) rfl ?_
  refine ev_lp (fun i : Nat => [some (g_r 45), some (g_i f), some (g_i p), some (g_i q), some (g_i r), some (g_i b), some (g_i 0), some (g_i (s_cn M f i)), some (g_i (i : Int))]) (fun i : Nat => M) m ?_ ?_ (rfl) (rfl)
  · intro i hi K19
    have h9 := s_cn_le M f i
    refine ev_iload (i := 8) d_Mo_clause_19 rfl rfl ?_
    refine ev_aload_n (i := 0) d_Mo_clause_21 rfl rfl rfl ?_
    refine ev_getI (z := M 45 13) d_Mo_clause_22 rfl lk_Mo_166 lx_45 rfl (rfl) ?_
    refine ev_icmp_ge_f (tgt := 56) d_Mo_clause_25 (by decide) rfl (by omega) ?_
    refine ev_aload_n (i := 0) d_Mo_clause_28 rfl rfl rfl ?_
    refine ev_getR d_Mo_clause_29 rfl lk_Mo_40 lx_45 rfl ?_
    refine ev_iload (i := 8) d_Mo_clause_32 rfl rfl ?_
    refine ev_iaload (z := M 56 i) d_Mo_clause_34 rfl lx_56 (by omega) (by omega) (rfl) ?_
    refine ev_iload_n (i := 1) d_Mo_clause_35 rfl rfl rfl ?_
    refine ev_icmp_ne (tgt := 46) d_Mo_clause_36 (by decide) rfl (fun h1 => ?_) (fun h1 => ?_)
    · refine ev_iload (i := 7) d_Mo_clause_46 rfl rfl ?_
      refine ev_istore (i := 7) d_Mo_clause_48 rfl (by decide) rfl ?_
      refine ev_iinc (z := (i : Int) + 1) d_Mo_clause_50 rfl rfl (by decide) (g_w_id (by unfold g_rg; omega)) rfl ?_
      refine ev_goto (tgt := 19) d_Mo_clause_53 (by decide) ?_
      exact ev_eq (by simp only [s_cn]; first | rw [if_pos (by assumption)]; rfl | rw [if_neg (by assumption)]; rfl) (rfl) K19
    · refine ev_iload (i := 7) d_Mo_clause_39 rfl rfl ?_
      refine ev_iconst d_Mo_clause_41 rfl ⟨by decide, by decide⟩ ?_
      refine ev_iadd (z := (s_cn M f i) + 1) d_Mo_clause_42 rfl (g_w_id (by unfold g_rg; omega)) ?_
      refine ev_goto (tgt := 48) d_Mo_clause_43 (by decide) ?_
      refine ev_istore (i := 7) d_Mo_clause_48 rfl (by decide) rfl ?_
      refine ev_iinc (z := (i : Int) + 1) d_Mo_clause_50 rfl rfl (by decide) (g_w_id (by unfold g_rg; omega)) rfl ?_
      refine ev_goto (tgt := 19) d_Mo_clause_53 (by decide) ?_
      exact ev_eq (by simp only [s_cn]; first | rw [if_pos (by assumption)]; rfl | rw [if_neg (by assumption)]; rfl) (rfl) K19
  · have h9 := s_cn_le M f m
    refine ev_iload (i := 8) d_Mo_clause_19 rfl rfl ?_
    refine ev_aload_n (i := 0) d_Mo_clause_21 rfl rfl rfl ?_
    refine ev_getI (z := M 45 13) d_Mo_clause_22 rfl lk_Mo_166 lx_45 rfl (rfl) ?_
    refine ev_icmp_ge_t (tgt := 56) d_Mo_clause_25 (by decide) (by omega) ?_
    refine ev_aload_n (i := 0) d_Mo_clause_56 rfl rfl rfl ?_
    refine ev_iload (i := 6) d_Mo_clause_57 rfl rfl ?_
    refine ev_if_ne_f (tgt := 66) d_Mo_clause_59 (by decide) rfl (rfl) ?_
    refine ev_iconst d_Mo_clause_62 rfl ⟨by decide, by decide⟩ ?_
    refine ev_goto (tgt := 87) d_Mo_clause_63 (by decide) ?_
    refine ev_putI d_Mo_clause_87 rfl lk_Mo_104 fp_Mo_44 (Or.inl rfl) lx_45 rfl ?_
    refine ev_aload_n (i := 0) d_Mo_clause_90 rfl rfl rfl ?_
    refine ev_getI (z := 1) d_Mo_clause_91 rfl lk_Mo_104 lx_45 rfl (by simp [g_up]) ?_
    refine ev_if_eq_f (tgt := 99) d_Mo_clause_94 (by decide) rfl (by decide) ?_
    refine ev_iconst d_Mo_clause_97 rfl ⟨by decide, by decide⟩ ?_
    exact ev_retI d_Mo_clause_98 (by first | rfl | omega | simp_all) rfl (Or.inl rfl)
theorem c_Mo_graphs (d : Nat) (M : g_M)   : Con y_Mo_graphs w_Mo_graphs (g_rm (d)) LX M [g_r 45] LX (g_up M 45 44 0) (some (g_i (M 45 18))) := by
  refine con_of (av := [g_r 45]) (ls0 := [some (g_r 45)]) (by decide) rfl (Nat.le_of_ble_eq_true rfl) (g_hls (av := [g_r 45]) (k := 0)) (fun _ h9 => List.mem_cons_of_mem _ h9) ?_
  refine ev_aload_n (i := 0) d_Mo_graphs_0 rfl rfl rfl ?_
  refine ev_iconst d_Mo_graphs_1 rfl ⟨by decide, by decide⟩ ?_
  refine ev_putI d_Mo_graphs_2 rfl lk_Mo_104 fp_Mo_44 (Or.inl rfl) lx_45 rfl ?_
  refine ev_aload_n (i := 0) d_Mo_graphs_5 rfl rfl rfl ?_
  refine ev_getI (z := M 45 18) d_Mo_graphs_6 rfl lk_Mo_192 lx_45 rfl (by simp [g_up]) ?_
  exact ev_retI d_Mo_graphs_9 (by first | rfl | omega | simp_all) rfl (Or.inl rfl)
theorem c_Mo_arc_x0 (d : Nat) (M : g_M) (c k i j : Int) (hh : ¬ (0 ≤ c ∧ c < M 45 13) ∨ k < 0) : Con y_Mo_arc w_Mo_arc (g_rm (d + 1)) LX M [g_r 45, g_i c, g_i k, g_i i, g_i j] LX (g_up M 45 44 1) (some (g_i 0)) := by
  refine con_of (av := [g_r 45, g_i c, g_i k, g_i i, g_i j]) (ls0 := [some (g_r 45), some (g_i c), some (g_i k), some (g_i i), some (g_i j), none, none, none]) (by decide) rfl (Nat.le_of_ble_eq_true rfl) (g_hls (av := [g_r 45, g_i c, g_i k, g_i i, g_i j]) (k := 3)) (fun _ h9 => List.mem_cons_of_mem _ h9) ?_
  refine ev_iload_n (i := 1) d_Mo_arc_0 rfl rfl rfl ?_
  refine ev_if_lt (tgt := 20) d_Mo_arc_1 (by decide) rfl (fun h1 => ?_) (fun h1 => ?_)
  · refine ev_iconst d_Mo_arc_20 rfl ⟨by decide, by decide⟩ ?_
    refine ev_istore (i := 5) d_Mo_arc_21 rfl (by decide) rfl ?_
    refine ev_iload (i := 5) d_Mo_arc_23 rfl rfl ?_
    refine ev_if_eq_t (tgt := 37) d_Mo_arc_25 (by decide) (by decide) ?_
    refine ev_iconst d_Mo_arc_37 rfl ⟨by decide, by decide⟩ ?_
    refine ev_istore (i := 6) d_Mo_arc_38 rfl (by decide) rfl ?_
    refine ev_iload (i := 6) d_Mo_arc_40 rfl rfl ?_
    refine ev_if_lt_t (tgt := 111) d_Mo_arc_42 (by decide) (by decide) ?_
    refine ev_iconst d_Mo_arc_111 rfl ⟨by decide, by decide⟩ ?_
    refine ev_istore (i := 7) d_Mo_arc_112 rfl (by decide) rfl ?_
    refine ev_aload_n (i := 0) d_Mo_arc_114 rfl rfl rfl ?_
    refine ev_iload (i := 7) d_Mo_arc_115 rfl rfl ?_
    refine ev_if_eq_t (tgt := 124) d_Mo_arc_117 (by decide) (by decide) ?_
    refine ev_iconst d_Mo_arc_124 rfl ⟨by decide, by decide⟩ ?_
    refine ev_putI d_Mo_arc_125 rfl lk_Mo_104 fp_Mo_44 (Or.inl rfl) lx_45 rfl ?_
    refine ev_iload (i := 7) d_Mo_arc_128 rfl rfl ?_
    refine ev_if_eq_t (tgt := 146) d_Mo_arc_130 (by decide) (by decide) ?_
    refine ev_iconst d_Mo_arc_146 rfl ⟨by decide, by decide⟩ ?_
    exact ev_retI d_Mo_arc_147 (by first | rfl | omega | simp_all) rfl (Or.inl rfl)
  · refine ev_iload_n (i := 1) d_Mo_arc_4 rfl rfl rfl ?_
    refine ev_aload_n (i := 0) d_Mo_arc_5 rfl rfl rfl ?_
    refine ev_getI (z := M 45 13) d_Mo_arc_6 rfl lk_Mo_166 lx_45 rfl (rfl) ?_
    refine ev_icmp_ge (tgt := 20) d_Mo_arc_9 (by decide) rfl (fun h2 => ?_) (fun h2 => ?_)
    · refine ev_iconst d_Mo_arc_20 rfl ⟨by decide, by decide⟩ ?_
      refine ev_istore (i := 5) d_Mo_arc_21 rfl (by decide) rfl ?_
      refine ev_iload (i := 5) d_Mo_arc_23 rfl rfl ?_
      refine ev_if_eq_t (tgt := 37) d_Mo_arc_25 (by decide) (by decide) ?_
      refine ev_iconst d_Mo_arc_37 rfl ⟨by decide, by decide⟩ ?_
      refine ev_istore (i := 6) d_Mo_arc_38 rfl (by decide) rfl ?_
      refine ev_iload (i := 6) d_Mo_arc_40 rfl rfl ?_
      refine ev_if_lt_t (tgt := 111) d_Mo_arc_42 (by decide) (by decide) ?_
      refine ev_iconst d_Mo_arc_111 rfl ⟨by decide, by decide⟩ ?_
      refine ev_istore (i := 7) d_Mo_arc_112 rfl (by decide) rfl ?_
      refine ev_aload_n (i := 0) d_Mo_arc_114 rfl rfl rfl ?_
      refine ev_iload (i := 7) d_Mo_arc_115 rfl rfl ?_
      refine ev_if_eq_t (tgt := 124) d_Mo_arc_117 (by decide) (by decide) ?_
      refine ev_iconst d_Mo_arc_124 rfl ⟨by decide, by decide⟩ ?_
      refine ev_putI d_Mo_arc_125 rfl lk_Mo_104 fp_Mo_44 (Or.inl rfl) lx_45 rfl ?_
      refine ev_iload (i := 7) d_Mo_arc_128 rfl rfl ?_
      refine ev_if_eq_t (tgt := 146) d_Mo_arc_130 (by decide) (by decide) ?_
      refine ev_iconst d_Mo_arc_146 rfl ⟨by decide, by decide⟩ ?_
      exact ev_retI d_Mo_arc_147 (by first | rfl | omega | simp_all) rfl (Or.inl rfl)
    · refine ev_iload_n (i := 2) d_Mo_arc_12 rfl rfl rfl ?_
      refine ev_if_lt_t (tgt := 20) d_Mo_arc_13 (by decide) (by omega) ?_
      refine ev_iconst d_Mo_arc_20 rfl ⟨by decide, by decide⟩ ?_
      refine ev_istore (i := 5) d_Mo_arc_21 rfl (by decide) rfl ?_
      refine ev_iload (i := 5) d_Mo_arc_23 rfl rfl ?_
      refine ev_if_eq_t (tgt := 37) d_Mo_arc_25 (by decide) (by decide) ?_
      refine ev_iconst d_Mo_arc_37 rfl ⟨by decide, by decide⟩ ?_
      refine ev_istore (i := 6) d_Mo_arc_38 rfl (by decide) rfl ?_
      refine ev_iload (i := 6) d_Mo_arc_40 rfl rfl ?_
      refine ev_if_lt_t (tgt := 111) d_Mo_arc_42 (by decide) (by decide) ?_
      refine ev_iconst d_Mo_arc_111 rfl ⟨by decide, by decide⟩ ?_
      refine ev_istore (i := 7) d_Mo_arc_112 rfl (by decide) rfl ?_
      refine ev_aload_n (i := 0) d_Mo_arc_114 rfl rfl rfl ?_
      refine ev_iload (i := 7) d_Mo_arc_115 rfl rfl ?_
      refine ev_if_eq_t (tgt := 124) d_Mo_arc_117 (by decide) (by decide) ?_
      refine ev_iconst d_Mo_arc_124 rfl ⟨by decide, by decide⟩ ?_
      refine ev_putI d_Mo_arc_125 rfl lk_Mo_104 fp_Mo_44 (Or.inl rfl) lx_45 rfl ?_
      refine ev_iload (i := 7) d_Mo_arc_128 rfl rfl ?_
      refine ev_if_eq_t (tgt := 146) d_Mo_arc_130 (by decide) (by decide) ?_
      refine ev_iconst d_Mo_arc_146 rfl ⟨by decide, by decide⟩ ?_
      exact ev_retI d_Mo_arc_147 (by first | rfl | omega | simp_all) rfl (Or.inl rfl)
theorem c_Mo_isValue_0 (d : Nat) (M : g_M) (t y : Int) (hh : ¬ (0 ≤ y ∧ y < 3) ∨ ¬ (0 ≤ t ∧ t < M 45 8)) : Con y_Mo_isValue w_Mo_isValue (g_rm (d + 1)) LX M [g_r 45, g_i t, g_i y] LX (g_up M 45 44 0) (some (g_i 0)) := by
  refine con_of (av := [g_r 45, g_i t, g_i y]) (ls0 := [some (g_r 45), some (g_i t), some (g_i y)]) (by decide) rfl (Nat.le_of_ble_eq_true rfl) (g_hls (av := [g_r 45, g_i t, g_i y]) (k := 0)) (fun _ h9 => List.mem_cons_of_mem _ h9) ?_
  refine ev_aload_n (i := 0) d_Mo_isValue_0 rfl rfl rfl ?_
  refine ev_iconst d_Mo_isValue_1 rfl ⟨by decide, by decide⟩ ?_
  refine ev_putI d_Mo_isValue_2 rfl lk_Mo_104 fp_Mo_44 (Or.inl rfl) lx_45 rfl ?_
  refine ev_aload_n (i := 0) d_Mo_isValue_5 rfl rfl rfl ?_
  refine ev_iload_n (i := 1) d_Mo_isValue_6 rfl rfl rfl ?_
  refine ev_callV (As := [g_i t]) d_Mo_isValue_7 rfl cl_Mo_133 (c_Mo_isTerm (d + 0) (g_up M 45 44 0) t) (g_hR (by decide)) g_h0 lx_45 rfl rfl (Nat.le_of_ble_eq_true rfl) rfl rfl ?_
  refine ev_beq (tgt := 43) d_Mo_isValue_10 (by decide) rfl (fun h1 => ?_) (fun h1 => ?_)
  · refine ev_iconst d_Mo_isValue_43 rfl ⟨by decide, by decide⟩ ?_
    exact ev_retI d_Mo_isValue_44 (by first | rfl | omega | simp_all) rfl (Or.inr ⟨rfl, by omega⟩)
  · refine ev_iload_n (i := 2) d_Mo_isValue_13 rfl rfl rfl ?_
    refine ev_iconst d_Mo_isValue_14 rfl ⟨by decide, by decide⟩ ?_
    refine ev_callS (As := [g_i y, g_i 2]) d_Mo_isValue_15 rfl cl_Mo_108 (c_Mo_outside (d + 0) (g_up M 45 44 0) y 2) (g_hR (by decide)) g_h0 rfl rfl (Nat.le_of_ble_eq_true rfl) rfl rfl ?_
    have e9 : g_up M 45 44 0 45 8 = M 45 8 := by simp [g_up]
    refine ev_if_ne_t (tgt := 43) d_Mo_isValue_18 (by decide) (by rw [if_pos (by omega)]; decide) ?_
    refine ev_iconst d_Mo_isValue_43 rfl ⟨by decide, by decide⟩ ?_
    exact ev_retI d_Mo_isValue_44 (by first | rfl | omega | simp_all) rfl (Or.inr ⟨rfl, by omega⟩)
theorem c_Mo_run_x0 (d : Nat) (M : g_M) (f x y z : Int) (hg : M 45 17 = 0) : Con y_Mo_run w_Mo_run (g_rm (d + 1)) LX M [g_r 45, g_i f, g_i x, g_i y, g_i z] LX (g_up (g_up (g_up (g_up M 75 0 x) 75 1 y) 75 2 z) 45 44 1) (some (g_i 0)) := by
  refine con_of (av := [g_r 45, g_i f, g_i x, g_i y, g_i z]) (ls0 := [some (g_r 45), some (g_i f), some (g_i x), some (g_i y), some (g_i z), none, none]) (by decide) rfl (Nat.le_of_ble_eq_true rfl) (g_hls (av := [g_r 45, g_i f, g_i x, g_i y, g_i z]) (k := 2)) (fun _ h9 => List.mem_cons_of_mem _ h9) ?_
  refine ev_aload_n (i := 0) d_Mo_run_0 rfl rfl rfl ?_
  refine ev_getI (z := 0) d_Mo_run_1 rfl lk_Mo_123 lx_45 rfl (hg) ?_
  refine ev_if_eq_t (tgt := 23) d_Mo_run_4 (by decide) (rfl) ?_
  refine ev_iconst d_Mo_run_23 rfl ⟨by decide, by decide⟩ ?_
  refine ev_istore (i := 5) d_Mo_run_24 rfl (by decide) rfl ?_
  refine ev_aload_n (i := 0) d_Mo_run_26 rfl rfl rfl ?_
  refine ev_getR d_Mo_run_27 rfl lk_Mo_98 lx_45 rfl ?_
  refine ev_iconst d_Mo_run_30 rfl ⟨by decide, by decide⟩ ?_
  refine ev_iload_n (i := 2) d_Mo_run_31 rfl rfl rfl ?_
  refine ev_iastore d_Mo_run_32 rfl lx_75 (by omega) (by omega) ?_
  rw [show Int.toNat (0) = 0 by rfl]
  refine ev_aload_n (i := 0) d_Mo_run_33 rfl rfl rfl ?_
  refine ev_getR d_Mo_run_34 rfl lk_Mo_98 lx_45 rfl ?_
  refine ev_iconst d_Mo_run_37 rfl ⟨by decide, by decide⟩ ?_
  refine ev_iload_n (i := 3) d_Mo_run_38 rfl rfl rfl ?_
  refine ev_iastore d_Mo_run_39 rfl lx_75 (by omega) (by omega) ?_
  rw [show Int.toNat (1) = 1 by rfl]
  refine ev_aload_n (i := 0) d_Mo_run_40 rfl rfl rfl ?_
  refine ev_getR d_Mo_run_41 rfl lk_Mo_98 lx_45 rfl ?_
  refine ev_iconst d_Mo_run_44 rfl ⟨by decide, by decide⟩ ?_
  refine ev_iload (i := 4) d_Mo_run_45 rfl rfl ?_
  refine ev_iastore d_Mo_run_47 rfl lx_75 (by omega) (by omega) ?_
  rw [show Int.toNat (2) = 2 by rfl]
  refine ev_iconst d_Mo_run_48 rfl ⟨by decide, by decide⟩ ?_
  refine ev_istore (i := 6) d_Mo_run_49 rfl (by decide) rfl ?_
  refine ev_iload (i := 5) d_Mo_run_51 rfl rfl ?_
  refine ev_if_eq_t (tgt := 97) d_Mo_run_53 (by decide) (rfl) ?_
  refine ev_aload_n (i := 0) d_Mo_run_97 rfl rfl rfl ?_
  refine ev_aload_n (i := 0) d_Mo_run_98 rfl rfl rfl ?_
  refine ev_getI (z := 0) d_Mo_run_99 rfl lk_Mo_123 lx_45 rfl (by simp [g_up, hg]) ?_
  refine ev_if_ne_f (tgt := 109) d_Mo_run_102 (by decide) rfl (rfl) ?_
  refine ev_iconst d_Mo_run_105 rfl ⟨by decide, by decide⟩ ?_
  refine ev_goto (tgt := 119) d_Mo_run_106 (by decide) ?_
  refine ev_putI d_Mo_run_119 rfl lk_Mo_104 fp_Mo_44 (Or.inl rfl) lx_45 rfl ?_
  refine ev_aload_n (i := 0) d_Mo_run_122 rfl rfl rfl ?_
  refine ev_getI (z := 1) d_Mo_run_123 rfl lk_Mo_104 lx_45 rfl (by simp [g_up]) ?_
  refine ev_if_eq_f (tgt := 131) d_Mo_run_126 (by decide) rfl (by decide) ?_
  refine ev_iconst d_Mo_run_129 rfl ⟨by decide, by decide⟩ ?_
  exact ev_retI d_Mo_run_130 (by first | rfl | omega | simp_all) rfl (Or.inl rfl)
theorem c_Mo_answer (d : Nat) (M : g_M) (i : Nat) (hi : i < 60) (hs : (i : Int) < M 45 42) : Con y_Mo_answer w_Mo_answer (g_rm (d)) LX M [g_r 45, g_i (i : Int)] LX (g_up M 45 44 0) (some (g_i (M 76 i))) := by
  refine con_of (av := [g_r 45, g_i (i : Int)]) (ls0 := [some (g_r 45), some (g_i (i : Int))]) (by decide) rfl (Nat.le_of_ble_eq_true rfl) (g_hls (av := [g_r 45, g_i (i : Int)]) (k := 0)) (fun _ h9 => List.mem_cons_of_mem _ h9) ?_
  refine ev_aload_n (i := 0) d_Mo_answer_0 rfl rfl rfl ?_
  refine ev_iload_n (i := 1) d_Mo_answer_1 rfl rfl rfl ?_
  refine ev_if_lt_f (tgt := 13) d_Mo_answer_2 (by decide) rfl (by omega) ?_
  refine ev_iload_n (i := 1) d_Mo_answer_5 rfl rfl rfl ?_
  refine ev_aload_n (i := 0) d_Mo_answer_6 rfl rfl rfl ?_
  refine ev_getI (z := M 45 42) d_Mo_answer_7 rfl lk_Mo_262 lx_45 rfl (rfl) ?_
  refine ev_icmp_lt_t (tgt := 17) d_Mo_answer_10 (by decide) (hs) ?_
  refine ev_iconst d_Mo_answer_17 rfl ⟨by decide, by decide⟩ ?_
  refine ev_putI d_Mo_answer_18 rfl lk_Mo_104 fp_Mo_44 (Or.inl rfl) lx_45 rfl ?_
  refine ev_aload_n (i := 0) d_Mo_answer_21 rfl rfl rfl ?_
  refine ev_getI (z := 0) d_Mo_answer_22 rfl lk_Mo_104 lx_45 rfl (by simp [g_up]) ?_
  refine ev_if_ne_f (tgt := 37) d_Mo_answer_25 (by decide) rfl (rfl) ?_
  refine ev_aload_n (i := 0) d_Mo_answer_28 rfl rfl rfl ?_
  refine ev_getR d_Mo_answer_29 rfl lk_Mo_101 lx_45 rfl ?_
  refine ev_iload_n (i := 1) d_Mo_answer_32 rfl rfl rfl ?_
  refine ev_iaload (z := M 76 i) d_Mo_answer_33 rfl lx_76 (by omega) (by omega) (by simp [g_up]) ?_
  refine ev_goto (tgt := 38) d_Mo_answer_34 (by decide) ?_
  exact ev_retI d_Mo_answer_38 (by first | rfl | omega | simp_all) rfl (Or.inl rfl)
theorem c_Mo_answer_x (d : Nat) (M : g_M) (i : Int) (hs : i < 0 ∨ M 45 42 ≤ i) : Con y_Mo_answer w_Mo_answer (g_rm (d)) LX M [g_r 45, g_i i] LX (g_up M 45 44 1) (some (g_i 0)) := by
  refine con_of (av := [g_r 45, g_i i]) (ls0 := [some (g_r 45), some (g_i i)]) (by decide) rfl (Nat.le_of_ble_eq_true rfl) (g_hls (av := [g_r 45, g_i i]) (k := 0)) (fun _ h9 => List.mem_cons_of_mem _ h9) ?_
  refine ev_aload_n (i := 0) d_Mo_answer_0 rfl rfl rfl ?_
  refine ev_iload_n (i := 1) d_Mo_answer_1 rfl rfl rfl ?_
  refine ev_if_lt (tgt := 13) d_Mo_answer_2 (by decide) rfl (fun h1 => ?_) (fun h1 => ?_)
  · refine ev_iconst d_Mo_answer_13 rfl ⟨by decide, by decide⟩ ?_
    refine ev_goto (tgt := 18) d_Mo_answer_14 (by decide) ?_
    refine ev_putI d_Mo_answer_18 rfl lk_Mo_104 fp_Mo_44 (Or.inl rfl) lx_45 rfl ?_
    refine ev_aload_n (i := 0) d_Mo_answer_21 rfl rfl rfl ?_
    refine ev_getI (z := 1) d_Mo_answer_22 rfl lk_Mo_104 lx_45 rfl (by simp [g_up]) ?_
    refine ev_if_ne_t (tgt := 37) d_Mo_answer_25 (by decide) (by decide) ?_
    refine ev_iconst d_Mo_answer_37 rfl ⟨by decide, by decide⟩ ?_
    exact ev_retI d_Mo_answer_38 (by first | rfl | omega | simp_all) rfl (Or.inl rfl)
  · refine ev_iload_n (i := 1) d_Mo_answer_5 rfl rfl rfl ?_
    refine ev_aload_n (i := 0) d_Mo_answer_6 rfl rfl rfl ?_
    refine ev_getI (z := M 45 42) d_Mo_answer_7 rfl lk_Mo_262 lx_45 rfl (rfl) ?_
    refine ev_icmp_lt_f (tgt := 17) d_Mo_answer_10 (by decide) rfl (by omega) ?_
    refine ev_iconst d_Mo_answer_13 rfl ⟨by decide, by decide⟩ ?_
    refine ev_goto (tgt := 18) d_Mo_answer_14 (by decide) ?_
    refine ev_putI d_Mo_answer_18 rfl lk_Mo_104 fp_Mo_44 (Or.inl rfl) lx_45 rfl ?_
    refine ev_aload_n (i := 0) d_Mo_answer_21 rfl rfl rfl ?_
    refine ev_getI (z := 1) d_Mo_answer_22 rfl lk_Mo_104 lx_45 rfl (by simp [g_up]) ?_
    refine ev_if_ne_t (tgt := 37) d_Mo_answer_25 (by decide) (by decide) ?_
    refine ev_iconst d_Mo_answer_37 rfl ⟨by decide, by decide⟩ ?_
    exact ev_retI d_Mo_answer_38 (by first | rfl | omega | simp_all) rfl (Or.inl rfl)
theorem c_Mo_count_0 (d : Nat) (M : g_M)   : Con y_Mo_count w_Mo_count (g_rm (d)) LX M [g_r 45, g_i 0] LX (g_up M 45 44 0) (some (g_i (M 45 34))) := by
  refine con_of (av := [g_r 45, g_i 0]) (ls0 := [some (g_r 45), some (g_i 0)]) (by decide) rfl (Nat.le_of_ble_eq_true rfl) (g_hls (av := [g_r 45, g_i 0]) (k := 0)) (fun _ h9 => List.mem_cons_of_mem _ h9) ?_
  refine ev_aload_n (i := 0) d_Mo_count_0 rfl rfl rfl ?_
  refine ev_iconst d_Mo_count_1 rfl ⟨by decide, by decide⟩ ?_
  refine ev_putI d_Mo_count_2 rfl lk_Mo_104 fp_Mo_44 (Or.inl rfl) lx_45 rfl ?_
  refine ev_iload_n (i := 1) d_Mo_count_5 rfl rfl rfl ?_
  refine ev_tsIn (tgt := 44) d_Mo_count_6 (by omega) (by omega) (rfl) (by decide) ?_
  refine ev_aload_n (i := 0) d_Mo_count_44 rfl rfl rfl ?_
  refine ev_getI (z := M 45 34) d_Mo_count_45 rfl lk_Mo_243 lx_45 rfl (by simp [g_up]) ?_
  exact ev_retI d_Mo_count_48 (by first | rfl | omega | simp_all) rfl (Or.inl rfl)
theorem c_Mo_count_1 (d : Nat) (M : g_M)   : Con y_Mo_count w_Mo_count (g_rm (d)) LX M [g_r 45, g_i 1] LX (g_up M 45 44 0) (some (g_i (M 45 0))) := by
  refine con_of (av := [g_r 45, g_i 1]) (ls0 := [some (g_r 45), some (g_i 1)]) (by decide) rfl (Nat.le_of_ble_eq_true rfl) (g_hls (av := [g_r 45, g_i 1]) (k := 0)) (fun _ h9 => List.mem_cons_of_mem _ h9) ?_
  refine ev_aload_n (i := 0) d_Mo_count_0 rfl rfl rfl ?_
  refine ev_iconst d_Mo_count_1 rfl ⟨by decide, by decide⟩ ?_
  refine ev_putI d_Mo_count_2 rfl lk_Mo_104 fp_Mo_44 (Or.inl rfl) lx_45 rfl ?_
  refine ev_iload_n (i := 1) d_Mo_count_5 rfl rfl rfl ?_
  refine ev_tsIn (tgt := 49) d_Mo_count_6 (by omega) (by omega) (rfl) (by decide) ?_
  refine ev_aload_n (i := 0) d_Mo_count_49 rfl rfl rfl ?_
  refine ev_getI (z := M 45 0) d_Mo_count_50 rfl lk_Mo_116 lx_45 rfl (by simp [g_up]) ?_
  exact ev_retI d_Mo_count_53 (by first | rfl | omega | simp_all) rfl (Or.inl rfl)
theorem c_Mo_count_2 (d : Nat) (M : g_M)   : Con y_Mo_count w_Mo_count (g_rm (d)) LX M [g_r 45, g_i 2] LX (g_up M 45 44 0) (some (g_i (M 45 4))) := by
  refine con_of (av := [g_r 45, g_i 2]) (ls0 := [some (g_r 45), some (g_i 2)]) (by decide) rfl (Nat.le_of_ble_eq_true rfl) (g_hls (av := [g_r 45, g_i 2]) (k := 0)) (fun _ h9 => List.mem_cons_of_mem _ h9) ?_
  refine ev_aload_n (i := 0) d_Mo_count_0 rfl rfl rfl ?_
  refine ev_iconst d_Mo_count_1 rfl ⟨by decide, by decide⟩ ?_
  refine ev_putI d_Mo_count_2 rfl lk_Mo_104 fp_Mo_44 (Or.inl rfl) lx_45 rfl ?_
  refine ev_iload_n (i := 1) d_Mo_count_5 rfl rfl rfl ?_
  refine ev_tsIn (tgt := 54) d_Mo_count_6 (by omega) (by omega) (rfl) (by decide) ?_
  refine ev_aload_n (i := 0) d_Mo_count_54 rfl rfl rfl ?_
  refine ev_getI (z := M 45 4) d_Mo_count_55 rfl lk_Mo_127 lx_45 rfl (by simp [g_up]) ?_
  exact ev_retI d_Mo_count_58 (by first | rfl | omega | simp_all) rfl (Or.inl rfl)
theorem c_Mo_count_3 (d : Nat) (M : g_M)   : Con y_Mo_count w_Mo_count (g_rm (d)) LX M [g_r 45, g_i 3] LX (g_up M 45 44 0) (some (g_i (M 45 8))) := by
  refine con_of (av := [g_r 45, g_i 3]) (ls0 := [some (g_r 45), some (g_i 3)]) (by decide) rfl (Nat.le_of_ble_eq_true rfl) (g_hls (av := [g_r 45, g_i 3]) (k := 0)) (fun _ h9 => List.mem_cons_of_mem _ h9) ?_
  refine ev_aload_n (i := 0) d_Mo_count_0 rfl rfl rfl ?_
  refine ev_iconst d_Mo_count_1 rfl ⟨by decide, by decide⟩ ?_
  refine ev_putI d_Mo_count_2 rfl lk_Mo_104 fp_Mo_44 (Or.inl rfl) lx_45 rfl ?_
  refine ev_iload_n (i := 1) d_Mo_count_5 rfl rfl rfl ?_
  refine ev_tsIn (tgt := 59) d_Mo_count_6 (by omega) (by omega) (rfl) (by decide) ?_
  refine ev_aload_n (i := 0) d_Mo_count_59 rfl rfl rfl ?_
  refine ev_getI (z := M 45 8) d_Mo_count_60 rfl lk_Mo_130 lx_45 rfl (by simp [g_up]) ?_
  exact ev_retI d_Mo_count_63 (by first | rfl | omega | simp_all) rfl (Or.inl rfl)
theorem c_Mo_count_4 (d : Nat) (M : g_M)   : Con y_Mo_count w_Mo_count (g_rm (d)) LX M [g_r 45, g_i 4] LX (g_up M 45 44 0) (some (g_i (M 45 13))) := by
  refine con_of (av := [g_r 45, g_i 4]) (ls0 := [some (g_r 45), some (g_i 4)]) (by decide) rfl (Nat.le_of_ble_eq_true rfl) (g_hls (av := [g_r 45, g_i 4]) (k := 0)) (fun _ h9 => List.mem_cons_of_mem _ h9) ?_
  refine ev_aload_n (i := 0) d_Mo_count_0 rfl rfl rfl ?_
  refine ev_iconst d_Mo_count_1 rfl ⟨by decide, by decide⟩ ?_
  refine ev_putI d_Mo_count_2 rfl lk_Mo_104 fp_Mo_44 (Or.inl rfl) lx_45 rfl ?_
  refine ev_iload_n (i := 1) d_Mo_count_5 rfl rfl rfl ?_
  refine ev_tsIn (tgt := 64) d_Mo_count_6 (by omega) (by omega) (rfl) (by decide) ?_
  refine ev_aload_n (i := 0) d_Mo_count_64 rfl rfl rfl ?_
  refine ev_getI (z := M 45 13) d_Mo_count_65 rfl lk_Mo_166 lx_45 rfl (by simp [g_up]) ?_
  exact ev_retI d_Mo_count_68 (by first | rfl | omega | simp_all) rfl (Or.inl rfl)
theorem c_Mo_count_5 (d : Nat) (M : g_M)   : Con y_Mo_count w_Mo_count (g_rm (d)) LX M [g_r 45, g_i 5] LX (g_up M 45 44 0) (some (g_i (if M 45 17 = 0 then 0 else 1))) := by
  refine con_of (av := [g_r 45, g_i 5]) (ls0 := [some (g_r 45), some (g_i 5)]) (by decide) rfl (Nat.le_of_ble_eq_true rfl) (g_hls (av := [g_r 45, g_i 5]) (k := 0)) (fun _ h9 => List.mem_cons_of_mem _ h9) ?_
  refine ev_aload_n (i := 0) d_Mo_count_0 rfl rfl rfl ?_
  refine ev_iconst d_Mo_count_1 rfl ⟨by decide, by decide⟩ ?_
  refine ev_putI d_Mo_count_2 rfl lk_Mo_104 fp_Mo_44 (Or.inl rfl) lx_45 rfl ?_
  refine ev_iload_n (i := 1) d_Mo_count_5 rfl rfl rfl ?_
  refine ev_tsIn (tgt := 69) d_Mo_count_6 (by omega) (by omega) (rfl) (by decide) ?_
  refine ev_aload_n (i := 0) d_Mo_count_69 rfl rfl rfl ?_
  refine ev_getI (z := M 45 17) d_Mo_count_70 rfl lk_Mo_123 lx_45 rfl (by simp [g_up]) ?_
  refine ev_if_eq (tgt := 80) d_Mo_count_73 (by decide) rfl (fun h1 => ?_) (fun h1 => ?_)
  · refine ev_iconst d_Mo_count_80 rfl ⟨by decide, by decide⟩ ?_
    exact ev_retI d_Mo_count_81 (by first | rfl | omega | simp_all) rfl (Or.inl rfl)
  · refine ev_iconst d_Mo_count_76 rfl ⟨by decide, by decide⟩ ?_
    refine ev_goto (tgt := 81) d_Mo_count_77 (by decide) ?_
    exact ev_retI d_Mo_count_81 (by first | rfl | omega | simp_all) rfl (Or.inl rfl)
theorem c_Mo_count_9 (d : Nat) (M : g_M) (w : Int) (hw : w < 0 ∨ 5 < w) : Con y_Mo_count w_Mo_count (g_rm (d)) LX M [g_r 45, g_i w] LX (g_up M 45 44 0) (some (g_i (-1))) := by
  refine con_of (av := [g_r 45, g_i w]) (ls0 := [some (g_r 45), some (g_i w)]) (by decide) rfl (Nat.le_of_ble_eq_true rfl) (g_hls (av := [g_r 45, g_i w]) (k := 0)) (fun _ h9 => List.mem_cons_of_mem _ h9) ?_
  refine ev_aload_n (i := 0) d_Mo_count_0 rfl rfl rfl ?_
  refine ev_iconst d_Mo_count_1 rfl ⟨by decide, by decide⟩ ?_
  refine ev_putI d_Mo_count_2 rfl lk_Mo_104 fp_Mo_44 (Or.inl rfl) lx_45 rfl ?_
  refine ev_iload_n (i := 1) d_Mo_count_5 rfl rfl rfl ?_
  refine ev_tsOut (tgt := 82) d_Mo_count_6 (hw) (by decide) ?_
  refine ev_iconst d_Mo_count_82 rfl ⟨by decide, by decide⟩ ?_
  exact ev_retI d_Mo_count_83 (by first | rfl | omega | simp_all) rfl (Or.inl rfl)
