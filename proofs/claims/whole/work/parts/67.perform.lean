theorem u_Ms_0 {M : g_M} : u_Ms M (g_up (g_up (g_up (g_up (g_up (g_up M 35 5 0) 34 11 0) 34 7 0) 34 9 0) 34 12 0) 34 14 0) [] [] (fun _ _ => Std.Format.nil) 0 0 := by
  refine ⟨(((((u_c_up M (by decide) 5 0).tr (u_c_up _ (by decide) 11 0)).tr (u_c_up _ (by decide) 7 0)).tr (u_c_up _ (by decide) 9 0)).tr (u_c_up _ (by decide) 12 0)).tr (u_c_up _ (by decide) 14 0), ⟨rfl, fun i e hi => by simp at hi⟩, fun e he => by simp at he, rfl, fun i t hi => by simp at hi, fun r hr v c l hv hx => (by cases hx), rfl, rfl, rfl, rfl⟩
theorem u_Ms_h {M M1 : g_M} {F : List (Nat × Nat × Nat)} {H : List u_F} {B : Nat → Nat → u_F} {st bu : Nat} (hM : u_Ms M M1 F H B st bu) {t : u_F} {x : Nat} (hx : u_rk M1 t x) : u_Ms M (g_up (g_up M1 42 H.length (x : Int)) 34 9 ((H.length : Int) + 1)) F (t :: H) B st bu := by
  obtain ⟨m1, m2, m3, m4, m5, m6, m7, m8, m9, m10⟩ := hM
  obtain ⟨M2, h1⟩ : ∃ M2, M2 = g_up (g_up M1 42 H.length (x : Int)) 34 9 ((H.length : Int) + 1) := ⟨_, rfl⟩
  rw [← h1]
  have eo : ∀ k b : Nat, k ≠ 42 → ¬ (k = 34 ∧ b = 9) → M2 k b = M1 k b := fun k b hk hk2 => by rw [h1]; simp only [g_up]; rw [if_neg hk2, if_neg (fun h => hk h.1)]
  have ef : ∀ k : Nat, k ≠ 42 → k ≠ 34 → M2 k = M1 k := fun k hk hk2 => funext fun b => eo k b hk (fun h => hk2 h.1)
  have rk : ∀ t x, u_rk M1 t x → u_rk M2 t x := fun t x h => u_rk_cg (M := M1) (M2 := M2) (fun k hk => ef k (by omega) (by omega)) (eo 35 5 (by decide) (by decide)) h
  exact ⟨m1.tr (fun k b hk => eo k b (by omega) (by omega)), u_fm_cg (M := M1) (eo 34 7 (by decide) (by decide)) (fun k hk => ef k (by omega) (by omega)) m2, m3, by rw [h1, g_up_at, List.length_cons]; omega, u_hd_push rk (fun i hi => by rw [h1, g_up_ne (by decide), g_up_nj (by omega)]) (by rw [h1, g_up_ne (by decide), g_up_at]) (rk _ x hx) m5, u_bc_cg (ef 43 (by decide) (by decide)) rk m6, (eo 34 11 (by decide) (by decide)).trans m7, (eo 35 5 (by decide) (by decide)).trans m8, (eo 34 12 (by decide) (by decide)).trans m9, (eo 34 14 (by decide) (by decide)).trans m10⟩
/-- where the class stands between its turns: at a state of the run, or at its end -/
def u_At (M : g_M) (s0 : u_S) (n q : Nat) (M2 : g_M) : Prop := (∃ (j : Nat) (s : u_S), q ≤ j ∧ 16003 ≤ n + j ∧ u_R M j s0 s ∧ u_ok M j s ∧ u_Cs M M2 s) ∨ (q ≤ 16002 ∧ ∃ st : Nat, u_O M s0 st none ∧ u_Ce M M2 st)
theorem u_At_s {M : g_M} {s0 : u_S} {n q j : Nat} {s : u_S} {M2 : g_M} (hq : q ≤ j) (hn : 16003 ≤ n + j) (hj : j ≤ 16001) (hR : u_R M j s0 s) (h : u_To M j s M2) : u_At M s0 (n - 1) (q + 1) M2 := by
  rcases h with ⟨i, s', h1, h2, h3, h4⟩ | ⟨i, s', h1, h2, h3⟩
  · exact Or.inr ⟨by omega, _, ⟨j + i, s', u_R_tr j i s0 s s' hR h1, Or.inr ⟨h2, h3, rfl, rfl⟩⟩, h4⟩
  · exact Or.inl ⟨j + (i + 1), s', by omega, by omega, u_R_tr j (i + 1) s0 s s' hR h1, h2, h3⟩
theorem u_At_0 {M : g_M} {s0 : u_S} {M2 : g_M} (h : u_To M 0 s0 M2) : u_At M s0 16003 0 M2 := by
  rcases h with ⟨i, s', h1, h2, h3, h4⟩ | ⟨i, s', h1, h2, h3⟩
  · exact Or.inr ⟨by omega, _, ⟨i, s', h1, Or.inr ⟨h2, h3, rfl, rfl⟩⟩, h4⟩
  · exact Or.inl ⟨i + 1, s', by omega, by omega, h1, by rw [Nat.zero_add] at h2; exact h2, h3⟩
theorem c_Ma_perform (d : Nat) (M : g_M) (f w : Nat) (x y z : Int) (hP : r_P M) (hf4 : (f : Int) < M 45 4) (hf6 : f < 6) (hw : M 50 f = w) (hw3 : w ≤ 3) (hj0 : ∀ q : Nat, q < w → 0 ≤ j_pk x y z q) (hcl : ∀ q : Nat, q < w → u_cl M (j_pk x y z q).toNat) : ConR y_Ma_perform w_Ma_perform (g_rm (d + 106)) LX M [g_r 34, g_i (f : Int), g_i x, g_i y, g_i z] LX (fun M2 v2 => ∃ (st : Nat) (v : Option u_F), u_O M (u_s0 M f w x y z) st v ∧ v2 = some (g_i ((u_av v).length : Nat)) ∧ M2 34 11 = (st : Int) ∧ M2 34 14 = ((u_av v).length : Nat) ∧ (u_av v).length ≤ 60 ∧ (∀ i a : Nat, (u_av v)[i]? = some a → M2 44 i = a) ∧ u_c M M2) := by
  refine con_ofR (av := [g_r 34, g_i (f : Int), g_i x, g_i y, g_i z]) (ls0 := [some (g_r 34), some (g_i (f : Int)), some (g_i x), some (g_i y), some (g_i z), none]) (by decide) rfl (Nat.le_of_ble_eq_true rfl) (g_hls (av := [g_r 34, g_i (f : Int), g_i x, g_i y, g_i z]) (k := 1)) (fun _ h9 => List.mem_cons_of_mem _ h9) ?_
  have hw7 : M 7 f = w := by rw [(r_P_50 hP hf4).2.2]; exact hw
  refine ev_aload_n (i := 0) d_Ma_perform_0 rfl rfl rfl ?_
  refine ev_getR d_Ma_perform_1 rfl lk_Ma_28 lx_34 rfl ?_
  refine ev_callV (As := []) d_Ma_perform_4 rfl cl_Ma_58 ((c_Va_forgetMade (d + 105) M)) (g_hR (by decide)) g_h0 lx_35 rfl rfl (Nat.le_of_ble_eq_true rfl) rfl rfl ?_
  refine ev_aload_n (i := 0) d_Ma_perform_7 rfl rfl rfl ?_
  refine ev_iconst d_Ma_perform_8 rfl ⟨by decide, by decide⟩ ?_
  refine ev_putI d_Ma_perform_9 rfl lk_Ma_51 fp_Ma_11 (Or.inl rfl) lx_34 rfl ?_
  refine ev_aload_n (i := 0) d_Ma_perform_12 rfl rfl rfl ?_
  refine ev_iconst d_Ma_perform_13 rfl ⟨by decide, by decide⟩ ?_
  refine ev_putI d_Ma_perform_14 rfl lk_Ma_61 fp_Ma_7 (Or.inl rfl) lx_34 rfl ?_
  refine ev_aload_n (i := 0) d_Ma_perform_17 rfl rfl rfl ?_
  refine ev_iconst d_Ma_perform_18 rfl ⟨by decide, by decide⟩ ?_
  refine ev_putI d_Ma_perform_19 rfl lk_Ma_64 fp_Ma_9 (Or.inl rfl) lx_34 rfl ?_
  refine ev_aload_n (i := 0) d_Ma_perform_22 rfl rfl rfl ?_
  refine ev_iconst d_Ma_perform_23 rfl ⟨by decide, by decide⟩ ?_
  refine ev_putI d_Ma_perform_24 rfl lk_Ma_67 fp_Ma_12 (Or.inr ⟨rfl, by omega⟩) lx_34 rfl ?_
  refine ev_aload_n (i := 0) d_Ma_perform_27 rfl rfl rfl ?_
  refine ev_iconst d_Ma_perform_28 rfl ⟨by decide, by decide⟩ ?_
  refine ev_putI d_Ma_perform_29 rfl lk_Ma_55 fp_Ma_14 (Or.inl rfl) lx_34 rfl ?_
  refine ev_iconst d_Ma_perform_32 rfl ⟨by decide, by decide⟩ ?_
  refine ev_istore (i := 5) d_Ma_perform_33 rfl (by decide) rfl ?_
  refine ev_wh (fun n ls1 M2 => ∃ i : Nat, i ≤ w ∧ n = w - i ∧ ls1 = [some (g_r 34), some (g_i (f : Int)), some (g_i x), some (g_i y), some (g_i z), some (g_i (i : Int))] ∧ u_Ms M M2 [] (u_ar M x y z i) (fun _ _ => Std.Format.nil) 0 0) ?_ (n := w) (⟨0, Nat.zero_le _, rfl, rfl, u_Ms_0⟩)
  intro n ls1 M2 hP0 ih
  obtain ⟨i, hi, hn, rfl, hM2⟩ := hP0
  refine ev_iload (i := 5) d_Ma_perform_35 rfl rfl ?_
  refine ev_aload_n (i := 0) d_Ma_perform_37 rfl rfl rfl ?_
  refine ev_getR d_Ma_perform_38 rfl lk_Ma_11 lx_34 rfl ?_
  refine ev_iload_n (i := 1) d_Ma_perform_41 rfl rfl rfl ?_
  refine ev_callV (As := [g_i (f : Int)]) d_Ma_perform_42 rfl cl_Ma_71 ((c_Sg_width_f_w (d + 105) M2 f w hf6 (by rw [hM2.1 7 f (by decide)]; exact hw7))) (g_hR (by decide)) g_h0 lx_5 rfl rfl (Nat.le_of_ble_eq_true rfl) rfl rfl ?_
  refine ev_icmp_ge (tgt := 67) d_Ma_perform_45 (by decide) rfl (fun hz => ?_) (fun hz => ?_)
  · have eiw : w = i := by omega
    subst eiw
    refine ev_aload_n (i := 0) d_Ma_perform_67 rfl rfl rfl ?_
    refine ev_iload_n (i := 1) d_Ma_perform_68 rfl rfl rfl ?_
    refine ev_callVR (As := [g_i (f : Int)]) d_Ma_perform_69 rfl cl_Ma_85 (c_Ma_step (d + 1) M M2 0 f 0 0 0 [] (u_ar M x y z w) (fun _ _ => Std.Format.nil) hP ⟨[], rfl, hM2⟩ (u_s0_ok hP hf4 hw hcl)) (g_hR (by decide)) g_h0 lx_34 rfl rfl (Nat.le_of_ble_eq_true rfl) rfl rfl (fun M3 v9 g9 => ?_)
    obtain ⟨rfl, hs3⟩ := g9
    have hTo : u_To M 0 (u_s0 M f w x y z) M3 := u_To_2 hP (u_s0_ok hP hf4 hw hcl) hs3
    refine ev_iconst d_Ma_perform_72 rfl ⟨by decide, by decide⟩ ?_
    refine ev_istore (i := 5) d_Ma_perform_73 rfl (by decide) rfl ?_
    refine ev_wh (fun n ls1 M4 => ∃ q : Nat, ls1 = [some (g_r 34), some (g_i (f : Int)), some (g_i x), some (g_i y), some (g_i z), some (g_i (q : Int))] ∧ u_At M (u_s0 M f w x y z) n q M4) ?_ (n := 16003) (⟨0, rfl, u_At_0 hTo⟩)
    intro n ls1 M4 hP4 ih2
    obtain ⟨q, rfl, hat⟩ := hP4
    have hq2 : q ≤ 16002 := by
      rcases hat with ⟨j, s, hq, -, -, hok, -⟩ | ⟨hq, -⟩
      · have := (u_ok_b hP hok).2.2.2; omega
      · exact hq
    refine ev_iload (i := 5) d_Ma_perform_75 rfl rfl ?_
    refine ev_sipush d_Ma_perform_77 rfl (by decide +kernel) ⟨by decide, by decide⟩ ?_
    refine ev_icmp_ge_f (tgt := 107) d_Ma_perform_80 (by decide) rfl (by omega) ?_
    refine ev_aload_n (i := 0) d_Ma_perform_83 rfl rfl rfl ?_
    refine ev_getI (z := M4 34 7) d_Ma_perform_84 rfl lk_Ma_61 lx_34 rfl (rfl) ?_
    refine ev_if_le (tgt := 107) d_Ma_perform_87 (by decide) rfl (fun hfr => ?_) (fun hfr => ?_)
    · refine ev_aload_n (i := 0) d_Ma_perform_107 rfl rfl rfl ?_
      refine ev_getI (z := M4 34 12) d_Ma_perform_108 rfl lk_Ma_67 lx_34 rfl (rfl) ?_
      refine ev_if_ne (tgt := 139) d_Ma_perform_111 (by decide) rfl (fun hen2 => ?_) (fun hen2 => ?_)
      · obtain ⟨j, s, hq, hn5, hR, hok, F0, hF0, hMs⟩ | ⟨-, st, hO, hCe⟩ := hat
        · have h12 := hMs.2.2.2.2.2.2.2.2.1; omega
        refine ev_aload_n (i := 0) d_Ma_perform_139 rfl rfl rfl ?_
        refine ev_getI (z := 0) d_Ma_perform_140 rfl lk_Ma_55 lx_34 rfl (hCe.2.2.2) ?_
        exact ev_retIR d_Ma_perform_143 (⟨st, none, hO, rfl, hCe.2.2.1, hCe.2.2.2, Nat.zero_le _, fun i a h => by simp [u_av] at h, hCe.2.1⟩) (Or.inl rfl)
      · obtain ⟨j, s, hq, hn5, hR, hok, F0, hF0, hMs⟩ | ⟨-, st, -, hCe⟩ := hat
        rotate_left
        · have := hCe.1; omega
        obtain ⟨K, H, B, st, bu⟩ := s
        simp only at hF0 hMs
        have h7 := hMs.2.1.1
        have eF0 : F0 = [] := List.eq_nil_of_length_eq_zero (by omega)
        subst eF0
        have eK : [] = K := hF0
        subst eK
        have hH1 : H.length = 1 := hok.2.1
        obtain ⟨a, rfl⟩ : ∃ a, H = [a] := by
          match H, hH1 with
          | [a], _ => exact ⟨a, rfl⟩
        have hga := hok.2.2.1 a List.mem_cons_self
        obtain ⟨x0, hx0, hxr⟩ := hMs.2.2.2.2.1 0 a rfl
        have hbu6 : bu ≤ 600 := hok.2.2.2.2.2.1
        have h79 : M4 34 7 = 0 := by rw [h7]; rfl
        have h99 : M4 34 9 = 1 := hMs.2.2.2.1
        refine ev_aload_n (i := 0) d_Ma_perform_114 rfl rfl rfl ?_
        refine ev_getI (z := 0) d_Ma_perform_115 rfl lk_Ma_61 lx_34 rfl (h79) ?_
        refine ev_if_ne_f (tgt := 139) d_Ma_perform_118 (by decide) rfl (by decide) ?_
        refine ev_aload_n (i := 0) d_Ma_perform_121 rfl rfl rfl ?_
        refine ev_getI (z := 1) d_Ma_perform_122 rfl lk_Ma_64 lx_34 rfl (h99) ?_
        refine ev_iconst d_Ma_perform_125 rfl ⟨by decide, by decide⟩ ?_
        refine ev_icmp_ne_f (tgt := 139) d_Ma_perform_126 (by decide) rfl (by decide) ?_
        refine ev_aload_n (i := 0) d_Ma_perform_129 rfl rfl rfl ?_
        refine ev_aload_n (i := 0) d_Ma_perform_130 rfl rfl rfl ?_
        refine ev_getR d_Ma_perform_131 rfl lk_Ma_42 lx_34 rfl ?_
        refine ev_iconst d_Ma_perform_134 rfl ⟨by decide, by decide⟩ ?_
        refine ev_iaload (z := (x0 : Int)) d_Ma_perform_135 rfl lx_42 (by omega) (by omega) (hx0) ?_
        refine ev_callVR (As := [g_i ((x0 : Int))]) d_Ma_perform_136 rfl cl_Ma_91 (c_Ma_writeAnswer (d + 102) M4 x0 bu a hMs.2.2.2.2.2.2.2.1 hbu6 hMs.2.2.2.2.2.2.2.2.2 hxr (u_gd_rp a true 0 0 x0 (fun h9 => absurd h9 (by decide)) hga.1 hxr) hga.2) (g_hR (by decide)) g_h0 lx_34 rfl rfl (Nat.le_of_ble_eq_true rfl) rfl rfl (fun M6 v9 g9 => ?_)
        obtain ⟨rfl, hwk, h14, han⟩ := g9
        refine ev_aload_n (i := 0) d_Ma_perform_139 rfl rfl rfl ?_
        refine ev_getI (z := ((u_sz a : Nat) : Int)) d_Ma_perform_140 rfl lk_Ma_55 lx_34 rfl (h14) ?_
        exact ev_retIR d_Ma_perform_143 (⟨st, some a, ⟨j, _, hR, Or.inl ⟨rfl, rfl, rfl⟩⟩, by show _ = some (g_i (((u_pr a).length : Nat) : Int)); rw [u_pr_len], by rw [hwk 34 11 (by decide) (by decide) (by decide)]; exact hMs.2.2.2.2.2.2.1, by rw [h14]; show _ = (((u_pr a).length : Nat) : Int); rw [u_pr_len], by show (u_pr a).length ≤ 60; rw [u_pr_len]; exact hga.2, han, hMs.1.tr hwk.c⟩) (Or.inl rfl)
    · refine ev_aload_n (i := 0) d_Ma_perform_90 rfl rfl rfl ?_
      refine ev_getI (z := M4 34 12) d_Ma_perform_91 rfl lk_Ma_67 lx_34 rfl (rfl) ?_
      refine ev_if_ne (tgt := 107) d_Ma_perform_94 (by decide) rfl (fun hen => ?_) (fun hen => ?_)
      · refine ev_aload_n (i := 0) d_Ma_perform_107 rfl rfl rfl ?_
        refine ev_getI (z := M4 34 12) d_Ma_perform_108 rfl lk_Ma_67 lx_34 rfl (rfl) ?_
        refine ev_if_ne (tgt := 139) d_Ma_perform_111 (by decide) rfl (fun hen2 => ?_) (fun hen2 => ?_)
        · obtain ⟨j, s, hq, hn5, hR, hok, F0, hF0, hMs⟩ | ⟨-, st, hO, hCe⟩ := hat
          · have h12 := hMs.2.2.2.2.2.2.2.2.1; omega
          refine ev_aload_n (i := 0) d_Ma_perform_139 rfl rfl rfl ?_
          refine ev_getI (z := 0) d_Ma_perform_140 rfl lk_Ma_55 lx_34 rfl (hCe.2.2.2) ?_
          exact ev_retIR d_Ma_perform_143 (⟨st, none, hO, rfl, hCe.2.2.1, hCe.2.2.2, Nat.zero_le _, fun i a h => by simp [u_av] at h, hCe.2.1⟩) (Or.inl rfl)
        · obtain ⟨j, s, hq, hn5, hR, hok, F0, hF0, hMs⟩ | ⟨-, st, -, hCe⟩ := hat
          rotate_left
          · have := hCe.1; omega
          obtain ⟨K, H, B, st, bu⟩ := s
          simp only at hF0 hMs
          have h7 := hMs.2.1.1
          have eF0 : F0 = [] := List.eq_nil_of_length_eq_zero (by omega)
          subst eF0
          have eK : [] = K := hF0
          subst eK
          have hH1 : H.length = 1 := hok.2.1
          obtain ⟨a, rfl⟩ : ∃ a, H = [a] := by
            match H, hH1 with
            | [a], _ => exact ⟨a, rfl⟩
          have hga := hok.2.2.1 a List.mem_cons_self
          obtain ⟨x0, hx0, hxr⟩ := hMs.2.2.2.2.1 0 a rfl
          have hbu6 : bu ≤ 600 := hok.2.2.2.2.2.1
          have h79 : M4 34 7 = 0 := by rw [h7]; rfl
          have h99 : M4 34 9 = 1 := hMs.2.2.2.1
          refine ev_aload_n (i := 0) d_Ma_perform_114 rfl rfl rfl ?_
          refine ev_getI (z := 0) d_Ma_perform_115 rfl lk_Ma_61 lx_34 rfl (h79) ?_
          refine ev_if_ne_f (tgt := 139) d_Ma_perform_118 (by decide) rfl (by decide) ?_
          refine ev_aload_n (i := 0) d_Ma_perform_121 rfl rfl rfl ?_
          refine ev_getI (z := 1) d_Ma_perform_122 rfl lk_Ma_64 lx_34 rfl (h99) ?_
          refine ev_iconst d_Ma_perform_125 rfl ⟨by decide, by decide⟩ ?_
          refine ev_icmp_ne_f (tgt := 139) d_Ma_perform_126 (by decide) rfl (by decide) ?_
          refine ev_aload_n (i := 0) d_Ma_perform_129 rfl rfl rfl ?_
          refine ev_aload_n (i := 0) d_Ma_perform_130 rfl rfl rfl ?_
          refine ev_getR d_Ma_perform_131 rfl lk_Ma_42 lx_34 rfl ?_
          refine ev_iconst d_Ma_perform_134 rfl ⟨by decide, by decide⟩ ?_
          refine ev_iaload (z := (x0 : Int)) d_Ma_perform_135 rfl lx_42 (by omega) (by omega) (hx0) ?_
          refine ev_callVR (As := [g_i ((x0 : Int))]) d_Ma_perform_136 rfl cl_Ma_91 (c_Ma_writeAnswer (d + 102) M4 x0 bu a hMs.2.2.2.2.2.2.2.1 hbu6 hMs.2.2.2.2.2.2.2.2.2 hxr (u_gd_rp a true 0 0 x0 (fun h9 => absurd h9 (by decide)) hga.1 hxr) hga.2) (g_hR (by decide)) g_h0 lx_34 rfl rfl (Nat.le_of_ble_eq_true rfl) rfl rfl (fun M6 v9 g9 => ?_)
          obtain ⟨rfl, hwk, h14, han⟩ := g9
          refine ev_aload_n (i := 0) d_Ma_perform_139 rfl rfl rfl ?_
          refine ev_getI (z := ((u_sz a : Nat) : Int)) d_Ma_perform_140 rfl lk_Ma_55 lx_34 rfl (h14) ?_
          exact ev_retIR d_Ma_perform_143 (⟨st, some a, ⟨j, _, hR, Or.inl ⟨rfl, rfl, rfl⟩⟩, by show _ = some (g_i (((u_pr a).length : Nat) : Int)); rw [u_pr_len], by rw [hwk 34 11 (by decide) (by decide) (by decide)]; exact hMs.2.2.2.2.2.2.1, by rw [h14]; show _ = (((u_pr a).length : Nat) : Int); rw [u_pr_len], by show (u_pr a).length ≤ 60; rw [u_pr_len]; exact hga.2, han, hMs.1.tr hwk.c⟩) (Or.inl rfl)
      · obtain ⟨j, s, hq, hn5, hR, hok, F0, hF0, hMs0⟩ | ⟨-, st, -, hCe⟩ := hat
        rotate_left
        · have := hCe.1; omega
        obtain ⟨K, H, B, st, bu⟩ := s
        simp only at hF0 hMs0
        have hj := (u_ok_b hP hok).2.2.2
        obtain ⟨⟨t, r, dn⟩, F, rfl⟩ : ∃ e F1, F0 = e :: F1 := by
          cases F0 with
          | nil => have h9 := hMs0.2.1.1; simp at h9; omega
          | cons e F1 => exact ⟨e, F1, rfl⟩
        have hMs := hMs0
        subst hF0
        refine ev_aload_n (i := 0) d_Ma_perform_97 rfl rfl rfl ?_
        refine ev_callVR (As := []) d_Ma_perform_98 rfl cl_Ma_88 (c_Ma_turn d M M4 j t r dn st bu F H B hP hMs hok) (g_hR (by decide)) g_h0 lx_34 rfl rfl (Nat.le_of_ble_eq_true rfl) rfl rfl (fun M5 v9 g9 => ?_)
        obtain ⟨rfl, hTo⟩ := g9
        refine ev_iinc (z := ((q + 1 : Nat) : Int)) d_Ma_perform_101 rfl rfl (by decide) (by rw [g_w_id (by unfold g_rg; omega)]; omega) rfl ?_
        refine ev_goto (tgt := 75) d_Ma_perform_104 (by decide) ?_
        exact ev_le (ih2 (n - 1) [some (g_r 34), some (g_i (f : Int)), some (g_i x), some (g_i y), some (g_i z), some (g_i ((q + 1 : Nat) : Int))] M5 (by omega) ⟨q + 1, rfl, u_At_s hq hn5 hj hR hTo⟩) rfl ⟨rfl, rfl, rfl, rfl, rfl, rfl, trivial⟩
  · have ejn : (((j_pk x y z i).toNat : Nat) : Int) = j_pk x y z i := by have := hj0 i (by omega); omega
    refine ev_aload_n (i := 0) d_Ma_perform_48 rfl rfl rfl ?_
    refine ev_iload (i := 5) d_Ma_perform_49 rfl rfl ?_
    refine ev_iload_n (i := 2) d_Ma_perform_51 rfl rfl rfl ?_
    refine ev_iload_n (i := 3) d_Ma_perform_52 rfl rfl rfl ?_
    refine ev_iload (i := 4) d_Ma_perform_53 rfl rfl ?_
    refine ev_callN (As := [g_i (i : Int), g_i x, g_i y, g_i z]) d_Ma_perform_55 rfl cl_Ma_77 ((c_Fu_pickJ (d + 105) M2 i x y z).eqr (b := (((j_pk x y z i).toNat : Nat) : Int)) (ejn.symm)) (g_hR (by decide)) g_h0 rfl rfl (Nat.le_of_ble_eq_true rfl) rfl rfl ?_
    refine ev_callV (As := [g_i (((j_pk x y z i).toNat : Nat) : Int)]) d_Ma_perform_58 rfl cl_Ma_81 ((c_Ma_hold (d + 105) M2 i (((j_pk x y z i).toNat : Nat) : Int) (by rw [hM2.2.2.2.1, u_ar_len]) (by omega))) (g_hR (by decide)) g_h0 lx_34 rfl rfl (Nat.le_of_ble_eq_true rfl) rfl rfl ?_
    refine ev_iinc (z := ((i + 1 : Nat) : Int)) d_Ma_perform_61 rfl rfl (by decide) (by rw [g_w_id (by unfold g_rg; omega)]; omega) rfl ?_
    refine ev_goto (tgt := 35) d_Ma_perform_64 (by decide) ?_
    exact ev_le (ih (w - (i + 1)) [some (g_r 34), some (g_i (f : Int)), some (g_i x), some (g_i y), some (g_i z), some (g_i ((i + 1 : Nat) : Int))] _ (by omega) ⟨i + 1, by omega, rfl, rfl, by have h9 := u_Ms_h hM2 (u_t_rk hP hM2.1 _ (hcl i (by omega))); rw [u_ar_len] at h9; exact h9⟩) rfl ⟨rfl, rfl, rfl, rfl, rfl, rfl, trivial⟩
theorem c_Fu_run (d : Nat) (M : g_M) (f w : Nat) (x y z : Int) (hP : r_P M) (hv : M 0 8 = 0) (hf4 : (f : Int) < M 45 4) (hf6 : f < 6) (hw : M 50 f = w) (hw7 : M 7 f = w) (hw3 : w ≤ 3) (hpl : ∀ i : Nat, i < w → M 8 (3 * f + i) = M 51 (3 * f + i)) (hall : ∀ q : Nat, q < w → z_val M (j_pk x y z q) (M 51 (3 * f + q))) : ConR y_Fu_run w_Fu_run (g_rm (d + 107)) LX M [g_r 0, g_i (f : Int), g_i x, g_i y, g_i z] LX (fun M2 v2 => ∃ (st : Nat) (v : Option u_F), u_O M (u_s0 M f w x y z) st v ∧ v2 = some (g_i ((u_av v).length : Nat)) ∧ M2 34 11 = (st : Int) ∧ M2 34 14 = ((u_av v).length : Nat) ∧ (u_av v).length ≤ 60 ∧ (∀ i a : Nat, (u_av v)[i]? = some a → M2 44 i = a) ∧ u_c M M2) := by
  refine con_ofR (av := [g_r 0, g_i (f : Int), g_i x, g_i y, g_i z]) (ls0 := [some (g_r 0), some (g_i (f : Int)), some (g_i x), some (g_i y), some (g_i z)]) (by decide) rfl (Nat.le_of_ble_eq_true rfl) (g_hls (av := [g_r 0, g_i (f : Int), g_i x, g_i y, g_i z]) (k := 0)) (fun _ h9 => List.mem_cons_of_mem _ h9) ?_
  refine ev_aload_n (i := 0) d_Fu_run_0 rfl rfl rfl ?_
  refine ev_getI (z := 0) d_Fu_run_1 rfl lk_Fu_69 lx_0 rfl (hv) ?_
  refine ev_if_eq_t (tgt := 17) d_Fu_run_4 (by decide) (by decide) ?_
  refine ev_aload_n (i := 0) d_Fu_run_17 rfl rfl rfl ?_
  refine ev_getR d_Fu_run_18 rfl lk_Fu_18 lx_0 rfl ?_
  refine ev_iload_n (i := 1) d_Fu_run_21 rfl rfl rfl ?_
  refine ev_callV (As := [g_i (f : Int)]) d_Fu_run_22 rfl cl_Fu_108 ((c_Sg_has_f (d + 106) M (f : Int))) (g_hR (by decide)) g_h0 lx_5 rfl rfl (Nat.le_of_ble_eq_true rfl) rfl rfl ?_
  refine ev_if_eq_f (tgt := 40) d_Fu_run_25 (by decide) rfl (by rw [if_pos ⟨by omega, by rw [hP.2.1.1]; exact hf4⟩]; decide) ?_
  refine ev_aload_n (i := 0) d_Fu_run_28 rfl rfl rfl ?_
  refine ev_iload_n (i := 1) d_Fu_run_29 rfl rfl rfl ?_
  refine ev_iload_n (i := 2) d_Fu_run_30 rfl rfl rfl ?_
  refine ev_iload_n (i := 3) d_Fu_run_31 rfl rfl rfl ?_
  refine ev_iload (i := 4) d_Fu_run_32 rfl rfl ?_
  refine ev_callVR (As := [g_i (f : Int), g_i x, g_i y, g_i z]) d_Fu_run_34 rfl cl_Fu_183 (c_Fu_areArguments (d + 2) M f w x y z hP hf6 hw7 hw3 hpl) (g_hR (by decide)) g_h0 lx_0 rfl rfl (Nat.le_of_ble_eq_true rfl) rfl rfl (fun M1 v9 g9 => ?_)
  obtain ⟨e1, r, rfl, hr01, hr1⟩ := g9
  replace e1 := e1.symm
  subst e1
  refine ev_if_ne_t (tgt := 50) d_Fu_run_37 (by decide) (by rw [hr1.mpr hall]; decide) ?_
  refine ev_aload_n (i := 0) d_Fu_run_50 rfl rfl rfl ?_
  refine ev_getR d_Fu_run_51 rfl lk_Fu_65 lx_0 rfl ?_
  refine ev_iload_n (i := 1) d_Fu_run_54 rfl rfl rfl ?_
  refine ev_iload_n (i := 2) d_Fu_run_55 rfl rfl rfl ?_
  refine ev_iload_n (i := 3) d_Fu_run_56 rfl rfl rfl ?_
  refine ev_iload (i := 4) d_Fu_run_57 rfl rfl ?_
  refine ev_callVR (As := [g_i (f : Int), g_i x, g_i y, g_i z]) d_Fu_run_59 rfl cl_Fu_188 (c_Ma_perform d M f w x y z hP hf4 hf6 hw hw3 (fun q hq => (hall q hq).1.1) (fun q hq => z_val_cl (hall q hq))) (g_hR (by decide)) g_h0 lx_34 rfl rfl (Nat.le_of_ble_eq_true rfl) rfl rfl (fun M2 v9 g9 => ?_)
  obtain ⟨st, v, o1, rfl, o3⟩ := g9
  exact ev_retIR d_Fu_run_62 (⟨st, v, o1, rfl, o3⟩) (Or.inl rfl)
