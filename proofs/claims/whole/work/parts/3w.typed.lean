theorem c_Mo_isTyped_0 (d : Nat) (M : g_M) (t : Nat) (u : Int) (hT : q_T M) (ht : (t : Int) < M 45 8) : ConR y_Mo_isTyped w_Mo_isTyped (g_rm (d + 2)) LX M [g_r 45, g_i (t : Int), g_i u, g_i 0] LX (fun M2 v2 => v2 = some (g_i (if q_t M t u = true then 1 else 0)) ∧ q_eq M M2) := by
  refine con_ofR (av := [g_r 45, g_i (t : Int), g_i u, g_i 0]) (ls0 := [some (g_r 45), some (g_i (t : Int)), some (g_i u), some (g_i 0), none, none, none, none]) (by decide) rfl (Nat.le_of_ble_eq_true rfl) (g_hls (av := [g_r 45, g_i (t : Int), g_i u, g_i 0]) (k := 4)) (fun _ h9 => List.mem_cons_of_mem _ h9) ?_
  refine ev_aload_n (i := 0) d_Mo_isTyped_0 rfl rfl rfl ?_
  refine ev_iconst d_Mo_isTyped_1 rfl ⟨by decide, by decide⟩ ?_
  refine ev_putI d_Mo_isTyped_2 rfl lk_Mo_141 fp_Mo_22 (Or.inl rfl) lx_45 rfl ?_
  refine ev_aload_n (i := 0) d_Mo_isTyped_5 rfl rfl rfl ?_
  refine ev_iload_n (i := 1) d_Mo_isTyped_6 rfl rfl rfl ?_
  refine ev_iload_n (i := 2) d_Mo_isTyped_7 rfl rfl rfl ?_
  refine ev_callV (As := [g_i (t : Int), g_i u]) d_Mo_isTyped_8 rfl cl_Mo_148 (c_Mo_push_n (d + 1) (g_up M 45 22 0) 0 (t : Int) u (by simp [g_up]) (by decide)) (g_hR (by decide)) g_h0 lx_45 rfl rfl (Nat.le_of_ble_eq_true rfl) rfl rfl ?_
  refine ev_wh (fun n ls1 M1 => ∃ S0 : List (Nat × Int), ls1 = [some (g_r 45), some (g_i (t : Int)), some (g_i u), some (g_i 0), none, none, none, none] ∧ q_s2 M1 S0 ∧ q_eq M M1 ∧ (∀ e ∈ S0, (e.1 : Int) < M 45 8) ∧ n = q_m2 M S0 ∧ n ≤ 40 ∧ q_t M t u = S0.all (fun e => q_t M e.1 e.2)) ?_ (n := _) (⟨[(t, u)], rfl, q_push2 t u (q_nil2 (by simp [g_up])), (q_pe _ _).tr (q_up _ _ _ _ _), fun e he => by simp at he; subst he; exact ht, rfl, by simp [q_m2]; have := q_pl_len hT t ht; have := (hT.2.2 t ht).2.2.2.2.2.1; omega, by simp⟩)
  intro n ls1 M1 hP ih
  obtain ⟨S0, rfl, hs1, hq1, hy1, hn, hn40, ha⟩ := hP
  refine ev_aload_n (i := 0) d_Mo_isTyped_11 rfl rfl rfl ?_
  refine ev_getI (z := (S0.length : Int)) d_Mo_isTyped_12 rfl lk_Mo_141 lx_45 rfl (hs1.1) ?_
  refine ev_if_le (tgt := 212) d_Mo_isTyped_15 (by decide) rfl (fun hz => ?_) (fun hz => ?_)
  · refine ev_iconst d_Mo_isTyped_212 rfl ⟨by decide, by decide⟩ ?_
    exact ev_retIR d_Mo_isTyped_213 (by have e := q_em2 hz; subst e; exact ⟨by rw [ha]; rfl, hq1⟩) (Or.inr ⟨rfl, by omega⟩)
  · obtain ⟨x, y, S, rfl⟩ := q_ne2 hz
    have hx : (x : Int) < M 45 8 := hy1 (x, y) List.mem_cons_self
    have hlen := q_m2_len M ((x, y) :: S)
    rw [List.length_cons] at hlen
    have hnt := hT.2.1
    obtain ⟨hx0, hx22, hx3, hx4, hx5, -⟩ := hT.2.2 x hx
    have hm2 : q_m2 M ((x, y) :: S) = q_m2 M (q_pt2 M x (q_w M x).toNat ++ S) + 1 := by rw [q_m2_cons hT hx y 0 S, q_m2_app, q_m2_app, q_pt2_m2]
    refine ev_aload_n (i := 0) d_Mo_isTyped_18 rfl rfl rfl ?_
    refine ev_dup d_Mo_isTyped_19 rfl rfl ?_
    refine ev_getI (z := (S.length : Int) + 1) d_Mo_isTyped_20 rfl lk_Mo_141 lx_45 rfl (by rw [hs1.1, List.length_cons]; omega) ?_
    refine ev_iconst d_Mo_isTyped_23 rfl ⟨by decide, by decide⟩ ?_
    refine ev_isub (z := (S.length : Int)) d_Mo_isTyped_24 rfl (by rw [g_w_id (by unfold g_rg; omega)]; omega) ?_
    refine ev_putI d_Mo_isTyped_25 rfl lk_Mo_141 fp_Mo_22 (Or.inl rfl) lx_45 rfl ?_
    refine ev_aload_n (i := 0) d_Mo_isTyped_28 rfl rfl rfl ?_
    refine ev_getR d_Mo_isTyped_29 rfl lk_Mo_58 lx_45 rfl ?_
    refine ev_aload_n (i := 0) d_Mo_isTyped_32 rfl rfl rfl ?_
    refine ev_getI (z := (S.length : Int)) d_Mo_isTyped_33 rfl lk_Mo_141 lx_45 rfl (by simp [g_up]) ?_
    refine ev_iaload (z := (x : Int)) d_Mo_isTyped_36 rfl lx_62 (by omega) (by omega) ((q_pop2 hs1).1.1) ?_
    refine ev_istore (i := 4) d_Mo_isTyped_37 rfl (by decide) rfl ?_
    refine ev_aload_n (i := 0) d_Mo_isTyped_39 rfl rfl rfl ?_
    refine ev_getR d_Mo_isTyped_40 rfl lk_Mo_61 lx_45 rfl ?_
    refine ev_aload_n (i := 0) d_Mo_isTyped_43 rfl rfl rfl ?_
    refine ev_getI (z := (S.length : Int)) d_Mo_isTyped_44 rfl lk_Mo_141 lx_45 rfl (by simp [g_up]) ?_
    refine ev_iaload (z := y) d_Mo_isTyped_47 rfl lx_63 (by omega) (by omega) ((q_pop2 hs1).1.2) ?_
    refine ev_istore (i := 5) d_Mo_isTyped_48 rfl (by decide) rfl ?_
    refine ev_aload_n (i := 0) d_Mo_isTyped_50 rfl rfl rfl ?_
    refine ev_getR d_Mo_isTyped_51 rfl lk_Mo_28 lx_45 rfl ?_
    refine ev_iload (i := 4) d_Mo_isTyped_54 rfl rfl ?_
    refine ev_iaload (z := M 52 x) d_Mo_isTyped_56 rfl lx_52 (by omega) (by omega) (hq1 52 _ (by decide) (by decide) (by omega)) ?_
    refine ev_istore (i := 6) d_Mo_isTyped_57 rfl (by decide) rfl ?_
    refine ev_iload (i := 6) d_Mo_isTyped_59 rfl rfl ?_
    refine ev_bipush d_Mo_isTyped_61 rfl (by decide +kernel) ⟨by decide, by decide⟩ ?_
    refine ev_icmp_ge (tgt := 96) d_Mo_isTyped_63 (by decide) rfl (fun c8 => ?_) (fun c8 => ?_)
    · refine ev_iload (i := 6) d_Mo_isTyped_96 rfl rfl ?_
      refine ev_bipush d_Mo_isTyped_98 rfl (by decide +kernel) ⟨by decide, by decide⟩ ?_
      refine ev_icmp_ge (tgt := 116) d_Mo_isTyped_100 (by decide) rfl (fun c16 => ?_) (fun c16 => ?_)
      · refine ev_aload_n (i := 0) d_Mo_isTyped_116 rfl rfl rfl ?_
        refine ev_getR d_Mo_isTyped_117 rfl lk_Mo_19 lx_45 rfl ?_
        refine ev_iload (i := 6) d_Mo_isTyped_120 rfl rfl ?_
        refine ev_bipush d_Mo_isTyped_122 rfl (by decide +kernel) ⟨by decide, by decide⟩ ?_
        refine ev_isub (z := (M 52 x) - 16) d_Mo_isTyped_124 rfl (g_w_id (by unfold g_rg; omega)) ?_
        refine ev_iaload (z := M 49 (M 52 x - 16).toNat) d_Mo_isTyped_125 rfl lx_49 (by omega) (by omega) (hq1 49 _ (by decide) (by decide) (by omega)) ?_
        refine ev_iload (i := 5) d_Mo_isTyped_126 rfl rfl ?_
        refine ev_icmp_eq (tgt := 133) d_Mo_isTyped_128 (by decide) rfl (fun c1 => ?_) (fun c1 => ?_)
        · have he : q_hy M x = y := by simp only [q_hy]; omega
          refine ev_iconst d_Mo_isTyped_133 rfl ⟨by decide, by decide⟩ ?_
          refine ev_istore (i := 7) d_Mo_isTyped_134 rfl (by decide) rfl ?_
          refine ev_wh (fun n2 ls2 M4 => ∃ k : Nat, k ≤ (q_w M x).toNat ∧ n2 = (q_w M x).toNat - k ∧ ls2 = [some (g_r 45), some (g_i (t : Int)), some (g_i u), some (g_i 0), some (g_i (x : Int)), some (g_i y), some (g_i (M 52 x)), some (g_i (k : Int))] ∧ q_s2 M4 (q_pt2 M x k ++ S) ∧ q_eq M M4) ?_ (n := (q_w M x).toNat) (⟨0, Nat.zero_le _, rfl, rfl, (q_pop2 hs1).2, hq1.tr (q_pe _ _)⟩)
          intro n2 ls2 M4 hP2 ih2
          obtain ⟨k, hk, hnk, rfl, hs4, hq4⟩ := hP2
          refine ev_iload (i := 7) d_Mo_isTyped_136 rfl rfl ?_
          refine ev_aload_n (i := 0) d_Mo_isTyped_138 rfl rfl rfl ?_
          refine ev_iload (i := 4) d_Mo_isTyped_139 rfl rfl ?_
          refine ev_callV (As := [g_i (x : Int)]) d_Mo_isTyped_141 rfl cl_Mo_144 (c_Mo_places_w (d + 1) M4 x (q_w M x).toNat (by omega) (by rw [hq4.fn (k := 52) (by decide) (by decide) (by decide)]; exact hx0) (by rw [hq4.fn (k := 52) (by decide) (by decide) (by decide)]; exact hx22) (by rw [q_w_eq hq4]; omega)) (g_hR (by decide)) g_h0 lx_45 rfl rfl (Nat.le_of_ble_eq_true rfl) rfl rfl ?_
          refine ev_icmp_ge (tgt := 209) d_Mo_isTyped_144 (by decide) rfl (fun hz2 => ?_) (fun hz2 => ?_)
          · refine ev_goto (tgt := 11) d_Mo_isTyped_209 (by decide) ?_
            have ek : k = (q_w M x).toNat := by omega
            subst ek
            refine ev_le (ih (q_m2 M (q_pt2 M x (q_w M x).toNat ++ S)) [some (g_r 45), some (g_i (t : Int)), some (g_i u), some (g_i 0), none, none, none, none] M4 (by omega) ⟨q_pt2 M x (q_w M x).toNat ++ S, rfl, hs4, hq4, ?_, rfl, by omega, ?_⟩) rfl ⟨rfl, rfl, rfl, rfl, trivial⟩
            · intro e he9; exact (List.mem_append.mp he9).elim (fun h => q_pt2_in hT hx _ (Nat.le_refl _) e h) (fun h => hy1 e (List.mem_cons_of_mem _ h))
            · rw [ha]; exact q_t_step hT hx he S
          · have h8 : 8 ≤ M 52 x := by have hwk : (k : Int) < q_w M x := (by omega); simp only [q_w] at hwk; omega
            refine ev_aload_n (i := 0) d_Mo_isTyped_147 rfl rfl rfl ?_
            refine ev_aload_n (i := 0) d_Mo_isTyped_148 rfl rfl rfl ?_
            refine ev_getR d_Mo_isTyped_149 rfl lk_Mo_31 lx_45 rfl ?_
            refine ev_iconst d_Mo_isTyped_152 rfl ⟨by decide, by decide⟩ ?_
            refine ev_iload (i := 4) d_Mo_isTyped_153 rfl rfl ?_
            refine ev_imul (z := 3 * (x : Int)) d_Mo_isTyped_155 rfl (g_w_id (by unfold g_rg; omega)) ?_
            refine ev_iload (i := 7) d_Mo_isTyped_156 rfl rfl ?_
            refine ev_iadd (z := 3 * (x : Int) + (k : Int)) d_Mo_isTyped_158 rfl (g_w_id (by unfold g_rg; omega)) ?_
            refine ev_iaload (z := ((M 53 (3 * x + k)).toNat : Int)) d_Mo_isTyped_159 rfl lx_53 (by omega) (by omega) (by rw [show (3 * (x : Int) + (k : Int)).toNat = 3 * x + k by omega, hq4 53 _ (by decide) (by decide) (by omega)]; have := hx5 k (by omega); omega) ?_
            refine ev_iload (i := 6) d_Mo_isTyped_160 rfl rfl ?_
            refine ev_bipush d_Mo_isTyped_162 rfl (by decide +kernel) ⟨by decide, by decide⟩ ?_
            refine ev_icmp_ge (tgt := 185) d_Mo_isTyped_164 (by decide) rfl (fun c17 => ?_) (fun c17 => ?_)
            · refine ev_aload_n (i := 0) d_Mo_isTyped_185 rfl rfl rfl ?_
              refine ev_getR d_Mo_isTyped_186 rfl lk_Mo_25 lx_45 rfl ?_
              refine ev_iconst d_Mo_isTyped_189 rfl ⟨by decide, by decide⟩ ?_
              refine ev_iload (i := 6) d_Mo_isTyped_190 rfl rfl ?_
              refine ev_bipush d_Mo_isTyped_192 rfl (by decide +kernel) ⟨by decide, by decide⟩ ?_
              refine ev_isub (z := (M 52 x) - 16) d_Mo_isTyped_194 rfl (g_w_id (by unfold g_rg; omega)) ?_
              refine ev_imul (z := 3 * ((M 52 x) - 16)) d_Mo_isTyped_195 rfl (g_w_id (by unfold g_rg; omega)) ?_
              refine ev_iload (i := 7) d_Mo_isTyped_196 rfl rfl ?_
              refine ev_iadd (z := (3 * ((M 52 x) - 16)) + (k : Int)) d_Mo_isTyped_198 rfl (g_w_id (by unfold g_rg; omega)) ?_
              refine ev_iaload (z := q_py M x k) d_Mo_isTyped_199 rfl lx_51 (by omega) (by omega) (by rw [show (3 * (M 52 x - 16) + (k : Int)).toNat = 3 * (M 52 x - 16).toNat + k by omega, hq4 51 _ (by decide) (by decide) (by omega)]; exact (if_neg (by omega)).symm) ?_
              refine ev_callV (As := [g_i (((M 53 (3 * x + k)).toNat : Int)), g_i (q_py M x k)]) d_Mo_isTyped_200 rfl cl_Mo_148 (c_Mo_push_n (d + 1) M4 (q_pt2 M x k ++ S).length ((M 53 (3 * x + k)).toNat : Int) (q_py M x k) hs4.1 (by rw [List.length_append, q_pt2_len]; omega)) (g_hR (by decide)) g_h0 lx_45 rfl rfl (Nat.le_of_ble_eq_true rfl) rfl rfl ?_
              refine ev_iinc (z := (k : Int) + 1) d_Mo_isTyped_203 rfl rfl (by decide) (g_w_id (by unfold g_rg; omega)) rfl ?_
              refine ev_goto (tgt := 136) d_Mo_isTyped_206 (by decide) ?_
              exact ih2 ((q_w M x).toNat - (k + 1)) _ _ (by omega) ⟨k + 1, by omega, rfl, rfl, q_push2 _ _ hs4, hq4.tr (q_up _ _ _ _ _)⟩
            · refine ev_aload_n (i := 0) d_Mo_isTyped_167 rfl rfl rfl ?_
              refine ev_getR d_Mo_isTyped_168 rfl lk_Mo_16 lx_45 rfl ?_
              refine ev_iconst d_Mo_isTyped_171 rfl ⟨by decide, by decide⟩ ?_
              refine ev_iload (i := 6) d_Mo_isTyped_172 rfl rfl ?_
              refine ev_bipush d_Mo_isTyped_174 rfl (by decide +kernel) ⟨by decide, by decide⟩ ?_
              refine ev_isub (z := (M 52 x) - 8) d_Mo_isTyped_176 rfl (g_w_id (by unfold g_rg; omega)) ?_
              refine ev_imul (z := 3 * ((M 52 x) - 8)) d_Mo_isTyped_177 rfl (g_w_id (by unfold g_rg; omega)) ?_
              refine ev_iload (i := 7) d_Mo_isTyped_178 rfl rfl ?_
              refine ev_iadd (z := (3 * ((M 52 x) - 8)) + (k : Int)) d_Mo_isTyped_180 rfl (g_w_id (by unfold g_rg; omega)) ?_
              refine ev_iaload (z := q_py M x k) d_Mo_isTyped_181 rfl lx_48 (by omega) (by omega) (by rw [show (3 * (M 52 x - 8) + (k : Int)).toNat = 3 * (M 52 x - 8).toNat + k by omega, hq4 48 _ (by decide) (by decide) (by omega)]; exact (if_pos (by omega)).symm) ?_
              refine ev_goto (tgt := 200) d_Mo_isTyped_182 (by decide) ?_
              refine ev_callV (As := [g_i (((M 53 (3 * x + k)).toNat : Int)), g_i (q_py M x k)]) d_Mo_isTyped_200 rfl cl_Mo_148 (c_Mo_push_n (d + 1) M4 (q_pt2 M x k ++ S).length ((M 53 (3 * x + k)).toNat : Int) (q_py M x k) hs4.1 (by rw [List.length_append, q_pt2_len]; omega)) (g_hR (by decide)) g_h0 lx_45 rfl rfl (Nat.le_of_ble_eq_true rfl) rfl rfl ?_
              refine ev_iinc (z := (k : Int) + 1) d_Mo_isTyped_203 rfl rfl (by decide) (g_w_id (by unfold g_rg; omega)) rfl ?_
              refine ev_goto (tgt := 136) d_Mo_isTyped_206 (by decide) ?_
              exact ih2 ((q_w M x).toNat - (k + 1)) _ _ (by omega) ⟨k + 1, by omega, rfl, rfl, q_push2 _ _ hs4, hq4.tr (q_up _ _ _ _ _)⟩
        · refine ev_iconst d_Mo_isTyped_131 rfl ⟨by decide, by decide⟩ ?_
          exact ev_retIR d_Mo_isTyped_132 (⟨by have hne : ¬ q_hy M x = y := (by simp only [q_hy]; omega); rw [ha, List.all_cons]; show some (g_i 0) = some (g_i (if (q_t M x y && _) = true then 1 else 0)); rw [q_t_eq hT hx, decide_eq_false hne]; rfl, hq1.tr (q_pe _ _)⟩) (Or.inr ⟨rfl, by omega⟩)
      · refine ev_aload_n (i := 0) d_Mo_isTyped_103 rfl rfl rfl ?_
        refine ev_getR d_Mo_isTyped_104 rfl lk_Mo_7 lx_45 rfl ?_
        refine ev_iload (i := 6) d_Mo_isTyped_107 rfl rfl ?_
        refine ev_bipush d_Mo_isTyped_109 rfl (by decide +kernel) ⟨by decide, by decide⟩ ?_
        refine ev_isub (z := (M 52 x) - 8) d_Mo_isTyped_111 rfl (g_w_id (by unfold g_rg; omega)) ?_
        refine ev_iaload (z := M 46 (M 52 x - 8).toNat) d_Mo_isTyped_112 rfl lx_46 (by omega) (by omega) (hq1 46 _ (by decide) (by decide) (by omega)) ?_
        refine ev_goto (tgt := 126) d_Mo_isTyped_113 (by decide) ?_
        refine ev_iload (i := 5) d_Mo_isTyped_126 rfl rfl ?_
        refine ev_icmp_eq (tgt := 133) d_Mo_isTyped_128 (by decide) rfl (fun c1 => ?_) (fun c1 => ?_)
        · have he : q_hy M x = y := by simp only [q_hy]; omega
          refine ev_iconst d_Mo_isTyped_133 rfl ⟨by decide, by decide⟩ ?_
          refine ev_istore (i := 7) d_Mo_isTyped_134 rfl (by decide) rfl ?_
          refine ev_wh (fun n2 ls2 M4 => ∃ k : Nat, k ≤ (q_w M x).toNat ∧ n2 = (q_w M x).toNat - k ∧ ls2 = [some (g_r 45), some (g_i (t : Int)), some (g_i u), some (g_i 0), some (g_i (x : Int)), some (g_i y), some (g_i (M 52 x)), some (g_i (k : Int))] ∧ q_s2 M4 (q_pt2 M x k ++ S) ∧ q_eq M M4) ?_ (n := (q_w M x).toNat) (⟨0, Nat.zero_le _, rfl, rfl, (q_pop2 hs1).2, hq1.tr (q_pe _ _)⟩)
          intro n2 ls2 M4 hP2 ih2
          obtain ⟨k, hk, hnk, rfl, hs4, hq4⟩ := hP2
          refine ev_iload (i := 7) d_Mo_isTyped_136 rfl rfl ?_
          refine ev_aload_n (i := 0) d_Mo_isTyped_138 rfl rfl rfl ?_
          refine ev_iload (i := 4) d_Mo_isTyped_139 rfl rfl ?_
          refine ev_callV (As := [g_i (x : Int)]) d_Mo_isTyped_141 rfl cl_Mo_144 (c_Mo_places_w (d + 1) M4 x (q_w M x).toNat (by omega) (by rw [hq4.fn (k := 52) (by decide) (by decide) (by decide)]; exact hx0) (by rw [hq4.fn (k := 52) (by decide) (by decide) (by decide)]; exact hx22) (by rw [q_w_eq hq4]; omega)) (g_hR (by decide)) g_h0 lx_45 rfl rfl (Nat.le_of_ble_eq_true rfl) rfl rfl ?_
          refine ev_icmp_ge (tgt := 209) d_Mo_isTyped_144 (by decide) rfl (fun hz2 => ?_) (fun hz2 => ?_)
          · refine ev_goto (tgt := 11) d_Mo_isTyped_209 (by decide) ?_
            have ek : k = (q_w M x).toNat := by omega
            subst ek
            refine ev_le (ih (q_m2 M (q_pt2 M x (q_w M x).toNat ++ S)) [some (g_r 45), some (g_i (t : Int)), some (g_i u), some (g_i 0), none, none, none, none] M4 (by omega) ⟨q_pt2 M x (q_w M x).toNat ++ S, rfl, hs4, hq4, ?_, rfl, by omega, ?_⟩) rfl ⟨rfl, rfl, rfl, rfl, trivial⟩
            · intro e he9; exact (List.mem_append.mp he9).elim (fun h => q_pt2_in hT hx _ (Nat.le_refl _) e h) (fun h => hy1 e (List.mem_cons_of_mem _ h))
            · rw [ha]; exact q_t_step hT hx he S
          · have h8 : 8 ≤ M 52 x := by have hwk : (k : Int) < q_w M x := (by omega); simp only [q_w] at hwk; omega
            refine ev_aload_n (i := 0) d_Mo_isTyped_147 rfl rfl rfl ?_
            refine ev_aload_n (i := 0) d_Mo_isTyped_148 rfl rfl rfl ?_
            refine ev_getR d_Mo_isTyped_149 rfl lk_Mo_31 lx_45 rfl ?_
            refine ev_iconst d_Mo_isTyped_152 rfl ⟨by decide, by decide⟩ ?_
            refine ev_iload (i := 4) d_Mo_isTyped_153 rfl rfl ?_
            refine ev_imul (z := 3 * (x : Int)) d_Mo_isTyped_155 rfl (g_w_id (by unfold g_rg; omega)) ?_
            refine ev_iload (i := 7) d_Mo_isTyped_156 rfl rfl ?_
            refine ev_iadd (z := 3 * (x : Int) + (k : Int)) d_Mo_isTyped_158 rfl (g_w_id (by unfold g_rg; omega)) ?_
            refine ev_iaload (z := ((M 53 (3 * x + k)).toNat : Int)) d_Mo_isTyped_159 rfl lx_53 (by omega) (by omega) (by rw [show (3 * (x : Int) + (k : Int)).toNat = 3 * x + k by omega, hq4 53 _ (by decide) (by decide) (by omega)]; have := hx5 k (by omega); omega) ?_
            refine ev_iload (i := 6) d_Mo_isTyped_160 rfl rfl ?_
            refine ev_bipush d_Mo_isTyped_162 rfl (by decide +kernel) ⟨by decide, by decide⟩ ?_
            refine ev_icmp_ge (tgt := 185) d_Mo_isTyped_164 (by decide) rfl (fun c17 => ?_) (fun c17 => ?_)
            · refine ev_aload_n (i := 0) d_Mo_isTyped_185 rfl rfl rfl ?_
              refine ev_getR d_Mo_isTyped_186 rfl lk_Mo_25 lx_45 rfl ?_
              refine ev_iconst d_Mo_isTyped_189 rfl ⟨by decide, by decide⟩ ?_
              refine ev_iload (i := 6) d_Mo_isTyped_190 rfl rfl ?_
              refine ev_bipush d_Mo_isTyped_192 rfl (by decide +kernel) ⟨by decide, by decide⟩ ?_
              refine ev_isub (z := (M 52 x) - 16) d_Mo_isTyped_194 rfl (g_w_id (by unfold g_rg; omega)) ?_
              refine ev_imul (z := 3 * ((M 52 x) - 16)) d_Mo_isTyped_195 rfl (g_w_id (by unfold g_rg; omega)) ?_
              refine ev_iload (i := 7) d_Mo_isTyped_196 rfl rfl ?_
              refine ev_iadd (z := (3 * ((M 52 x) - 16)) + (k : Int)) d_Mo_isTyped_198 rfl (g_w_id (by unfold g_rg; omega)) ?_
              refine ev_iaload (z := q_py M x k) d_Mo_isTyped_199 rfl lx_51 (by omega) (by omega) (by rw [show (3 * (M 52 x - 16) + (k : Int)).toNat = 3 * (M 52 x - 16).toNat + k by omega, hq4 51 _ (by decide) (by decide) (by omega)]; exact (if_neg (by omega)).symm) ?_
              refine ev_callV (As := [g_i (((M 53 (3 * x + k)).toNat : Int)), g_i (q_py M x k)]) d_Mo_isTyped_200 rfl cl_Mo_148 (c_Mo_push_n (d + 1) M4 (q_pt2 M x k ++ S).length ((M 53 (3 * x + k)).toNat : Int) (q_py M x k) hs4.1 (by rw [List.length_append, q_pt2_len]; omega)) (g_hR (by decide)) g_h0 lx_45 rfl rfl (Nat.le_of_ble_eq_true rfl) rfl rfl ?_
              refine ev_iinc (z := (k : Int) + 1) d_Mo_isTyped_203 rfl rfl (by decide) (g_w_id (by unfold g_rg; omega)) rfl ?_
              refine ev_goto (tgt := 136) d_Mo_isTyped_206 (by decide) ?_
              exact ih2 ((q_w M x).toNat - (k + 1)) _ _ (by omega) ⟨k + 1, by omega, rfl, rfl, q_push2 _ _ hs4, hq4.tr (q_up _ _ _ _ _)⟩
            · refine ev_aload_n (i := 0) d_Mo_isTyped_167 rfl rfl rfl ?_
              refine ev_getR d_Mo_isTyped_168 rfl lk_Mo_16 lx_45 rfl ?_
              refine ev_iconst d_Mo_isTyped_171 rfl ⟨by decide, by decide⟩ ?_
              refine ev_iload (i := 6) d_Mo_isTyped_172 rfl rfl ?_
              refine ev_bipush d_Mo_isTyped_174 rfl (by decide +kernel) ⟨by decide, by decide⟩ ?_
              refine ev_isub (z := (M 52 x) - 8) d_Mo_isTyped_176 rfl (g_w_id (by unfold g_rg; omega)) ?_
              refine ev_imul (z := 3 * ((M 52 x) - 8)) d_Mo_isTyped_177 rfl (g_w_id (by unfold g_rg; omega)) ?_
              refine ev_iload (i := 7) d_Mo_isTyped_178 rfl rfl ?_
              refine ev_iadd (z := (3 * ((M 52 x) - 8)) + (k : Int)) d_Mo_isTyped_180 rfl (g_w_id (by unfold g_rg; omega)) ?_
              refine ev_iaload (z := q_py M x k) d_Mo_isTyped_181 rfl lx_48 (by omega) (by omega) (by rw [show (3 * (M 52 x - 8) + (k : Int)).toNat = 3 * (M 52 x - 8).toNat + k by omega, hq4 48 _ (by decide) (by decide) (by omega)]; exact (if_pos (by omega)).symm) ?_
              refine ev_goto (tgt := 200) d_Mo_isTyped_182 (by decide) ?_
              refine ev_callV (As := [g_i (((M 53 (3 * x + k)).toNat : Int)), g_i (q_py M x k)]) d_Mo_isTyped_200 rfl cl_Mo_148 (c_Mo_push_n (d + 1) M4 (q_pt2 M x k ++ S).length ((M 53 (3 * x + k)).toNat : Int) (q_py M x k) hs4.1 (by rw [List.length_append, q_pt2_len]; omega)) (g_hR (by decide)) g_h0 lx_45 rfl rfl (Nat.le_of_ble_eq_true rfl) rfl rfl ?_
              refine ev_iinc (z := (k : Int) + 1) d_Mo_isTyped_203 rfl rfl (by decide) (g_w_id (by unfold g_rg; omega)) rfl ?_
              refine ev_goto (tgt := 136) d_Mo_isTyped_206 (by decide) ?_
              exact ih2 ((q_w M x).toNat - (k + 1)) _ _ (by omega) ⟨k + 1, by omega, rfl, rfl, q_push2 _ _ hs4, hq4.tr (q_up _ _ _ _ _)⟩
        · refine ev_iconst d_Mo_isTyped_131 rfl ⟨by decide, by decide⟩ ?_
          exact ev_retIR d_Mo_isTyped_132 (⟨by have hne : ¬ q_hy M x = y := (by simp only [q_hy]; omega); rw [ha, List.all_cons]; show some (g_i 0) = some (g_i (if (q_t M x y && _) = true then 1 else 0)); rw [q_t_eq hT hx, decide_eq_false hne]; rfl, hq1.tr (q_pe _ _)⟩) (Or.inr ⟨rfl, by omega⟩)
    · refine ev_iload_n (i := 3) d_Mo_isTyped_66 rfl rfl rfl ?_
      refine ev_if_eq_t (tgt := 82) d_Mo_isTyped_67 (by decide) (by decide) ?_
      refine ev_aload_n (i := 0) d_Mo_isTyped_82 rfl rfl rfl ?_
      refine ev_getR d_Mo_isTyped_83 rfl lk_Mo_68 lx_45 rfl ?_
      refine ev_iload (i := 6) d_Mo_isTyped_86 rfl rfl ?_
      refine ev_iaload (z := M 65 (M 52 x).toNat) d_Mo_isTyped_88 rfl lx_65 (by omega) (by omega) (hq1 65 _ (by decide) (by decide) (by omega)) ?_
      refine ev_iload (i := 5) d_Mo_isTyped_89 rfl rfl ?_
      refine ev_icmp_eq (tgt := 133) d_Mo_isTyped_91 (by decide) rfl (fun c1 => ?_) (fun c1 => ?_)
      · have he : q_hy M x = y := by simp only [q_hy]; omega
        refine ev_iconst d_Mo_isTyped_133 rfl ⟨by decide, by decide⟩ ?_
        refine ev_istore (i := 7) d_Mo_isTyped_134 rfl (by decide) rfl ?_
        refine ev_wh (fun n2 ls2 M4 => ∃ k : Nat, k ≤ (q_w M x).toNat ∧ n2 = (q_w M x).toNat - k ∧ ls2 = [some (g_r 45), some (g_i (t : Int)), some (g_i u), some (g_i 0), some (g_i (x : Int)), some (g_i y), some (g_i (M 52 x)), some (g_i (k : Int))] ∧ q_s2 M4 (q_pt2 M x k ++ S) ∧ q_eq M M4) ?_ (n := (q_w M x).toNat) (⟨0, Nat.zero_le _, rfl, rfl, (q_pop2 hs1).2, hq1.tr (q_pe _ _)⟩)
        intro n2 ls2 M4 hP2 ih2
        obtain ⟨k, hk, hnk, rfl, hs4, hq4⟩ := hP2
        refine ev_iload (i := 7) d_Mo_isTyped_136 rfl rfl ?_
        refine ev_aload_n (i := 0) d_Mo_isTyped_138 rfl rfl rfl ?_
        refine ev_iload (i := 4) d_Mo_isTyped_139 rfl rfl ?_
        refine ev_callV (As := [g_i (x : Int)]) d_Mo_isTyped_141 rfl cl_Mo_144 (c_Mo_places_w (d + 1) M4 x (q_w M x).toNat (by omega) (by rw [hq4.fn (k := 52) (by decide) (by decide) (by decide)]; exact hx0) (by rw [hq4.fn (k := 52) (by decide) (by decide) (by decide)]; exact hx22) (by rw [q_w_eq hq4]; omega)) (g_hR (by decide)) g_h0 lx_45 rfl rfl (Nat.le_of_ble_eq_true rfl) rfl rfl ?_
        refine ev_icmp_ge (tgt := 209) d_Mo_isTyped_144 (by decide) rfl (fun hz2 => ?_) (fun hz2 => ?_)
        · refine ev_goto (tgt := 11) d_Mo_isTyped_209 (by decide) ?_
          have ek : k = (q_w M x).toNat := by omega
          subst ek
          refine ev_le (ih (q_m2 M (q_pt2 M x (q_w M x).toNat ++ S)) [some (g_r 45), some (g_i (t : Int)), some (g_i u), some (g_i 0), none, none, none, none] M4 (by omega) ⟨q_pt2 M x (q_w M x).toNat ++ S, rfl, hs4, hq4, ?_, rfl, by omega, ?_⟩) rfl ⟨rfl, rfl, rfl, rfl, trivial⟩
          · intro e he9; exact (List.mem_append.mp he9).elim (fun h => q_pt2_in hT hx _ (Nat.le_refl _) e h) (fun h => hy1 e (List.mem_cons_of_mem _ h))
          · rw [ha]; exact q_t_step hT hx he S
        · have h8 : 8 ≤ M 52 x := by have hwk : (k : Int) < q_w M x := (by omega); simp only [q_w] at hwk; omega
          refine ev_aload_n (i := 0) d_Mo_isTyped_147 rfl rfl rfl ?_
          refine ev_aload_n (i := 0) d_Mo_isTyped_148 rfl rfl rfl ?_
          refine ev_getR d_Mo_isTyped_149 rfl lk_Mo_31 lx_45 rfl ?_
          refine ev_iconst d_Mo_isTyped_152 rfl ⟨by decide, by decide⟩ ?_
          refine ev_iload (i := 4) d_Mo_isTyped_153 rfl rfl ?_
          refine ev_imul (z := 3 * (x : Int)) d_Mo_isTyped_155 rfl (g_w_id (by unfold g_rg; omega)) ?_
          refine ev_iload (i := 7) d_Mo_isTyped_156 rfl rfl ?_
          refine ev_iadd (z := 3 * (x : Int) + (k : Int)) d_Mo_isTyped_158 rfl (g_w_id (by unfold g_rg; omega)) ?_
          refine ev_iaload (z := ((M 53 (3 * x + k)).toNat : Int)) d_Mo_isTyped_159 rfl lx_53 (by omega) (by omega) (by rw [show (3 * (x : Int) + (k : Int)).toNat = 3 * x + k by omega, hq4 53 _ (by decide) (by decide) (by omega)]; have := hx5 k (by omega); omega) ?_
          refine ev_iload (i := 6) d_Mo_isTyped_160 rfl rfl ?_
          refine ev_bipush d_Mo_isTyped_162 rfl (by decide +kernel) ⟨by decide, by decide⟩ ?_
          refine ev_icmp_ge (tgt := 185) d_Mo_isTyped_164 (by decide) rfl (fun c17 => ?_) (fun c17 => ?_)
          · refine ev_aload_n (i := 0) d_Mo_isTyped_185 rfl rfl rfl ?_
            refine ev_getR d_Mo_isTyped_186 rfl lk_Mo_25 lx_45 rfl ?_
            refine ev_iconst d_Mo_isTyped_189 rfl ⟨by decide, by decide⟩ ?_
            refine ev_iload (i := 6) d_Mo_isTyped_190 rfl rfl ?_
            refine ev_bipush d_Mo_isTyped_192 rfl (by decide +kernel) ⟨by decide, by decide⟩ ?_
            refine ev_isub (z := (M 52 x) - 16) d_Mo_isTyped_194 rfl (g_w_id (by unfold g_rg; omega)) ?_
            refine ev_imul (z := 3 * ((M 52 x) - 16)) d_Mo_isTyped_195 rfl (g_w_id (by unfold g_rg; omega)) ?_
            refine ev_iload (i := 7) d_Mo_isTyped_196 rfl rfl ?_
            refine ev_iadd (z := (3 * ((M 52 x) - 16)) + (k : Int)) d_Mo_isTyped_198 rfl (g_w_id (by unfold g_rg; omega)) ?_
            refine ev_iaload (z := q_py M x k) d_Mo_isTyped_199 rfl lx_51 (by omega) (by omega) (by rw [show (3 * (M 52 x - 16) + (k : Int)).toNat = 3 * (M 52 x - 16).toNat + k by omega, hq4 51 _ (by decide) (by decide) (by omega)]; exact (if_neg (by omega)).symm) ?_
            refine ev_callV (As := [g_i (((M 53 (3 * x + k)).toNat : Int)), g_i (q_py M x k)]) d_Mo_isTyped_200 rfl cl_Mo_148 (c_Mo_push_n (d + 1) M4 (q_pt2 M x k ++ S).length ((M 53 (3 * x + k)).toNat : Int) (q_py M x k) hs4.1 (by rw [List.length_append, q_pt2_len]; omega)) (g_hR (by decide)) g_h0 lx_45 rfl rfl (Nat.le_of_ble_eq_true rfl) rfl rfl ?_
            refine ev_iinc (z := (k : Int) + 1) d_Mo_isTyped_203 rfl rfl (by decide) (g_w_id (by unfold g_rg; omega)) rfl ?_
            refine ev_goto (tgt := 136) d_Mo_isTyped_206 (by decide) ?_
            exact ih2 ((q_w M x).toNat - (k + 1)) _ _ (by omega) ⟨k + 1, by omega, rfl, rfl, q_push2 _ _ hs4, hq4.tr (q_up _ _ _ _ _)⟩
          · refine ev_aload_n (i := 0) d_Mo_isTyped_167 rfl rfl rfl ?_
            refine ev_getR d_Mo_isTyped_168 rfl lk_Mo_16 lx_45 rfl ?_
            refine ev_iconst d_Mo_isTyped_171 rfl ⟨by decide, by decide⟩ ?_
            refine ev_iload (i := 6) d_Mo_isTyped_172 rfl rfl ?_
            refine ev_bipush d_Mo_isTyped_174 rfl (by decide +kernel) ⟨by decide, by decide⟩ ?_
            refine ev_isub (z := (M 52 x) - 8) d_Mo_isTyped_176 rfl (g_w_id (by unfold g_rg; omega)) ?_
            refine ev_imul (z := 3 * ((M 52 x) - 8)) d_Mo_isTyped_177 rfl (g_w_id (by unfold g_rg; omega)) ?_
            refine ev_iload (i := 7) d_Mo_isTyped_178 rfl rfl ?_
            refine ev_iadd (z := (3 * ((M 52 x) - 8)) + (k : Int)) d_Mo_isTyped_180 rfl (g_w_id (by unfold g_rg; omega)) ?_
            refine ev_iaload (z := q_py M x k) d_Mo_isTyped_181 rfl lx_48 (by omega) (by omega) (by rw [show (3 * (M 52 x - 8) + (k : Int)).toNat = 3 * (M 52 x - 8).toNat + k by omega, hq4 48 _ (by decide) (by decide) (by omega)]; exact (if_pos (by omega)).symm) ?_
            refine ev_goto (tgt := 200) d_Mo_isTyped_182 (by decide) ?_
            refine ev_callV (As := [g_i (((M 53 (3 * x + k)).toNat : Int)), g_i (q_py M x k)]) d_Mo_isTyped_200 rfl cl_Mo_148 (c_Mo_push_n (d + 1) M4 (q_pt2 M x k ++ S).length ((M 53 (3 * x + k)).toNat : Int) (q_py M x k) hs4.1 (by rw [List.length_append, q_pt2_len]; omega)) (g_hR (by decide)) g_h0 lx_45 rfl rfl (Nat.le_of_ble_eq_true rfl) rfl rfl ?_
            refine ev_iinc (z := (k : Int) + 1) d_Mo_isTyped_203 rfl rfl (by decide) (g_w_id (by unfold g_rg; omega)) rfl ?_
            refine ev_goto (tgt := 136) d_Mo_isTyped_206 (by decide) ?_
            exact ih2 ((q_w M x).toNat - (k + 1)) _ _ (by omega) ⟨k + 1, by omega, rfl, rfl, q_push2 _ _ hs4, hq4.tr (q_up _ _ _ _ _)⟩
      · refine ev_iconst d_Mo_isTyped_94 rfl ⟨by decide, by decide⟩ ?_
        exact ev_retIR d_Mo_isTyped_95 (⟨by have hne : ¬ q_hy M x = y := (by simp only [q_hy]; omega); rw [ha, List.all_cons]; show some (g_i 0) = some (g_i (if (q_t M x y && _) = true then 1 else 0)); rw [q_t_eq hT hx, decide_eq_false hne]; rfl, hq1.tr (q_pe _ _)⟩) (Or.inr ⟨rfl, by omega⟩)
