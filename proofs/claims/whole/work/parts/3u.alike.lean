theorem q_pre_pos (M : g_M) : ∀ f t, 1 ≤ (q_pre M f t).length
  | 0, _ => Nat.le_refl _
  | f + 1, t => by rw [q_pre, List.length_cons]; omega
theorem q_m2_len (M : g_M) : ∀ S : List (Nat × Int), S.length ≤ q_m2 M S
  | [] => Nat.le_refl _
  | e :: S => by
    have h1 := q_m2_len M S
    have h2 := q_pre_pos M e.1 e.1
    rw [List.length_cons, q_m2, List.map_cons, List.sum_cons]
    show S.length + 1 ≤ (q_pre M e.1 e.1).length + q_m2 M S
    omega
theorem q_m2_cons {M : g_M} (hT : q_T M) {x : Nat} (hx : (x : Int) < M 45 8) (y : Int) (z : Nat) (S : List (Nat × Int)) : q_m2 M ((x, y) :: S) = q_m2 M (q_ps M x z (q_w M x).toNat ++ S) + 1 := by
  rw [q_m2_app, q_ps_kids, q_m2, List.map_cons, List.sum_cons]
  show (q_pl M x).length + q_m2 M S = _
  rw [q_pl_eq hT hx, List.length_cons]
  omega
theorem q_ps_in {M : g_M} (hT : q_T M) {x y : Nat} (hx : (x : Int) < M 45 8) (hy : (y : Int) < M 45 8) (he : M 52 x = M 52 y) : ∀ k, k ≤ (q_w M x).toNat → ∀ e ∈ q_ps M x y k, (e.1 : Int) < M 45 8 ∧ 0 ≤ e.2 ∧ e.2 < M 45 8
  | 0, _, e, h => by simp [q_ps] at h
  | k + 1, hk, e, h => by
    obtain ⟨-, -, h3, h4, h5, -, -⟩ := hT.2.2 x hx
    obtain ⟨-, -, g3, g4, g5, -, -⟩ := hT.2.2 y hy
    have hw : q_w M y = q_w M x := by simp only [q_w, he]
    rw [q_ps] at h
    rcases List.mem_cons.mp h with rfl | h
    · have a1 := h5 k (by omega)
      have a2 := g5 k (by omega)
      exact ⟨by show (((M 53 (3 * x + k)).toNat : Nat) : Int) < _; omega, a2.1, by show M 53 (3 * y + k) < _; omega⟩
    · exact q_ps_in hT hx hy he k (by omega) e h
theorem q_a_step {M : g_M} (hT : q_T M) {x y : Nat} (hx : (x : Int) < M 45 8) (he : M 52 x = M 52 y) (S : List (Nat × Int)) : (((x, (y : Int)) :: S : List (Nat × Int)).all (fun e => q_a M e.1 e.2.toNat)) = (q_ps M x y (q_w M x).toNat ++ S).all (fun e => q_a M e.1 e.2.toNat) := by
  rw [List.all_cons, List.all_append, q_ps_all M x y (fun a b => q_a M a b.toNat)]
  show (q_a M x y && _) = _
  rw [q_a_eq hT hx, decide_eq_true he, Bool.true_and]
theorem c_Mo_alike (d : Nat) (M : g_M) (s t : Nat) (hT : q_T M) (hs : (s : Int) < M 45 8) (ht : (t : Int) < M 45 8) : ConR y_Mo_alike w_Mo_alike (g_rm (d + 2)) LX M [g_r 45, g_i (s : Int), g_i (t : Int)] LX (fun M2 v2 => v2 = some (g_i (if q_a M s t = true then 1 else 0)) ∧ q_eq M M2) := by
  refine con_ofR (av := [g_r 45, g_i (s : Int), g_i (t : Int)]) (ls0 := [some (g_r 45), some (g_i (s : Int)), some (g_i (t : Int)), none, none, none]) (by decide) rfl (Nat.le_of_ble_eq_true rfl) (g_hls (av := [g_r 45, g_i (s : Int), g_i (t : Int)]) (k := 3)) (fun _ h9 => List.mem_cons_of_mem _ h9) ?_
  refine ev_aload_n (i := 0) d_Mo_alike_0 rfl rfl rfl ?_
  refine ev_iconst d_Mo_alike_1 rfl ⟨by decide, by decide⟩ ?_
  refine ev_putI d_Mo_alike_2 rfl lk_Mo_141 fp_Mo_22 (Or.inl rfl) lx_45 rfl ?_
  refine ev_aload_n (i := 0) d_Mo_alike_5 rfl rfl rfl ?_
  refine ev_iload_n (i := 1) d_Mo_alike_6 rfl rfl rfl ?_
  refine ev_iload_n (i := 2) d_Mo_alike_7 rfl rfl rfl ?_
  refine ev_callV (As := [g_i (s : Int), g_i (t : Int)]) d_Mo_alike_8 rfl cl_Mo_148 (c_Mo_push_n (d + 1) (g_up M 45 22 0) 0 (s : Int) (t : Int) (by simp [g_up]) (by decide)) (g_hR (by decide)) g_h0 lx_45 rfl rfl (Nat.le_of_ble_eq_true rfl) rfl rfl ?_
  refine ev_wh (fun n ls1 M1 => ∃ S0 : List (Nat × Int), ls1 = [some (g_r 45), some (g_i (s : Int)), some (g_i (t : Int)), none, none, none] ∧ q_s2 M1 S0 ∧ q_eq M M1 ∧ (∀ e ∈ S0, (e.1 : Int) < M 45 8 ∧ 0 ≤ e.2 ∧ e.2 < M 45 8) ∧ n = q_m2 M S0 ∧ n ≤ 40 ∧ q_a M s t = S0.all (fun e => q_a M e.1 e.2.toNat)) ?_ (n := _) (⟨[(s, (t : Int))], rfl, q_push2 s (t : Int) (q_nil2 (by simp [g_up])), (q_pe _ _).tr (q_up _ _ _ _ _), fun e he => by simp at he; subst he; exact ⟨hs, by show (0 : Int) ≤ (t : Int); omega, ht⟩, rfl, by simp [q_m2]; have := q_pl_len hT s hs; have := (hT.2.2 s hs).2.2.2.2.2.1; omega, by simp⟩)
  intro n ls1 M1 hP ih
  obtain ⟨S0, rfl, hs1, hq1, hy1, hn, hn40, ha⟩ := hP
  refine ev_aload_n (i := 0) d_Mo_alike_11 rfl rfl rfl ?_
  refine ev_getI (z := (S0.length : Int)) d_Mo_alike_12 rfl lk_Mo_141 lx_45 rfl (hs1.1) ?_
  refine ev_if_le (tgt := 116) d_Mo_alike_15 (by decide) rfl (fun hz => ?_) (fun hz => ?_)
  · refine ev_iconst d_Mo_alike_116 rfl ⟨by decide, by decide⟩ ?_
    exact ev_retIR d_Mo_alike_117 (by have e := q_em2 hz; subst e; exact ⟨by rw [ha]; rfl, hq1⟩) (Or.inr ⟨rfl, by omega⟩)
  · obtain ⟨x, y0, S, rfl⟩ := q_ne2 hz
    have hxy := hy1 (x, y0) List.mem_cons_self
    obtain ⟨y, rfl⟩ := Int.eq_ofNat_of_zero_le hxy.2.1
    have hx : (x : Int) < M 45 8 := hxy.1
    have hy : (y : Int) < M 45 8 := hxy.2.2
    have hlen := q_m2_len M ((x, (y : Int)) :: S)
    rw [List.length_cons] at hlen
    have hnt := hT.2.1
    obtain ⟨hx0, hx22, hx3, hx4, hx5, -⟩ := hT.2.2 x hx
    have hm2 := q_m2_cons hT hx (y : Int) y S
    refine ev_aload_n (i := 0) d_Mo_alike_18 rfl rfl rfl ?_
    refine ev_dup d_Mo_alike_19 rfl rfl ?_
    refine ev_getI (z := (S.length : Int) + 1) d_Mo_alike_20 rfl lk_Mo_141 lx_45 rfl (by rw [hs1.1, List.length_cons]; omega) ?_
    refine ev_iconst d_Mo_alike_23 rfl ⟨by decide, by decide⟩ ?_
    refine ev_isub (z := (S.length : Int)) d_Mo_alike_24 rfl (by rw [g_w_id (by unfold g_rg; omega)]; omega) ?_
    refine ev_putI d_Mo_alike_25 rfl lk_Mo_141 fp_Mo_22 (Or.inl rfl) lx_45 rfl ?_
    refine ev_aload_n (i := 0) d_Mo_alike_28 rfl rfl rfl ?_
    refine ev_getR d_Mo_alike_29 rfl lk_Mo_58 lx_45 rfl ?_
    refine ev_aload_n (i := 0) d_Mo_alike_32 rfl rfl rfl ?_
    refine ev_getI (z := (S.length : Int)) d_Mo_alike_33 rfl lk_Mo_141 lx_45 rfl (by simp [g_up]) ?_
    refine ev_iaload (z := (x : Int)) d_Mo_alike_36 rfl lx_62 (by omega) (by omega) ((q_pop2 hs1).1.1) ?_
    refine ev_istore_n (i := 3) d_Mo_alike_37 rfl rfl (by decide) rfl ?_
    refine ev_aload_n (i := 0) d_Mo_alike_38 rfl rfl rfl ?_
    refine ev_getR d_Mo_alike_39 rfl lk_Mo_61 lx_45 rfl ?_
    refine ev_aload_n (i := 0) d_Mo_alike_42 rfl rfl rfl ?_
    refine ev_getI (z := (S.length : Int)) d_Mo_alike_43 rfl lk_Mo_141 lx_45 rfl (by simp [g_up]) ?_
    refine ev_iaload (z := (y : Int)) d_Mo_alike_46 rfl lx_63 (by omega) (by omega) ((q_pop2 hs1).1.2) ?_
    refine ev_istore (i := 4) d_Mo_alike_47 rfl (by decide) rfl ?_
    refine ev_aload_n (i := 0) d_Mo_alike_49 rfl rfl rfl ?_
    refine ev_getR d_Mo_alike_50 rfl lk_Mo_28 lx_45 rfl ?_
    refine ev_iload_n (i := 3) d_Mo_alike_53 rfl rfl rfl ?_
    refine ev_iaload (z := M 52 x) d_Mo_alike_54 rfl lx_52 (by omega) (by omega) (hq1 52 _ (by decide) (by decide) (by omega)) ?_
    refine ev_aload_n (i := 0) d_Mo_alike_55 rfl rfl rfl ?_
    refine ev_getR d_Mo_alike_56 rfl lk_Mo_28 lx_45 rfl ?_
    refine ev_iload (i := 4) d_Mo_alike_59 rfl rfl ?_
    refine ev_iaload (z := M 52 y) d_Mo_alike_61 rfl lx_52 (by omega) (by omega) (hq1 52 _ (by decide) (by decide) (by omega)) ?_
    refine ev_icmp_eq (tgt := 67) d_Mo_alike_62 (by decide) rfl (fun c1 => ?_) (fun c1 => ?_)
    · refine ev_iconst d_Mo_alike_67 rfl ⟨by decide, by decide⟩ ?_
      refine ev_istore (i := 5) d_Mo_alike_68 rfl (by decide) rfl ?_
      refine ev_wh (fun n2 ls2 M4 => ∃ k : Nat, k ≤ (q_w M x).toNat ∧ n2 = (q_w M x).toNat - k ∧ ls2 = [some (g_r 45), some (g_i (s : Int)), some (g_i (t : Int)), some (g_i (x : Int)), some (g_i (y : Int)), some (g_i (k : Int))] ∧ q_s2 M4 (q_ps M x y k ++ S) ∧ q_eq M M4) ?_ (n := (q_w M x).toNat) (⟨0, Nat.zero_le _, rfl, rfl, (q_pop2 hs1).2, hq1.tr (q_pe _ _)⟩)
      intro n2 ls2 M4 hP2 ih2
      obtain ⟨k, hk, hnk, rfl, hs4, hq4⟩ := hP2
      refine ev_iload (i := 5) d_Mo_alike_70 rfl rfl ?_
      refine ev_aload_n (i := 0) d_Mo_alike_72 rfl rfl rfl ?_
      refine ev_iload_n (i := 3) d_Mo_alike_73 rfl rfl rfl ?_
      refine ev_callV (As := [g_i (x : Int)]) d_Mo_alike_74 rfl cl_Mo_144 (c_Mo_places_w (d + 1) M4 x (q_w M x).toNat (by omega) (by rw [hq4.fn (k := 52) (by decide) (by decide) (by decide)]; exact hx0) (by rw [hq4.fn (k := 52) (by decide) (by decide) (by decide)]; exact hx22) (by rw [q_w_eq hq4]; omega)) (g_hR (by decide)) g_h0 lx_45 rfl rfl (Nat.le_of_ble_eq_true rfl) rfl rfl ?_
      refine ev_icmp_ge (tgt := 113) d_Mo_alike_77 (by decide) rfl (fun hz2 => ?_) (fun hz2 => ?_)
      · refine ev_goto (tgt := 11) d_Mo_alike_113 (by decide) ?_
        have ek : k = (q_w M x).toNat := by omega
        subst ek
        refine ev_le (ih (q_m2 M (q_ps M x y (q_w M x).toNat ++ S)) [some (g_r 45), some (g_i (s : Int)), some (g_i (t : Int)), none, none, none] M4 (by omega) ⟨q_ps M x y (q_w M x).toNat ++ S, rfl, hs4, hq4, ?_, rfl, by omega, ?_⟩) rfl ⟨rfl, rfl, rfl, trivial⟩
        · intro e he; exact (List.mem_append.mp he).elim (fun h => q_ps_in hT hx hy c1 _ (Nat.le_refl _) e h) (fun h => hy1 e (List.mem_cons_of_mem _ h))
        · rw [ha]; exact q_a_step hT hx c1 S
      · refine ev_aload_n (i := 0) d_Mo_alike_80 rfl rfl rfl ?_
        refine ev_aload_n (i := 0) d_Mo_alike_81 rfl rfl rfl ?_
        refine ev_getR d_Mo_alike_82 rfl lk_Mo_31 lx_45 rfl ?_
        refine ev_iconst d_Mo_alike_85 rfl ⟨by decide, by decide⟩ ?_
        refine ev_iload_n (i := 3) d_Mo_alike_86 rfl rfl rfl ?_
        refine ev_imul (z := 3 * (x : Int)) d_Mo_alike_87 rfl (g_w_id (by unfold g_rg; omega)) ?_
        refine ev_iload (i := 5) d_Mo_alike_88 rfl rfl ?_
        refine ev_iadd (z := 3 * (x : Int) + (k : Int)) d_Mo_alike_90 rfl (g_w_id (by unfold g_rg; omega)) ?_
        refine ev_iaload (z := ((M 53 (3 * x + k)).toNat : Int)) d_Mo_alike_91 rfl lx_53 (by omega) (by omega) (by rw [show (3 * (x : Int) + (k : Int)).toNat = 3 * x + k by omega, hq4 53 _ (by decide) (by decide) (by omega)]; have := hx5 k (by omega); omega) ?_
        refine ev_aload_n (i := 0) d_Mo_alike_92 rfl rfl rfl ?_
        refine ev_getR d_Mo_alike_93 rfl lk_Mo_31 lx_45 rfl ?_
        refine ev_iconst d_Mo_alike_96 rfl ⟨by decide, by decide⟩ ?_
        refine ev_iload (i := 4) d_Mo_alike_97 rfl rfl ?_
        refine ev_imul (z := 3 * (y : Int)) d_Mo_alike_99 rfl (g_w_id (by unfold g_rg; omega)) ?_
        refine ev_iload (i := 5) d_Mo_alike_100 rfl rfl ?_
        refine ev_iadd (z := 3 * (y : Int) + (k : Int)) d_Mo_alike_102 rfl (g_w_id (by unfold g_rg; omega)) ?_
        refine ev_iaload (z := M 53 (3 * y + k)) d_Mo_alike_103 rfl lx_53 (by omega) (by omega) (by rw [show (3 * (y : Int) + (k : Int)).toNat = 3 * y + k by omega]; exact hq4 53 _ (by decide) (by decide) (by omega)) ?_
        refine ev_callV (As := [g_i (((M 53 (3 * x + k)).toNat : Int)), g_i (M 53 (3 * y + k))]) d_Mo_alike_104 rfl cl_Mo_148 (c_Mo_push_n (d + 1) M4 (q_ps M x y k ++ S).length ((M 53 (3 * x + k)).toNat : Int) (M 53 (3 * y + k)) hs4.1 (by rw [List.length_append, q_ps_len]; omega)) (g_hR (by decide)) g_h0 lx_45 rfl rfl (Nat.le_of_ble_eq_true rfl) rfl rfl ?_
        refine ev_iinc (z := (k : Int) + 1) d_Mo_alike_107 rfl rfl (by decide) (g_w_id (by unfold g_rg; omega)) rfl ?_
        refine ev_goto (tgt := 70) d_Mo_alike_110 (by decide) ?_
        exact ih2 ((q_w M x).toNat - (k + 1)) _ _ (by omega) ⟨k + 1, by omega, rfl, rfl, q_push2 _ _ hs4, hq4.tr (q_up _ _ _ _ _)⟩
    · refine ev_iconst d_Mo_alike_65 rfl ⟨by decide, by decide⟩ ?_
      exact ev_retIR d_Mo_alike_66 (⟨by rw [ha, List.all_cons]; show some (g_i 0) = some (g_i (if (q_a M x y && _) = true then 1 else 0)); rw [q_a_eq hT hx, decide_eq_false c1]; rfl, hq1.tr (q_pe _ _)⟩) (Or.inr ⟨rfl, by omega⟩)
