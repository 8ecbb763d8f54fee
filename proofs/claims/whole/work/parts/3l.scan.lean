theorem q_w_eq {M M2 : g_M} (h : q_eq M M2) (t : Nat) : q_w M2 t = q_w M t := by
  simp only [q_w]
  rw [h.fn (k := 52) (by decide) (by decide) (by decide), h.fn (k := 47) (by decide) (by decide) (by decide), h.fn (k := 50) (by decide) (by decide) (by decide)]
theorem q_ks_eq {M M2 : g_M} (h : q_eq M M2) (t w k : Nat) : q_ks M2 t w k = q_ks M t w k := by
  simp only [q_ks]
  rw [h.fn (k := 53) (by decide) (by decide) (by decide)]
theorem c_Mo_below (d : Nat) (M M1 : g_M) (x : Nat) (S : List Nat) (hT : q_T M) (hq : q_eq M M1) (hS : q_st M1 S) (hx : (x : Int) < M 45 8) (hl : S.length ≤ 100) : ConR y_Mo_pushBelow w_Mo_pushBelow (g_rm (d + 1)) LX M1 [g_r 45, g_i (x : Int)] LX (fun M2 v2 => v2 = none ∧ q_st M2 (q_kids M x ++ S) ∧ q_eq M M2) := by
  obtain ⟨h1, h2, h3, h4, h5, -, -⟩ := hT.2.2 x hx
  have e52 := hq.fn (k := 52) (by decide) (by decide) (by decide)
  have e53 := hq.fn (k := 53) (by decide) (by decide) (by decide)
  have hw : q_w M1 x = ((q_w M x).toNat : Nat) := by rw [q_w_eq hq]; omega
  refine (c_Mo_pushBelow d M1 x (q_w M x).toNat S (by have := hT.2.1; omega) (by rw [e52]; exact h1) (by rw [e52]; exact h2) hw (by omega) (fun k hk => by rw [e53]; exact (h5 k (by omega)).1) hS (by omega)).mono ?_
  intro M2 v2 h
  refine ⟨h.1, ?_, hq.tr h.2.2⟩
  have := h.2.1
  rw [q_ks_eq hq] at this
  exact this
theorem q_ne {S0 : List Nat} (h : ¬ (S0.length : Int) ≤ 0) : ∃ x S, S0 = x :: S := by
  cases S0 with
  | nil => simp at h
  | cons x S => exact ⟨x, S, rfl⟩
theorem q_em {S0 : List Nat} (h : (S0.length : Int) ≤ 0) : S0 = [] := List.length_eq_zero_iff.mp (by omega)
theorem c_Mo_isClosed (d : Nat) (M : g_M) (t : Nat) (hT : q_T M) (ht : (t : Int) < M 45 8) : ConR y_Mo_isClosed w_Mo_isClosed (g_rm (d + 2)) LX M [g_r 45, g_i (t : Int)] LX (fun M2 v2 => v2 = some (g_i (if (q_pl M t).all (fun x => decide (8 ≤ M 52 x ∧ M 52 x < 16)) = true then 1 else 0)) ∧ q_eq M M2) := by
  refine con_ofR (av := [g_r 45, g_i (t : Int)]) (ls0 := [some (g_r 45), some (g_i (t : Int)), none]) (by decide) rfl (Nat.le_of_ble_eq_true rfl) (g_hls (av := [g_r 45, g_i (t : Int)]) (k := 1)) (fun _ h9 => List.mem_cons_of_mem _ h9) ?_
  refine ev_aload_n (i := 0) d_Mo_isClosed_0 rfl rfl rfl ?_
  refine ev_iconst d_Mo_isClosed_1 rfl ⟨by decide, by decide⟩ ?_
  refine ev_putI d_Mo_isClosed_2 rfl lk_Mo_141 fp_Mo_22 (Or.inl rfl) lx_45 rfl ?_
  refine ev_aload_n (i := 0) d_Mo_isClosed_5 rfl rfl rfl ?_
  refine ev_iload_n (i := 1) d_Mo_isClosed_6 rfl rfl rfl ?_
  refine ev_iconst d_Mo_isClosed_7 rfl ⟨by decide, by decide⟩ ?_
  refine ev_callV (As := [g_i (t : Int), g_i 0]) d_Mo_isClosed_8 rfl cl_Mo_148 (c_Mo_push (d + 1) (g_up M 45 22 0) [] (t : Int) 0 (q_nil (by simp [g_up])) (by decide)) (g_hR (by decide)) g_h0 lx_45 rfl rfl (Nat.le_of_ble_eq_true rfl) rfl rfl ?_
  refine ev_wh (fun n ls1 M1 => ∃ S0 : List Nat, ls1 = [some (g_r 45), some (g_i (t : Int)), none] ∧ q_st M1 S0 ∧ q_eq M M1 ∧ (∀ y ∈ S0, (y : Int) < M 45 8) ∧ n = (S0.flatMap (q_pl M)).length ∧ n ≤ 40 ∧ (q_pl M t).all (fun x => decide (8 ≤ M 52 x ∧ M 52 x < 16)) = (S0.flatMap (q_pl M)).all (fun x => decide (8 ≤ M 52 x ∧ M 52 x < 16))) ?_ (n := _) (⟨[t], rfl, q_push t 0 (q_nil (by simp [g_up])), (q_pe _ _).tr (q_up _ _ _ _ _), fun y hy => by simp at hy; rw [hy]; exact ht, rfl, by simp; have := q_pl_len hT t ht; have := (hT.2.2 t ht).2.2.2.2.2.1; omega, by simp⟩)
  intro n ls1 M1 hP ih
  obtain ⟨S0, rfl, hs1, hq1, hy1, hn, hn40, ha⟩ := hP
  refine ev_aload_n (i := 0) d_Mo_isClosed_11 rfl rfl rfl ?_
  refine ev_getI (z := (S0.length : Int)) d_Mo_isClosed_12 rfl lk_Mo_141 lx_45 rfl (hs1.1) ?_
  refine ev_if_le (tgt := 70) d_Mo_isClosed_15 (by decide) rfl (fun hz => ?_) (fun hz => ?_)
  · refine ev_iconst d_Mo_isClosed_70 rfl ⟨by decide, by decide⟩ ?_
    exact ev_retIR d_Mo_isClosed_71 (by have e := q_em hz; subst e; exact ⟨by rw [if_pos (by rw [ha]; rfl)], hq1⟩) (Or.inr ⟨rfl, by omega⟩)
  · obtain ⟨x, S, rfl⟩ := q_ne hz
    have hx : (x : Int) < M 45 8 := hy1 x List.mem_cons_self
    have hst := q_step hT (S := S) hx
    have hlen := q_st_len hT _ hy1
    rw [List.length_cons] at hlen
    have hnt := hT.2.1
    obtain ⟨hx0, hx22, -⟩ := hT.2.2 x hx
    have hn2 : n = ((q_kids M x ++ S).flatMap (q_pl M)).length + 1 := by rw [hn, hst, List.length_cons]
    have hy2 : ∀ y ∈ q_kids M x ++ S, (y : Int) < M 45 8 := by
      intro y hy
      rcases List.mem_append.mp hy with h | h
      · have := q_kid_lt hT hx y h; omega
      · exact hy1 y (List.mem_cons_of_mem _ h)
    refine ev_aload_n (i := 0) d_Mo_isClosed_18 rfl rfl rfl ?_
    refine ev_dup d_Mo_isClosed_19 rfl rfl ?_
    refine ev_getI (z := (S.length : Int) + 1) d_Mo_isClosed_20 rfl lk_Mo_141 lx_45 rfl (by rw [hs1.1, List.length_cons]; omega) ?_
    refine ev_iconst d_Mo_isClosed_23 rfl ⟨by decide, by decide⟩ ?_
    refine ev_isub (z := (S.length : Int)) d_Mo_isClosed_24 rfl (by rw [g_w_id (by unfold g_rg; omega)]; omega) ?_
    refine ev_putI d_Mo_isClosed_25 rfl lk_Mo_141 fp_Mo_22 (Or.inl rfl) lx_45 rfl ?_
    refine ev_aload_n (i := 0) d_Mo_isClosed_28 rfl rfl rfl ?_
    refine ev_getR d_Mo_isClosed_29 rfl lk_Mo_58 lx_45 rfl ?_
    refine ev_aload_n (i := 0) d_Mo_isClosed_32 rfl rfl rfl ?_
    refine ev_getI (z := (S.length : Int)) d_Mo_isClosed_33 rfl lk_Mo_141 lx_45 rfl (by simp [g_up]) ?_
    refine ev_iaload (z := (x : Int)) d_Mo_isClosed_36 rfl lx_62 (by omega) (by omega) ((q_pop hs1).1) ?_
    refine ev_istore_n (i := 2) d_Mo_isClosed_37 rfl rfl (by decide) rfl ?_
    refine ev_aload_n (i := 0) d_Mo_isClosed_38 rfl rfl rfl ?_
    refine ev_getR d_Mo_isClosed_39 rfl lk_Mo_28 lx_45 rfl ?_
    refine ev_iload_n (i := 2) d_Mo_isClosed_42 rfl rfl rfl ?_
    refine ev_iaload (z := M 52 x) d_Mo_isClosed_43 rfl lx_52 (by omega) (by omega) (hq1 52 _ (by decide) (by decide) (by omega)) ?_
    refine ev_bipush d_Mo_isClosed_44 rfl (by decide +kernel) ⟨by decide, by decide⟩ ?_
    refine ev_icmp_lt (tgt := 60) d_Mo_isClosed_46 (by decide) rfl (fun c1 => ?_) (fun c1 => ?_)
    · refine ev_iconst d_Mo_isClosed_60 rfl ⟨by decide, by decide⟩ ?_
      exact ev_retIR d_Mo_isClosed_61 (by have hpx : decide (8 ≤ M 52 x ∧ M 52 x < 16) = false := decide_eq_false (by omega); exact ⟨by rw [if_neg (by rw [ha, hst, List.all_cons, hpx]; simp)], hq1.tr (q_pe _ _)⟩) (Or.inr ⟨rfl, by omega⟩)
    · refine ev_aload_n (i := 0) d_Mo_isClosed_49 rfl rfl rfl ?_
      refine ev_getR d_Mo_isClosed_50 rfl lk_Mo_28 lx_45 rfl ?_
      refine ev_iload_n (i := 2) d_Mo_isClosed_53 rfl rfl rfl ?_
      refine ev_iaload (z := M 52 x) d_Mo_isClosed_54 rfl lx_52 (by omega) (by omega) (hq1 52 _ (by decide) (by decide) (by omega)) ?_
      refine ev_bipush d_Mo_isClosed_55 rfl (by decide +kernel) ⟨by decide, by decide⟩ ?_
      refine ev_icmp_lt (tgt := 62) d_Mo_isClosed_57 (by decide) rfl (fun c2 => ?_) (fun c2 => ?_)
      · have hpx : decide (8 ≤ M 52 x ∧ M 52 x < 16) = true := decide_eq_true (by omega)
        refine ev_aload_n (i := 0) d_Mo_isClosed_62 rfl rfl rfl ?_
        refine ev_iload_n (i := 2) d_Mo_isClosed_63 rfl rfl rfl ?_
        refine ev_callVR (As := [g_i ((x : Int))]) d_Mo_isClosed_64 rfl cl_Mo_152 (c_Mo_below (d + 0) M (g_up M1 45 22 (S.length : Int)) x S hT (hq1.tr (q_pe _ _)) (q_pop hs1).2 hx (by omega)) (g_hR (by decide)) g_h0 lx_45 rfl rfl (Nat.le_of_ble_eq_true rfl) rfl rfl (fun M3 v9 g9 => ?_)
        obtain ⟨rfl, hs2, hq2⟩ := g9
        refine ev_goto (tgt := 11) d_Mo_isClosed_67 (by decide) ?_
        refine ev_le (ih _ [some (g_r 45), some (g_i (t : Int)), none] M3 ?_ ⟨q_kids M x ++ S, rfl, hs2, hq2, hy2, rfl, by omega, ?_⟩) rfl ⟨rfl, rfl, trivial⟩
        · omega
        · rw [ha, hst, List.all_cons, hpx, Bool.true_and]
      · refine ev_iconst d_Mo_isClosed_60 rfl ⟨by decide, by decide⟩ ?_
        exact ev_retIR d_Mo_isClosed_61 (by have hpx : decide (8 ≤ M 52 x ∧ M 52 x < 16) = false := decide_eq_false (by omega); exact ⟨by rw [if_neg (by rw [ha, hst, List.all_cons, hpx]; simp)], hq1.tr (q_pe _ _)⟩) (Or.inr ⟨rfl, by omega⟩)
theorem c_Mo_isBody (d : Nat) (M : g_M) (t : Nat) (hT : q_T M) (ht : (t : Int) < M 45 8) : ConR y_Mo_isBody w_Mo_isBody (g_rm (d + 2)) LX M [g_r 45, g_i (t : Int)] LX (fun M2 v2 => v2 = some (g_i (if (q_pl M t).all (fun x => decide (8 ≤ M 52 x ∨ M 64 (M 52 x).toNat ≠ 0)) = true then 1 else 0)) ∧ q_eq M M2) := by
  refine con_ofR (av := [g_r 45, g_i (t : Int)]) (ls0 := [some (g_r 45), some (g_i (t : Int)), none]) (by decide) rfl (Nat.le_of_ble_eq_true rfl) (g_hls (av := [g_r 45, g_i (t : Int)]) (k := 1)) (fun _ h9 => List.mem_cons_of_mem _ h9) ?_
  refine ev_aload_n (i := 0) d_Mo_isBody_0 rfl rfl rfl ?_
  refine ev_iconst d_Mo_isBody_1 rfl ⟨by decide, by decide⟩ ?_
  refine ev_putI d_Mo_isBody_2 rfl lk_Mo_141 fp_Mo_22 (Or.inl rfl) lx_45 rfl ?_
  refine ev_aload_n (i := 0) d_Mo_isBody_5 rfl rfl rfl ?_
  refine ev_iload_n (i := 1) d_Mo_isBody_6 rfl rfl rfl ?_
  refine ev_iconst d_Mo_isBody_7 rfl ⟨by decide, by decide⟩ ?_
  refine ev_callV (As := [g_i (t : Int), g_i 0]) d_Mo_isBody_8 rfl cl_Mo_148 (c_Mo_push (d + 1) (g_up M 45 22 0) [] (t : Int) 0 (q_nil (by simp [g_up])) (by decide)) (g_hR (by decide)) g_h0 lx_45 rfl rfl (Nat.le_of_ble_eq_true rfl) rfl rfl ?_
  refine ev_wh (fun n ls1 M1 => ∃ S0 : List Nat, ls1 = [some (g_r 45), some (g_i (t : Int)), none] ∧ q_st M1 S0 ∧ q_eq M M1 ∧ (∀ y ∈ S0, (y : Int) < M 45 8) ∧ n = (S0.flatMap (q_pl M)).length ∧ n ≤ 40 ∧ (q_pl M t).all (fun x => decide (8 ≤ M 52 x ∨ M 64 (M 52 x).toNat ≠ 0)) = (S0.flatMap (q_pl M)).all (fun x => decide (8 ≤ M 52 x ∨ M 64 (M 52 x).toNat ≠ 0))) ?_ (n := _) (⟨[t], rfl, q_push t 0 (q_nil (by simp [g_up])), (q_pe _ _).tr (q_up _ _ _ _ _), fun y hy => by simp at hy; rw [hy]; exact ht, rfl, by simp; have := q_pl_len hT t ht; have := (hT.2.2 t ht).2.2.2.2.2.1; omega, by simp⟩)
  intro n ls1 M1 hP ih
  obtain ⟨S0, rfl, hs1, hq1, hy1, hn, hn40, ha⟩ := hP
  refine ev_aload_n (i := 0) d_Mo_isBody_11 rfl rfl rfl ?_
  refine ev_getI (z := (S0.length : Int)) d_Mo_isBody_12 rfl lk_Mo_141 lx_45 rfl (hs1.1) ?_
  refine ev_if_le (tgt := 73) d_Mo_isBody_15 (by decide) rfl (fun hz => ?_) (fun hz => ?_)
  · refine ev_iconst d_Mo_isBody_73 rfl ⟨by decide, by decide⟩ ?_
    exact ev_retIR d_Mo_isBody_74 (by have e := q_em hz; subst e; exact ⟨by rw [if_pos (by rw [ha]; rfl)], hq1⟩) (Or.inr ⟨rfl, by omega⟩)
  · obtain ⟨x, S, rfl⟩ := q_ne hz
    have hx : (x : Int) < M 45 8 := hy1 x List.mem_cons_self
    have hst := q_step hT (S := S) hx
    have hlen := q_st_len hT _ hy1
    rw [List.length_cons] at hlen
    have hnt := hT.2.1
    obtain ⟨hx0, hx22, -⟩ := hT.2.2 x hx
    have hn2 : n = ((q_kids M x ++ S).flatMap (q_pl M)).length + 1 := by rw [hn, hst, List.length_cons]
    have hy2 : ∀ y ∈ q_kids M x ++ S, (y : Int) < M 45 8 := by
      intro y hy
      rcases List.mem_append.mp hy with h | h
      · have := q_kid_lt hT hx y h; omega
      · exact hy1 y (List.mem_cons_of_mem _ h)
    refine ev_aload_n (i := 0) d_Mo_isBody_18 rfl rfl rfl ?_
    refine ev_dup d_Mo_isBody_19 rfl rfl ?_
    refine ev_getI (z := (S.length : Int) + 1) d_Mo_isBody_20 rfl lk_Mo_141 lx_45 rfl (by rw [hs1.1, List.length_cons]; omega) ?_
    refine ev_iconst d_Mo_isBody_23 rfl ⟨by decide, by decide⟩ ?_
    refine ev_isub (z := (S.length : Int)) d_Mo_isBody_24 rfl (by rw [g_w_id (by unfold g_rg; omega)]; omega) ?_
    refine ev_putI d_Mo_isBody_25 rfl lk_Mo_141 fp_Mo_22 (Or.inl rfl) lx_45 rfl ?_
    refine ev_aload_n (i := 0) d_Mo_isBody_28 rfl rfl rfl ?_
    refine ev_getR d_Mo_isBody_29 rfl lk_Mo_58 lx_45 rfl ?_
    refine ev_aload_n (i := 0) d_Mo_isBody_32 rfl rfl rfl ?_
    refine ev_getI (z := (S.length : Int)) d_Mo_isBody_33 rfl lk_Mo_141 lx_45 rfl (by simp [g_up]) ?_
    refine ev_iaload (z := (x : Int)) d_Mo_isBody_36 rfl lx_62 (by omega) (by omega) ((q_pop hs1).1) ?_
    refine ev_istore_n (i := 2) d_Mo_isBody_37 rfl rfl (by decide) rfl ?_
    refine ev_aload_n (i := 0) d_Mo_isBody_38 rfl rfl rfl ?_
    refine ev_getR d_Mo_isBody_39 rfl lk_Mo_28 lx_45 rfl ?_
    refine ev_iload_n (i := 2) d_Mo_isBody_42 rfl rfl rfl ?_
    refine ev_iaload (z := M 52 x) d_Mo_isBody_43 rfl lx_52 (by omega) (by omega) (hq1 52 _ (by decide) (by decide) (by omega)) ?_
    refine ev_bipush d_Mo_isBody_44 rfl (by decide +kernel) ⟨by decide, by decide⟩ ?_
    refine ev_icmp_ge (tgt := 65) d_Mo_isBody_46 (by decide) rfl (fun c1 => ?_) (fun c1 => ?_)
    · have hpx : decide (8 ≤ M 52 x ∨ M 64 (M 52 x).toNat ≠ 0) = true := decide_eq_true (by omega)
      refine ev_aload_n (i := 0) d_Mo_isBody_65 rfl rfl rfl ?_
      refine ev_iload_n (i := 2) d_Mo_isBody_66 rfl rfl rfl ?_
      refine ev_callVR (As := [g_i ((x : Int))]) d_Mo_isBody_67 rfl cl_Mo_152 (c_Mo_below (d + 0) M (g_up M1 45 22 (S.length : Int)) x S hT (hq1.tr (q_pe _ _)) (q_pop hs1).2 hx (by omega)) (g_hR (by decide)) g_h0 lx_45 rfl rfl (Nat.le_of_ble_eq_true rfl) rfl rfl (fun M3 v9 g9 => ?_)
      obtain ⟨rfl, hs2, hq2⟩ := g9
      refine ev_goto (tgt := 11) d_Mo_isBody_70 (by decide) ?_
      refine ev_le (ih _ [some (g_r 45), some (g_i (t : Int)), none] M3 ?_ ⟨q_kids M x ++ S, rfl, hs2, hq2, hy2, rfl, by omega, ?_⟩) rfl ⟨rfl, rfl, trivial⟩
      · omega
      · rw [ha, hst, List.all_cons, hpx, Bool.true_and]
    · refine ev_aload_n (i := 0) d_Mo_isBody_49 rfl rfl rfl ?_
      refine ev_getR d_Mo_isBody_50 rfl lk_Mo_64 lx_45 rfl ?_
      refine ev_aload_n (i := 0) d_Mo_isBody_53 rfl rfl rfl ?_
      refine ev_getR d_Mo_isBody_54 rfl lk_Mo_28 lx_45 rfl ?_
      refine ev_iload_n (i := 2) d_Mo_isBody_57 rfl rfl rfl ?_
      refine ev_iaload (z := M 52 x) d_Mo_isBody_58 rfl lx_52 (by omega) (by omega) (hq1 52 _ (by decide) (by decide) (by omega)) ?_
      refine ev_baload (z := M 64 (M 52 x).toNat) d_Mo_isBody_59 rfl lx_64 (by omega) (by omega) (hq1 64 _ (by decide) (by decide) (by omega)) ?_
      refine ev_if_ne (tgt := 65) d_Mo_isBody_60 (by decide) rfl (fun c2 => ?_) (fun c2 => ?_)
      · have hpx : decide (8 ≤ M 52 x ∨ M 64 (M 52 x).toNat ≠ 0) = true := decide_eq_true (by omega)
        refine ev_aload_n (i := 0) d_Mo_isBody_65 rfl rfl rfl ?_
        refine ev_iload_n (i := 2) d_Mo_isBody_66 rfl rfl rfl ?_
        refine ev_callVR (As := [g_i ((x : Int))]) d_Mo_isBody_67 rfl cl_Mo_152 (c_Mo_below (d + 0) M (g_up M1 45 22 (S.length : Int)) x S hT (hq1.tr (q_pe _ _)) (q_pop hs1).2 hx (by omega)) (g_hR (by decide)) g_h0 lx_45 rfl rfl (Nat.le_of_ble_eq_true rfl) rfl rfl (fun M3 v9 g9 => ?_)
        obtain ⟨rfl, hs2, hq2⟩ := g9
        refine ev_goto (tgt := 11) d_Mo_isBody_70 (by decide) ?_
        refine ev_le (ih _ [some (g_r 45), some (g_i (t : Int)), none] M3 ?_ ⟨q_kids M x ++ S, rfl, hs2, hq2, hy2, rfl, by omega, ?_⟩) rfl ⟨rfl, rfl, trivial⟩
        · omega
        · rw [ha, hst, List.all_cons, hpx, Bool.true_and]
      · refine ev_iconst d_Mo_isBody_63 rfl ⟨by decide, by decide⟩ ?_
        exact ev_retIR d_Mo_isBody_64 (by have hpx : decide (8 ≤ M 52 x ∨ M 64 (M 52 x).toNat ≠ 0) = false := decide_eq_false (by omega); exact ⟨by rw [if_neg (by rw [ha, hst, List.all_cons, hpx]; simp)], hq1.tr (q_pe _ _)⟩) (Or.inr ⟨rfl, by omega⟩)
