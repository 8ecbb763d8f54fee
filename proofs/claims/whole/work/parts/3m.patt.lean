/-- what a scan of patterns leaves as it was: all but the stack and the seen variables -/
def q_e4 (M M2 : g_M) : Prop := ∀ k b : Nat, k ≠ 62 → k ≠ 63 → k ≠ 64 → ¬ (k = 45 ∧ b = 22) → M2 k b = M k b
theorem q_e4.rf (M : g_M) : q_e4 M M := fun _ _ _ _ _ _ => rfl
theorem q_e4.tr {M M1 M2 : g_M} (h : q_e4 M M1) (h2 : q_e4 M1 M2) : q_e4 M M2 := fun k b h3 h4 h5 h6 => (h2 k b h3 h4 h5 h6).trans (h k b h3 h4 h5 h6)
theorem q_eq.e4 {M M2 : g_M} (h : q_eq M M2) : q_e4 M M2 := fun k b h1 h2 _ h4 => h k b h1 h2 h4
theorem q_e4.fn {M M2 : g_M} (h : q_e4 M M2) {k : Nat} (h1 : k ≠ 62) (h2 : k ≠ 63) (h3 : k ≠ 64) (h4 : k ≠ 45) : M2 k = M k := by
  funext b
  exact h k b h1 h2 h3 (fun h9 => h4 h9.1)
theorem q_e4.up (M : g_M) (i : Nat) (z : Int) : q_e4 M (g_up M 64 i z) := by
  intro k b _ _ h3 _
  simp only [g_up]
  rw [if_neg (fun h => h3 h.1)]
theorem q_w_e4 {M M2 : g_M} (h : q_e4 M M2) (t : Nat) : q_w M2 t = q_w M t := by
  simp only [q_w]
  rw [h.fn (k := 52) (by decide) (by decide) (by decide) (by decide), h.fn (k := 47) (by decide) (by decide) (by decide) (by decide), h.fn (k := 50) (by decide) (by decide) (by decide) (by decide)]
theorem q_ks_e4 {M M2 : g_M} (h : q_e4 M M2) (t w k : Nat) : q_ks M2 t w k = q_ks M t w k := by
  simp only [q_ks]
  rw [h.fn (k := 53) (by decide) (by decide) (by decide) (by decide)]
theorem c_Mo_below4 (d : Nat) (M M1 : g_M) (x : Nat) (S : List Nat) (hT : q_T M) (hq : q_e4 M M1) (hS : q_st M1 S) (hx : (x : Int) < M 45 8) (hl : S.length ≤ 100) : ConR y_Mo_pushBelow w_Mo_pushBelow (g_rm (d + 1)) LX M1 [g_r 45, g_i (x : Int)] LX (fun M2 v2 => v2 = none ∧ q_st M2 (q_kids M x ++ S) ∧ q_e4 M M2 ∧ M2 64 = M1 64) := by
  obtain ⟨h1, h2, h3, h4, h5, -, -⟩ := hT.2.2 x hx
  have e52 := hq.fn (k := 52) (by decide) (by decide) (by decide) (by decide)
  have e53 := hq.fn (k := 53) (by decide) (by decide) (by decide) (by decide)
  have hw : q_w M1 x = ((q_w M x).toNat : Nat) := by rw [q_w_e4 hq]; omega
  refine (c_Mo_pushBelow d M1 x (q_w M x).toNat S (by have := hT.2.1; omega) (by rw [e52]; exact h1) (by rw [e52]; exact h2) hw (by omega) (fun k hk => by rw [e53]; exact (h5 k (by omega)).1) hS (by omega)).mono ?_
  intro M2 v2 h
  refine ⟨h.1, ?_, hq.tr h.2.2.e4, h.2.2.fn (by decide) (by decide) (by decide)⟩
  have := h.2.1
  rw [q_ks_e4 hq] at this
  exact this
theorem q_hy2 {M : g_M} (hT : q_T M) {x : Nat} {S : List Nat} (hx : (x : Int) < M 45 8) (hy1 : ∀ y ∈ x :: S, (y : Int) < M 45 8) : ∀ y ∈ q_kids M x ++ S, (y : Int) < M 45 8 := by
  intro y hy
  rcases List.mem_append.mp hy with h | h
  · have := q_kid_lt hT hx y h
    omega
  · exact hy1 y (List.mem_cons_of_mem _ h)
/-- the scan of a pattern: no call, no variable twice -/
def q_scan (hd : Nat → Int) : (Nat → Int) → List Nat → Option (Nat → Int)
  | s, [] => some s
  | s, x :: l => if 16 ≤ hd x then none else if hd x < 8 then (if s (hd x).toNat = 0 then q_scan hd (fun b => if b = (hd x).toNat then 1 else s b) l else none) else q_scan hd s l
def q_pt (M : g_M) (s : Nat → Int) (t : Nat) : Option (Nat → Int) := if 2 < M 54 t ∨ 8 < M 55 t then none else q_scan (M 52) s (q_pl M t)
theorem q_st64 {M : g_M} {S : List Nat} {i : Nat} {z : Int} (h : q_st M S) : q_st (g_up M 64 i z) S := h
theorem c_Mo_isPattern (d : Nat) (M : g_M) (t : Nat) (hT : q_T M) (ht : (t : Int) < M 45 8) : ConR y_Mo_isPattern w_Mo_isPattern (g_rm (d + 2)) LX M [g_r 45, g_i (t : Int)] LX (fun M2 v2 => q_e4 M M2 ∧ ((∃ s, q_pt M (M 64) t = some s ∧ M2 64 = s ∧ v2 = some (g_i 1)) ∨ (q_pt M (M 64) t = none ∧ v2 = some (g_i 0)))) := by
  refine con_ofR (av := [g_r 45, g_i (t : Int)]) (ls0 := [some (g_r 45), some (g_i (t : Int)), none]) (by decide) rfl (Nat.le_of_ble_eq_true rfl) (g_hls (av := [g_r 45, g_i (t : Int)]) (k := 1)) (fun _ h9 => List.mem_cons_of_mem _ h9) ?_
  have hnt0 := hT.2.1
  refine ev_aload_n (i := 0) d_Mo_isPattern_0 rfl rfl rfl ?_
  refine ev_getR d_Mo_isPattern_1 rfl lk_Mo_34 lx_45 rfl ?_
  refine ev_iload_n (i := 1) d_Mo_isPattern_4 rfl rfl rfl ?_
  refine ev_iaload (z := M 54 t) d_Mo_isPattern_5 rfl lx_54 (by omega) (by omega) (rfl) ?_
  refine ev_iconst d_Mo_isPattern_6 rfl ⟨by decide, by decide⟩ ?_
  refine ev_icmp_gt (tgt := 21) d_Mo_isPattern_7 (by decide) rfl (fun g1 => ?_) (fun g1 => ?_)
  · refine ev_iconst d_Mo_isPattern_21 rfl ⟨by decide, by decide⟩ ?_
    exact ev_retIR d_Mo_isPattern_22 (⟨q_e4.rf _, Or.inr ⟨by rw [q_pt, if_pos (by omega)], rfl⟩⟩) (Or.inr ⟨rfl, by omega⟩)
  · refine ev_aload_n (i := 0) d_Mo_isPattern_10 rfl rfl rfl ?_
    refine ev_getR d_Mo_isPattern_11 rfl lk_Mo_37 lx_45 rfl ?_
    refine ev_iload_n (i := 1) d_Mo_isPattern_14 rfl rfl rfl ?_
    refine ev_iaload (z := M 55 t) d_Mo_isPattern_15 rfl lx_55 (by omega) (by omega) (rfl) ?_
    refine ev_bipush d_Mo_isPattern_16 rfl (by decide +kernel) ⟨by decide, by decide⟩ ?_
    refine ev_icmp_le (tgt := 23) d_Mo_isPattern_18 (by decide) rfl (fun g2 => ?_) (fun g2 => ?_)
    · refine ev_aload_n (i := 0) d_Mo_isPattern_23 rfl rfl rfl ?_
      refine ev_iconst d_Mo_isPattern_24 rfl ⟨by decide, by decide⟩ ?_
      refine ev_putI d_Mo_isPattern_25 rfl lk_Mo_141 fp_Mo_22 (Or.inl rfl) lx_45 rfl ?_
      refine ev_aload_n (i := 0) d_Mo_isPattern_28 rfl rfl rfl ?_
      refine ev_iload_n (i := 1) d_Mo_isPattern_29 rfl rfl rfl ?_
      refine ev_iconst d_Mo_isPattern_30 rfl ⟨by decide, by decide⟩ ?_
      refine ev_callV (As := [g_i (t : Int), g_i 0]) d_Mo_isPattern_31 rfl cl_Mo_148 (c_Mo_push (d + 1) (g_up M 45 22 0) [] (t : Int) 0 (q_nil (by simp [g_up])) (by decide)) (g_hR (by decide)) g_h0 lx_45 rfl rfl (Nat.le_of_ble_eq_true rfl) rfl rfl ?_
      refine ev_wh (fun n ls1 M1 => ∃ S0 : List Nat, ls1 = [some (g_r 45), some (g_i (t : Int)), none] ∧ q_st M1 S0 ∧ q_e4 M M1 ∧ (∀ y ∈ S0, (y : Int) < M 45 8) ∧ n = (S0.flatMap (q_pl M)).length ∧ n ≤ 40 ∧ q_scan (M 52) (M 64) (q_pl M t) = q_scan (M 52) (M1 64) (S0.flatMap (q_pl M))) ?_ (n := _) (⟨[t], rfl, q_push t 0 (q_nil (by simp [g_up])), ((q_pe _ _).tr (q_up _ _ _ _ _)).e4, fun y hy => by simp at hy; rw [hy]; exact ht, rfl, by simp; have := q_pl_len hT t ht; have := (hT.2.2 t ht).2.2.2.2.2.1; omega, by rw [List.flatMap_cons, List.flatMap_nil, List.append_nil]; rfl⟩)
      intro n ls1 M1 hP ih
      obtain ⟨S0, rfl, hs1, hq1, hy1, hn, hn40, ha⟩ := hP
      refine ev_aload_n (i := 0) d_Mo_isPattern_34 rfl rfl rfl ?_
      refine ev_getI (z := (S0.length : Int)) d_Mo_isPattern_35 rfl lk_Mo_141 lx_45 rfl (hs1.1) ?_
      refine ev_if_le (tgt := 130) d_Mo_isPattern_38 (by decide) rfl (fun hz => ?_) (fun hz => ?_)
      · refine ev_iconst d_Mo_isPattern_130 rfl ⟨by decide, by decide⟩ ?_
        exact ev_retIR d_Mo_isPattern_131 (by have e := q_em hz; subst e; exact ⟨hq1, Or.inl ⟨_, by rw [q_pt, if_neg (by omega), ha]; rfl, rfl, rfl⟩⟩) (Or.inr ⟨rfl, by omega⟩)
      · obtain ⟨x, S, rfl⟩ := q_ne hz
        have hx : (x : Int) < M 45 8 := hy1 x List.mem_cons_self
        have hst := q_step hT (S := S) hx
        have hlen := q_st_len hT _ hy1
        rw [List.length_cons] at hlen
        have hnt := hT.2.1
        obtain ⟨hx0, hx22, -⟩ := hT.2.2 x hx
        have hn2 : n = ((q_kids M x ++ S).flatMap (q_pl M)).length + 1 := by rw [hn, hst, List.length_cons]
        have hy2 := q_hy2 hT hx hy1
        refine ev_aload_n (i := 0) d_Mo_isPattern_41 rfl rfl rfl ?_
        refine ev_dup d_Mo_isPattern_42 rfl rfl ?_
        refine ev_getI (z := (S.length : Int) + 1) d_Mo_isPattern_43 rfl lk_Mo_141 lx_45 rfl (by rw [hs1.1, List.length_cons]; omega) ?_
        refine ev_iconst d_Mo_isPattern_46 rfl ⟨by decide, by decide⟩ ?_
        refine ev_isub (z := (S.length : Int)) d_Mo_isPattern_47 rfl (by rw [g_w_id (by unfold g_rg; omega)]; omega) ?_
        refine ev_putI d_Mo_isPattern_48 rfl lk_Mo_141 fp_Mo_22 (Or.inl rfl) lx_45 rfl ?_
        refine ev_aload_n (i := 0) d_Mo_isPattern_51 rfl rfl rfl ?_
        refine ev_getR d_Mo_isPattern_52 rfl lk_Mo_58 lx_45 rfl ?_
        refine ev_aload_n (i := 0) d_Mo_isPattern_55 rfl rfl rfl ?_
        refine ev_getI (z := (S.length : Int)) d_Mo_isPattern_56 rfl lk_Mo_141 lx_45 rfl (by simp [g_up]) ?_
        refine ev_iaload (z := (x : Int)) d_Mo_isPattern_59 rfl lx_62 (by omega) (by omega) ((q_pop hs1).1) ?_
        refine ev_istore_n (i := 2) d_Mo_isPattern_60 rfl rfl (by decide) rfl ?_
        refine ev_aload_n (i := 0) d_Mo_isPattern_61 rfl rfl rfl ?_
        refine ev_getR d_Mo_isPattern_62 rfl lk_Mo_28 lx_45 rfl ?_
        refine ev_iload_n (i := 2) d_Mo_isPattern_65 rfl rfl rfl ?_
        refine ev_iaload (z := M 52 x) d_Mo_isPattern_66 rfl lx_52 (by omega) (by omega) (hq1 52 _ (by decide) (by decide) (by decide) (by omega)) ?_
        refine ev_bipush d_Mo_isPattern_67 rfl (by decide +kernel) ⟨by decide, by decide⟩ ?_
        refine ev_icmp_ge (tgt := 97) d_Mo_isPattern_69 (by decide) rfl (fun c1 => ?_) (fun c1 => ?_)
        · refine ev_iconst d_Mo_isPattern_97 rfl ⟨by decide, by decide⟩ ?_
          exact ev_retIR d_Mo_isPattern_98 (⟨hq1.tr (q_pe _ _).e4, Or.inr ⟨by rw [q_pt, if_neg (by omega), ha, hst, q_scan]; first | rw [if_pos (by omega)] | rw [if_neg (by omega), if_pos (by omega), if_neg c3], rfl⟩⟩) (Or.inr ⟨rfl, by omega⟩)
        · refine ev_aload_n (i := 0) d_Mo_isPattern_72 rfl rfl rfl ?_
          refine ev_getR d_Mo_isPattern_73 rfl lk_Mo_28 lx_45 rfl ?_
          refine ev_iload_n (i := 2) d_Mo_isPattern_76 rfl rfl rfl ?_
          refine ev_iaload (z := M 52 x) d_Mo_isPattern_77 rfl lx_52 (by omega) (by omega) (hq1 52 _ (by decide) (by decide) (by decide) (by omega)) ?_
          refine ev_bipush d_Mo_isPattern_78 rfl (by decide +kernel) ⟨by decide, by decide⟩ ?_
          refine ev_icmp_ge (tgt := 99) d_Mo_isPattern_80 (by decide) rfl (fun c2 => ?_) (fun c2 => ?_)
          · refine ev_aload_n (i := 0) d_Mo_isPattern_99 rfl rfl rfl ?_
            refine ev_getR d_Mo_isPattern_100 rfl lk_Mo_28 lx_45 rfl ?_
            refine ev_iload_n (i := 2) d_Mo_isPattern_103 rfl rfl rfl ?_
            refine ev_iaload (z := M 52 x) d_Mo_isPattern_104 rfl lx_52 (by omega) (by omega) (hq1 52 _ (by decide) (by decide) (by decide) (by omega)) ?_
            refine ev_bipush d_Mo_isPattern_105 rfl (by decide +kernel) ⟨by decide, by decide⟩ ?_
            refine ev_icmp_ge_t (tgt := 122) d_Mo_isPattern_107 (by decide) (c2) ?_
            have hsc : q_scan (M 52) (M1 64) (x :: (q_kids M x ++ S).flatMap (q_pl M)) = q_scan (M 52) (M1 64) ((q_kids M x ++ S).flatMap (q_pl M)) := by rw [q_scan, if_neg (by omega), if_neg (by omega)]
            refine ev_aload_n (i := 0) d_Mo_isPattern_122 rfl rfl rfl ?_
            refine ev_iload_n (i := 2) d_Mo_isPattern_123 rfl rfl rfl ?_
            refine ev_callVR (As := [g_i ((x : Int))]) d_Mo_isPattern_124 rfl cl_Mo_152 (c_Mo_below4 (d + 0) M (g_up M1 45 22 (((S.length : Int)))) x S hT (hq1.tr (q_pe _ _).e4) (q_pop hs1).2 hx (by omega)) (g_hR (by decide)) g_h0 lx_45 rfl rfl (Nat.le_of_ble_eq_true rfl) rfl rfl (fun M3 v9 g9 => ?_)
            obtain ⟨rfl, hs2, hq2, h64⟩ := g9
            refine ev_goto (tgt := 34) d_Mo_isPattern_127 (by decide) ?_
            refine ev_le (ih _ [some (g_r 45), some (g_i (t : Int)), none] M3 ?_ ⟨q_kids M x ++ S, rfl, hs2, hq2, hy2, rfl, by omega, ?_⟩) rfl ⟨rfl, rfl, trivial⟩
            · omega
            · rw [ha, hst, h64]; exact hsc
          · refine ev_aload_n (i := 0) d_Mo_isPattern_83 rfl rfl rfl ?_
            refine ev_getR d_Mo_isPattern_84 rfl lk_Mo_64 lx_45 rfl ?_
            refine ev_aload_n (i := 0) d_Mo_isPattern_87 rfl rfl rfl ?_
            refine ev_getR d_Mo_isPattern_88 rfl lk_Mo_28 lx_45 rfl ?_
            refine ev_iload_n (i := 2) d_Mo_isPattern_91 rfl rfl rfl ?_
            refine ev_iaload (z := M 52 x) d_Mo_isPattern_92 rfl lx_52 (by omega) (by omega) (hq1 52 _ (by decide) (by decide) (by decide) (by omega)) ?_
            refine ev_baload (z := M1 64 (M 52 x).toNat) d_Mo_isPattern_93 rfl lx_64 (by omega) (by omega) (rfl) ?_
            refine ev_if_eq (tgt := 99) d_Mo_isPattern_94 (by decide) rfl (fun c3 => ?_) (fun c3 => ?_)
            · refine ev_aload_n (i := 0) d_Mo_isPattern_99 rfl rfl rfl ?_
              refine ev_getR d_Mo_isPattern_100 rfl lk_Mo_28 lx_45 rfl ?_
              refine ev_iload_n (i := 2) d_Mo_isPattern_103 rfl rfl rfl ?_
              refine ev_iaload (z := M 52 x) d_Mo_isPattern_104 rfl lx_52 (by omega) (by omega) (hq1 52 _ (by decide) (by decide) (by decide) (by omega)) ?_
              refine ev_bipush d_Mo_isPattern_105 rfl (by decide +kernel) ⟨by decide, by decide⟩ ?_
              refine ev_icmp_ge_f (tgt := 122) d_Mo_isPattern_107 (by decide) rfl (c2) ?_
              refine ev_aload_n (i := 0) d_Mo_isPattern_110 rfl rfl rfl ?_
              refine ev_getR d_Mo_isPattern_111 rfl lk_Mo_64 lx_45 rfl ?_
              refine ev_aload_n (i := 0) d_Mo_isPattern_114 rfl rfl rfl ?_
              refine ev_getR d_Mo_isPattern_115 rfl lk_Mo_28 lx_45 rfl ?_
              refine ev_iload_n (i := 2) d_Mo_isPattern_118 rfl rfl rfl ?_
              refine ev_iaload (z := M 52 x) d_Mo_isPattern_119 rfl lx_52 (by omega) (by omega) (hq1 52 _ (by decide) (by decide) (by decide) (by omega)) ?_
              refine ev_iconst d_Mo_isPattern_120 rfl ⟨by decide, by decide⟩ ?_
              refine ev_bastore d_Mo_isPattern_121 rfl lx_64 (by omega) (by omega) (by omega) ?_
              rw [show Int.toNat ((M 52 x)) = (M 52 x).toNat by rfl]
              have hsc : q_scan (M 52) (M1 64) (x :: (q_kids M x ++ S).flatMap (q_pl M)) = q_scan (M 52) (g_up (g_up M1 45 22 (S.length : Int)) 64 (M 52 x).toNat 1 64) ((q_kids M x ++ S).flatMap (q_pl M)) := by rw [q_scan, if_neg (by omega), if_pos (by omega), if_pos c3, g_up_k]; rfl
              refine ev_aload_n (i := 0) d_Mo_isPattern_122 rfl rfl rfl ?_
              refine ev_iload_n (i := 2) d_Mo_isPattern_123 rfl rfl rfl ?_
              refine ev_callVR (As := [g_i ((x : Int))]) d_Mo_isPattern_124 rfl cl_Mo_152 (c_Mo_below4 (d + 0) M (g_up (g_up M1 45 22 (((S.length : Int)))) 64 ((M 52 x).toNat) 1) x S hT ((hq1.tr (q_pe _ _).e4).tr (q_e4.up _ _ _)) (q_st64 (q_pop hs1).2) hx (by omega)) (g_hR (by decide)) g_h0 lx_45 rfl rfl (Nat.le_of_ble_eq_true rfl) rfl rfl (fun M3 v9 g9 => ?_)
              obtain ⟨rfl, hs2, hq2, h64⟩ := g9
              refine ev_goto (tgt := 34) d_Mo_isPattern_127 (by decide) ?_
              refine ev_le (ih _ [some (g_r 45), some (g_i (t : Int)), none] M3 ?_ ⟨q_kids M x ++ S, rfl, hs2, hq2, hy2, rfl, by omega, ?_⟩) rfl ⟨rfl, rfl, trivial⟩
              · omega
              · rw [ha, hst, h64]; exact hsc
            · refine ev_iconst d_Mo_isPattern_97 rfl ⟨by decide, by decide⟩ ?_
              exact ev_retIR d_Mo_isPattern_98 (⟨hq1.tr (q_pe _ _).e4, Or.inr ⟨by rw [q_pt, if_neg (by omega), ha, hst, q_scan]; first | rw [if_pos (by omega)] | rw [if_neg (by omega), if_pos (by omega), if_neg c3], rfl⟩⟩) (Or.inr ⟨rfl, by omega⟩)
    · refine ev_iconst d_Mo_isPattern_21 rfl ⟨by decide, by decide⟩ ?_
      exact ev_retIR d_Mo_isPattern_22 (⟨q_e4.rf _, Or.inr ⟨by rw [q_pt, if_pos (by omega)], rfl⟩⟩) (Or.inr ⟨rfl, by omega⟩)
