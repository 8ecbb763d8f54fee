/-- the k-th call in a preorder, or -1 -/
def q_call (hd : Nat → Int) : List Nat → Nat → Int
  | [], _ => -1
  | x :: l, k => if 16 ≤ hd x then (if k = 0 then (x : Int) else q_call hd l (k - 1)) else q_call hd l k
theorem q_body_T {M : g_M} (hT : q_T M) {t : Nat} (ht : (t : Int) < M 45 8) : ([t].flatMap (q_pl M)).length ≤ 40 := by
  have h1 := q_pl_len hT t ht
  have h2 := (hT.2.2 t ht).2.2.2.2.2.1
  rw [List.flatMap_cons, List.flatMap_nil, List.append_nil]
  omega
theorem c_Mo_callOf (d : Nat) (M : g_M) (c b k : Nat) (hT : q_T M) (hc : c < 24) (hbd : M 58 c = b) (hb : (b : Int) < M 45 8) (hk : k < 2147483648) : ConR y_Mo_callOf w_Mo_callOf (g_rm (d + 2)) LX M [g_r 45, g_i (c : Int), g_i (k : Int)] LX (fun M2 v2 => v2 = some (g_i (q_call (M 52) (q_pl M b) k)) ∧ q_eq M M2) := by
  refine con_ofR (av := [g_r 45, g_i (c : Int), g_i (k : Int)]) (ls0 := [some (g_r 45), some (g_i (c : Int)), some (g_i (k : Int)), none, none]) (by decide) rfl (Nat.le_of_ble_eq_true rfl) (g_hls (av := [g_r 45, g_i (c : Int), g_i (k : Int)]) (k := 2)) (fun _ h9 => List.mem_cons_of_mem _ h9) ?_
  refine ev_iload_n (i := 2) d_Mo_callOf_0 rfl rfl rfl ?_
  refine ev_istore_n (i := 3) d_Mo_callOf_1 rfl rfl (by decide) rfl ?_
  refine ev_aload_n (i := 0) d_Mo_callOf_2 rfl rfl rfl ?_
  refine ev_iconst d_Mo_callOf_3 rfl ⟨by decide, by decide⟩ ?_
  refine ev_putI d_Mo_callOf_4 rfl lk_Mo_141 fp_Mo_22 (Or.inl rfl) lx_45 rfl ?_
  refine ev_aload_n (i := 0) d_Mo_callOf_7 rfl rfl rfl ?_
  refine ev_aload_n (i := 0) d_Mo_callOf_8 rfl rfl rfl ?_
  refine ev_getR d_Mo_callOf_9 rfl lk_Mo_46 lx_45 rfl ?_
  refine ev_iload_n (i := 1) d_Mo_callOf_12 rfl rfl rfl ?_
  refine ev_iaload (z := (b : Int)) d_Mo_callOf_13 rfl lx_58 (by omega) (by omega) (hbd) ?_
  refine ev_iconst d_Mo_callOf_14 rfl ⟨by decide, by decide⟩ ?_
  refine ev_callV (As := [g_i ((b : Int)), g_i 0]) d_Mo_callOf_15 rfl cl_Mo_148 (c_Mo_push (d + 1) (g_up M 45 22 0) [] (b : Int) 0 (q_nil (by simp [g_up])) (by decide)) (g_hR (by decide)) g_h0 lx_45 rfl rfl (Nat.le_of_ble_eq_true rfl) rfl rfl ?_
  refine ev_wh (fun n ls1 M1 => ∃ (S0 : List Nat) (j : Nat), ls1 = [some (g_r 45), some (g_i (c : Int)), some (g_i (k : Int)), some (g_i (j : Int)), none] ∧ q_st M1 S0 ∧ q_eq M M1 ∧ (∀ y ∈ S0, (y : Int) < M 45 8) ∧ n = (S0.flatMap (q_pl M)).length ∧ n ≤ 40 ∧ j ≤ k ∧ q_call (M 52) (q_pl M b) k = q_call (M 52) (S0.flatMap (q_pl M)) j) ?_ (n := _) (⟨[b], k, rfl, q_push b 0 (q_nil (by simp [g_up])), (q_pe _ _).tr (q_up _ _ _ _ _), fun y hy => by simp at hy; rw [hy]; exact hb, rfl, q_body_T hT hb, Nat.le_refl _, by rw [List.flatMap_cons, List.flatMap_nil, List.append_nil]⟩)
  intro n ls1 M1 hP ih
  obtain ⟨S0, j, rfl, hs1, hq1, hy1, hn, hn40, hjk, ha⟩ := hP
  refine ev_aload_n (i := 0) d_Mo_callOf_18 rfl rfl rfl ?_
  refine ev_getI (z := (S0.length : Int)) d_Mo_callOf_19 rfl lk_Mo_141 lx_45 rfl (hs1.1) ?_
  refine ev_if_le (tgt := 77) d_Mo_callOf_22 (by decide) rfl (fun hz => ?_) (fun hz => ?_)
  · refine ev_iconst d_Mo_callOf_77 rfl ⟨by decide, by decide⟩ ?_
    exact ev_retIR d_Mo_callOf_78 (by have e := q_em hz; subst e; exact ⟨by rw [ha]; rfl, hq1⟩) (Or.inl rfl)
  · obtain ⟨x, S, rfl⟩ := q_ne hz
    have hx : (x : Int) < M 45 8 := hy1 x List.mem_cons_self
    have hst := q_step hT (S := S) hx
    have hlen := q_st_len hT _ hy1
    rw [List.length_cons] at hlen
    have hnt := hT.2.1
    obtain ⟨hx0, hx22, -⟩ := hT.2.2 x hx
    have hn2 : n = ((q_kids M x ++ S).flatMap (q_pl M)).length + 1 := by rw [hn, hst, List.length_cons]
    have hy2 := q_hy2 hT hx hy1
    refine ev_aload_n (i := 0) d_Mo_callOf_25 rfl rfl rfl ?_
    refine ev_dup d_Mo_callOf_26 rfl rfl ?_
    refine ev_getI (z := (S.length : Int) + 1) d_Mo_callOf_27 rfl lk_Mo_141 lx_45 rfl (by rw [hs1.1, List.length_cons]; omega) ?_
    refine ev_iconst d_Mo_callOf_30 rfl ⟨by decide, by decide⟩ ?_
    refine ev_isub (z := (S.length : Int)) d_Mo_callOf_31 rfl (by rw [g_w_id (by unfold g_rg; omega)]; omega) ?_
    refine ev_putI d_Mo_callOf_32 rfl lk_Mo_141 fp_Mo_22 (Or.inl rfl) lx_45 rfl ?_
    refine ev_aload_n (i := 0) d_Mo_callOf_35 rfl rfl rfl ?_
    refine ev_getR d_Mo_callOf_36 rfl lk_Mo_58 lx_45 rfl ?_
    refine ev_aload_n (i := 0) d_Mo_callOf_39 rfl rfl rfl ?_
    refine ev_getI (z := (S.length : Int)) d_Mo_callOf_40 rfl lk_Mo_141 lx_45 rfl (by simp [g_up]) ?_
    refine ev_iaload (z := (x : Int)) d_Mo_callOf_43 rfl lx_62 (by omega) (by omega) ((q_pop hs1).1) ?_
    refine ev_istore (i := 4) d_Mo_callOf_44 rfl (by decide) rfl ?_
    refine ev_aload_n (i := 0) d_Mo_callOf_46 rfl rfl rfl ?_
    refine ev_getR d_Mo_callOf_47 rfl lk_Mo_28 lx_45 rfl ?_
    refine ev_iload (i := 4) d_Mo_callOf_50 rfl rfl ?_
    refine ev_iaload (z := M 52 x) d_Mo_callOf_52 rfl lx_52 (by omega) (by omega) (hq1 52 _ (by decide) (by decide) (by omega)) ?_
    refine ev_bipush d_Mo_callOf_53 rfl (by decide +kernel) ⟨by decide, by decide⟩ ?_
    refine ev_icmp_lt (tgt := 68) d_Mo_callOf_55 (by decide) rfl (fun c1 => ?_) (fun c1 => ?_)
    · refine ev_aload_n (i := 0) d_Mo_callOf_68 rfl rfl rfl ?_
      refine ev_iload (i := 4) d_Mo_callOf_69 rfl rfl ?_
      refine ev_callVR (As := [g_i ((x : Int))]) d_Mo_callOf_71 rfl cl_Mo_152 (c_Mo_below (d + 0) M (g_up M1 45 22 (S.length : Int)) x S hT (hq1.tr (q_pe _ _)) (q_pop hs1).2 hx (by omega)) (g_hR (by decide)) g_h0 lx_45 rfl rfl (Nat.le_of_ble_eq_true rfl) rfl rfl (fun M3 v9 g9 => ?_)
      obtain ⟨rfl, hs2, hq2⟩ := g9
      refine ev_goto (tgt := 18) d_Mo_callOf_74 (by decide) ?_
      refine ev_le (ih _ [some (g_r 45), some (g_i (c : Int)), some (g_i (k : Int)), some (g_i (j : Int)), none] M3 (by omega) ⟨q_kids M x ++ S, j, rfl, hs2, hq2, hy2, rfl, by omega, by omega, ?_⟩) rfl ⟨rfl, rfl, rfl, rfl, trivial⟩
      rw [ha, hst, q_call, if_neg (by omega)]
    · refine ev_iload_n (i := 3) d_Mo_callOf_58 rfl rfl rfl ?_
      refine ev_if_ne (tgt := 65) d_Mo_callOf_59 (by decide) rfl (fun c2 => ?_) (fun c2 => ?_)
      · obtain ⟨i9, hi9⟩ : ∃ i9, j = i9 + 1 := ⟨j - 1, by omega⟩
        refine ev_iinc (z := (j : Int) + (-1)) d_Mo_callOf_65 rfl rfl (by decide) (g_w_id (by have h7 := hk; unfold g_rg; omega)) rfl ?_
        refine ev_aload_n (i := 0) d_Mo_callOf_68 rfl rfl rfl ?_
        refine ev_iload (i := 4) d_Mo_callOf_69 rfl rfl ?_
        refine ev_callVR (As := [g_i ((x : Int))]) d_Mo_callOf_71 rfl cl_Mo_152 (c_Mo_below (d + 0) M (g_up M1 45 22 (S.length : Int)) x S hT (hq1.tr (q_pe _ _)) (q_pop hs1).2 hx (by omega)) (g_hR (by decide)) g_h0 lx_45 rfl rfl (Nat.le_of_ble_eq_true rfl) rfl rfl (fun M3 v9 g9 => ?_)
        obtain ⟨rfl, hs2, hq2⟩ := g9
        refine ev_goto (tgt := 18) d_Mo_callOf_74 (by decide) ?_
        refine ev_le (ih _ [some (g_r 45), some (g_i (c : Int)), some (g_i (k : Int)), some (g_i (i9 : Int)), none] M3 (by omega) ⟨q_kids M x ++ S, i9, rfl, hs2, hq2, hy2, rfl, by omega, by omega, ?_⟩) rfl ⟨rfl, rfl, rfl, congrArg (fun z => some (some (g_i z))) (by omega), trivial⟩
        rw [ha, hst, q_call, if_pos (by omega), if_neg (by omega), show j - 1 = i9 by omega]
      · refine ev_iload (i := 4) d_Mo_callOf_62 rfl rfl ?_
        exact ev_retIR d_Mo_callOf_64 (⟨by rw [ha, hst, q_call, if_pos (by omega), if_pos (by omega)], hq1.tr (q_pe _ _)⟩) (Or.inl rfl)
