/-- the memory behind a call's beginning, in the class -/
theorem u_stx {M1 : g_M} {H : List u_F} {st w : Nat} : ∀ k b : Nat, ¬ (k = 34 ∧ (b = 9 ∨ b = 11)) → (g_up (g_up M1 34 11 ((st : Int) + 1)) 34 9 ((H.length - w : Nat) : Int)) k b = M1 k b := fun k b h => by
  simp only [g_up]
  rw [if_neg (by omega), if_neg (by omega)]
theorem u_stk {M1 : g_M} {H : List u_F} {st w : Nat} {t : u_F} {x : Nat} (h : u_rk M1 t x) : u_rk (g_up (g_up M1 34 11 ((st : Int) + 1)) 34 9 ((H.length - w : Nat) : Int)) t x := u_rk_cg (M := M1) (M2 := (g_up (g_up M1 34 11 ((st : Int) + 1)) 34 9 ((H.length - w : Nat) : Int))) (fun k hk => funext fun b => u_stx k b (by omega)) (u_stx 35 5 (by decide)) h
theorem u_stp {M M1 M3 : g_M} {F : List (Nat × Nat × Nat)} {H : List u_F} {B : Nat → Nat → u_F} {st bu w : Nat} {bk : Nat → u_F} (hM : u_Ms M M1 F H B st bu) (hwl : w ≤ H.length) (hg : g43 st (g_up (g_up M1 34 11 ((st : Int) + 1)) 34 9 ((H.length - w : Nat) : Int)) M3) (hb : u_b2 M3 st bk) : u_Ms M M3 F (H.drop w) (fun q => if q = st + 1 then bk else B q) (st + 1) bu := by
  obtain ⟨m1, m2, m3, m4, m5, m6, m7, m8, m9, m10⟩ := hM
  have e : ∀ k b : Nat, k ≠ 43 → ¬ (k = 34 ∧ (b = 9 ∨ b = 11)) → M3 k b = M1 k b := fun k b h1 h2 => by rw [hg k b (fun h => h1 h.1), u_stx k b h2]
  have ef : ∀ k : Nat, k ≠ 43 → k ≠ 34 → M3 k = M1 k := fun k h1 h2 => funext fun b => e k b h1 (fun h => h2 h.1)
  have r : ∀ t x, u_rk M1 t x → u_rk M3 t x := fun t x h => hg.rk (u_stk h)
  refine ⟨m1.tr (fun k b hk => e k b (by omega) (by omega)), u_fm_cg (M := M1) (e 34 7 (by decide) (by decide)) (fun k hk => ef k (by omega) (by omega)) m2, m3, ?_, u_hd_cg r (fun i hi => by rw [ef 42 (by decide) (by decide)]) (u_hd_drop m5 w), u_bc_n (M := (g_up (g_up M1 34 11 ((st : Int) + 1)) 34 9 ((H.length - w : Nat) : Int))) (fun r hr v c l hv hx => ?_) hg hb, ?_, (e 35 5 (by decide) (by decide)).trans m8, (e 34 12 (by decide) (by decide)).trans m9, (e 34 14 (by decide) (by decide)).trans m10⟩
  · rw [hg 34 9 (by omega), g_up_at, List.length_drop]
  · obtain ⟨x, h1, h2⟩ := m6 r hr v c l hv hx
    exact ⟨x, by rw [u_stx 43 _ (by omega)]; exact h1, u_stk h2⟩
  · rw [hg 34 11 (by omega), g_up_nj (by decide), g_up_at]
    rfl
theorem c_Ma_step (d : Nat) (M : g_M) (M1 : g_M) (n f fr st bu : Nat) (K : List (Int × Nat)) (H : List u_F) (B : Nat → Nat → u_F) (hP : r_P M) (hM0 : u_Cs M M1 (K, H, B, st, bu)) (hok : u_ok M n ((-11 - (f : Int), fr) :: K, H, B, st, bu)) : ConR y_Ma_step w_Ma_step (g_rm (d + 104)) LX M1 [g_r 34, g_i (f : Int)] LX (fun M2 v2 => v2 = none ∧ (((u_st M ((-11 - (f : Int), fr) :: K, H, B, st, bu)).2 = true ∧ u_Ce M M2 (u_st M ((-11 - (f : Int), fr) :: K, H, B, st, bu)).1.2.2.2.1) ∨ ((u_st M ((-11 - (f : Int), fr) :: K, H, B, st, bu)).2 = false ∧ (u_st M (u_st M ((-11 - (f : Int), fr) :: K, H, B, st, bu)).1).2 = false ∧ u_Cs M M2 (u_st M (u_st M ((-11 - (f : Int), fr) :: K, H, B, st, bu)).1).1))) := by
  refine con_ofR (av := [g_r 34, g_i (f : Int)]) (ls0 := [some (g_r 34), some (g_i (f : Int)), none, none, none, none]) (by decide) rfl (Nat.le_of_ble_eq_true rfl) (g_hls (av := [g_r 34, g_i (f : Int)]) (k := 4)) (fun _ h9 => List.mem_cons_of_mem _ h9) ?_
  obtain ⟨b1, b2, b3, b4, b5, b6⟩ := u_ok_t hP hok
  obtain ⟨F, hF, hM⟩ := hM0
  simp only at hF hM
  obtain ⟨w, hf4, hf6, hw, hw3, hwl⟩ : ∃ w : Nat, (f : Int) < M 45 4 ∧ f < 6 ∧ M 50 f = w ∧ w ≤ 3 ∧ w ≤ H.length := by
    obtain ⟨y, e, -⟩ | ⟨f', w', e, e0, e1, e2, e3, e4, -⟩ | ⟨c', w', e, e0, e1, -⟩ := b6
    · omega
    · have ec : f = f' := by omega
      subst ec
      exact ⟨w', e0, e1, e2, e3, e4⟩
    · omega
  have hw7 : M 7 f = w := by rw [(r_P_50 hP hf4).2.2]; exact hw
  obtain ⟨-, hl0, hl24, hL, hL2a⟩ := hP.2.2.2
  have hL2 := hL2a f hf6
  obtain ⟨m, hmm⟩ : ∃ m : Nat, M 45 13 = m := ⟨(M 45 13).toNat, by omega⟩
  rw [hmm, Int.toNat_natCast] at hL2
  have hcle := s_cn_le M f m
  obtain ⟨cnt, hcnt⟩ : ∃ cnt : Nat, M 24 f = cnt := ⟨(M 24 f).toNat, by have := hL2.1; omega⟩
  have hcm : s_cn M f m = cnt := by rw [← hcnt]; exact hL2.1.symm
  have hcnt6 : cnt ≤ 6 := by have := hL2.2.1; omega
  refine ev_aload_n (i := 0) d_Ma_step_0 rfl rfl rfl ?_
  refine ev_getR d_Ma_step_1 rfl lk_Ma_11 lx_34 rfl ?_
  refine ev_iload_n (i := 1) d_Ma_step_4 rfl rfl rfl ?_
  refine ev_callV (As := [g_i (f : Int)]) d_Ma_step_5 rfl cl_Ma_71 ((c_Sg_width_f_w (d + 103) M1 f w hf6 (by rw [hM.1 7 f (by decide)]; exact hw7))) (g_hR (by decide)) g_h0 lx_5 rfl rfl (Nat.le_of_ble_eq_true rfl) rfl rfl ?_
  refine ev_istore_n (i := 2) d_Ma_step_8 rfl rfl (by decide) rfl ?_
  refine ev_aload_n (i := 0) d_Ma_step_9 rfl rfl rfl ?_
  refine ev_getI (z := (st : Int)) d_Ma_step_10 rfl lk_Ma_51 lx_34 rfl (hM.2.2.2.2.2.2.1) ?_
  refine ev_sipush d_Ma_step_13 rfl (by decide +kernel) ⟨by decide, by decide⟩ ?_
  refine ev_icmp_ge (tgt := 27) d_Ma_step_16 (by decide) rfl (fun h200 => ?_) (fun h200 => ?_)
  · have e200 : st = 200 := by omega
    subst e200
    refine ev_aload_n (i := 0) d_Ma_step_27 rfl rfl rfl ?_
    refine ev_iconst d_Ma_step_28 rfl ⟨by decide, by decide⟩ ?_
    refine ev_putI d_Ma_step_29 rfl lk_Ma_67 fp_Ma_12 (Or.inr ⟨rfl, by omega⟩) lx_34 rfl ?_
    exact ev_retVR d_Ma_step_32 (⟨rfl, Or.inl ⟨by rw [u_st_c0], by rw [u_st_c0]; exact u_Ms_e hM⟩⟩)
  · refine ev_aload_n (i := 0) d_Ma_step_19 rfl rfl rfl ?_
    refine ev_getI (z := (H.length : Int)) d_Ma_step_20 rfl lk_Ma_64 lx_34 rfl (hM.2.2.2.1) ?_
    refine ev_iload_n (i := 2) d_Ma_step_23 rfl rfl rfl ?_
    refine ev_icmp_ge_t (tgt := 33) d_Ma_step_24 (by decide) (by omega) ?_
    have hst200 : st ≠ 200 := by omega
    refine ev_aload_n (i := 0) d_Ma_step_33 rfl rfl rfl ?_
    refine ev_getI (z := (st : Int)) d_Ma_step_34 rfl lk_Ma_51 lx_34 rfl (hM.2.2.2.2.2.2.1) ?_
    refine ev_istore_n (i := 3) d_Ma_step_37 rfl rfl (by decide) rfl ?_
    refine ev_aload_n (i := 0) d_Ma_step_38 rfl rfl rfl ?_
    refine ev_dup d_Ma_step_39 rfl rfl ?_
    refine ev_getI (z := (st : Int)) d_Ma_step_40 rfl lk_Ma_51 lx_34 rfl (hM.2.2.2.2.2.2.1) ?_
    refine ev_iconst d_Ma_step_43 rfl ⟨by decide, by decide⟩ ?_
    refine ev_iadd (z := (st : Int) + 1) d_Ma_step_44 rfl (g_w_id (by unfold g_rg; omega)) ?_
    refine ev_putI d_Ma_step_45 rfl lk_Ma_51 fp_Ma_11 (Or.inl rfl) lx_34 rfl ?_
    refine ev_aload_n (i := 0) d_Ma_step_48 rfl rfl rfl ?_
    refine ev_dup d_Ma_step_49 rfl rfl ?_
    refine ev_getI (z := (H.length : Int)) d_Ma_step_50 rfl lk_Ma_64 lx_34 rfl (by rw [g_up_nj (by decide)]; exact hM.2.2.2.1) ?_
    refine ev_iload_n (i := 2) d_Ma_step_53 rfl rfl rfl ?_
    refine ev_isub (z := ((H.length - w : Nat) : Int)) d_Ma_step_54 rfl (by rw [g_w_id (by unfold g_rg; omega)]; omega) ?_
    refine ev_putI d_Ma_step_55 rfl lk_Ma_64 fp_Ma_9 (Or.inl rfl) lx_34 rfl ?_
    refine ev_iconst d_Ma_step_58 rfl ⟨by decide, by decide⟩ ?_
    refine ev_istore (i := 4) d_Ma_step_59 rfl (by decide) rfl ?_
    refine ev_wh (fun n ls1 M2 => ∃ (i cc : Nat) (bc : Nat → u_F), i ≤ cnt ∧ n = cnt - i ∧ ls1 = [some (g_r 34), some (g_i (f : Int)), some (g_i (w : Int)), some (g_i (st : Int)), some (g_i (i : Int)), none] ∧ cc ≤ m ∧ s_cn M f cc = i ∧ u_en M f w (fun k => (H[w - 1 - k]?).getD Std.Format.nil) (B (st + 1)) cc = (none, bc) ∧ g43 st (g_up (g_up M1 34 11 ((st : Int) + 1)) 34 9 ((H.length - w : Nat) : Int)) M2 ∧ u_b2 M2 st bc) ?_ (n := cnt) (⟨0, 0, B (st + 1), Nat.zero_le _, rfl, rfl, Nat.zero_le _, rfl, rfl, g43.rf _ _, fun v c l hv hx => by obtain ⟨x, h1, h2⟩ := hM.2.2.2.2.2.1 st (by omega) v c l hv hx; exact ⟨x, by rw [u_stx 43 _ (by omega)]; exact h1, u_stk h2⟩⟩)
    intro n9 ls1 M2 hP0 ih
    obtain ⟨i, cc, bc, hi, hn9, rfl, hccm, hcs, hen, hg2, hb2⟩ := hP0
    have hMs := u_stp hM hwl hg2 hb2
    have hc2 := hMs.1
    refine ev_iload (i := 4) d_Ma_step_61 rfl rfl ?_
    refine ev_aload_n (i := 0) d_Ma_step_63 rfl rfl rfl ?_
    refine ev_getR d_Ma_step_64 rfl lk_Ma_19 lx_34 rfl ?_
    refine ev_iload_n (i := 1) d_Ma_step_67 rfl rfl rfl ?_
    refine ev_callV (As := [g_i (f : Int)]) d_Ma_step_68 rfl cl_Ma_129 ((c_Cl_howManyOf (d + 103) M2 f hf6).eqr (b := (cnt : Int)) ((hc2 24 f (by decide)).trans hcnt)) (g_hR (by decide)) g_h0 lx_19 rfl rfl (Nat.le_of_ble_eq_true rfl) rfl rfl ?_
    refine ev_icmp_ge (tgt := 118) d_Ma_step_71 (by decide) rfl (fun hz => ?_) (fun hz => ?_)
    · have hem : u_en M f w (fun k => (H[w - 1 - k]?).getD Std.Format.nil) (B (st + 1)) m = (none, bc) := u_en_own hen (by rw [hcs, hcm]; omega) hccm
      refine ev_aload_n (i := 0) d_Ma_step_118 rfl rfl rfl ?_
      refine ev_iconst d_Ma_step_119 rfl ⟨by decide, by decide⟩ ?_
      refine ev_putI d_Ma_step_120 rfl lk_Ma_67 fp_Ma_12 (Or.inr ⟨rfl, by omega⟩) lx_34 rfl ?_
      exact ev_retVR d_Ma_step_123 (⟨rfl, Or.inl ⟨by rw [u_st_cn hst200 hw hmm hem], by rw [u_st_cn hst200 hw hmm hem]; exact u_Ms_e hMs⟩⟩)
    · obtain ⟨c, hcm2, hcf, hci⟩ := s_cn_sur M f m i (by rw [hcm]; omega)
      have hcl := hL c (by omega)
      have h23 : M 23 (6 * f + i) = c := by
        have h9 := hL2.2.2 c (by omega) hcf
        rw [hci, Int.toNat_natCast] at h9
        exact h9
      have hec : u_en M f w (fun k => (H[w - 1 - k]?).getD Std.Format.nil) (B (st + 1)) c = (none, bc) := u_en_own hen (hci.trans hcs.symm) (s_cn_own (hci.trans hcs.symm) hcf)
      refine ev_aload_n (i := 0) d_Ma_step_74 rfl rfl rfl ?_
      refine ev_getR d_Ma_step_75 rfl lk_Ma_19 lx_34 rfl ?_
      refine ev_iload_n (i := 1) d_Ma_step_78 rfl rfl rfl ?_
      refine ev_iload (i := 4) d_Ma_step_79 rfl rfl ?_
      refine ev_callV (As := [g_i (f : Int), g_i (i : Int)]) d_Ma_step_81 rfl cl_Ma_134 ((c_Cl_ofFunction (d + 103) M2 f i hf6 (by omega)).eqr (b := (c : Int)) (by rw [hc2 23 _ (by decide)]; exact h23)) (g_hR (by decide)) g_h0 lx_19 rfl rfl (Nat.le_of_ble_eq_true rfl) rfl rfl ?_
      refine ev_istore (i := 5) d_Ma_step_84 rfl (by decide) rfl ?_
      refine ev_aload_n (i := 0) d_Ma_step_86 rfl rfl rfl ?_
      refine ev_iload (i := 5) d_Ma_step_87 rfl rfl ?_
      refine ev_iload_n (i := 2) d_Ma_step_89 rfl rfl rfl ?_
      refine ev_iload_n (i := 3) d_Ma_step_90 rfl rfl rfl ?_
      refine ev_callVR (As := [g_i (c : Int), g_i (w : Int), g_i (st : Int)]) d_Ma_step_91 rfl cl_Ma_137 (c_Ma_matchesAll d M M2 f c w st bu H bc hc2 hP hcl (by omega) hcf hw hw3 hwl (by omega) (u_hd_cg (M := M1) (fun t x h => hg2.rk (u_stk h)) (fun i hi => by rw [hg2.fn (k := 42) (by decide), g_up_ne (by decide), g_up_ne (by decide)]) hM.2.2.2.2.1) (by rw [hg2 34 9 (by omega), g_up_at]) hMs.2.2.2.2.2.2.2.1 b3 (by omega) hb2) (g_hR (by decide)) g_h0 lx_34 rfl rfl (Nat.le_of_ble_eq_true rfl) rfl rfl (fun M3 v9 g9 => ?_)
      obtain ⟨rfl, hgm, hbm⟩ := g9
      refine ev_beq (tgt := 112) d_Ma_step_94 (by decide) rfl (fun hm => ?_) (fun hm => ?_)
      · refine ev_iinc (z := ((i + 1 : Nat) : Int)) d_Ma_step_112 rfl rfl (by decide) (by rw [g_w_id (by unfold g_rg; omega)]; omega) rfl ?_
        refine ev_goto (tgt := 61) d_Ma_step_115 (by decide) ?_
        exact ev_le (ih (cnt - (i + 1)) [some (g_r 34), some (g_i (f : Int)), some (g_i (w : Int)), some (g_i (st : Int)), some (g_i ((i + 1 : Nat) : Int)), none] M3 (by omega) ⟨i + 1, c + 1, _, by omega, rfl, rfl, by omega, by rw [← s_cn_p hcf, hci]; omega, u_en_f hec hcf (bk := (u_mc M c (fun k => (H[w - 1 - k]?).getD Std.Format.nil) bc w).2) (Prod.ext (by simpa using hm) rfl), hg2.tr hgm, hbm⟩) rfl ⟨rfl, rfl, rfl, rfl, rfl, trivial⟩
      · obtain ⟨bd, hbd⟩ : ∃ bd : Nat, M 58 c = bd := ⟨(M 58 c).toNat, by have := hcl.2.2.2.2.1; omega⟩
        have hem : u_en M f w (fun k => (H[w - 1 - k]?).getD Std.Format.nil) (B (st + 1)) m = (some c, (u_mc M c (fun k => (H[w - 1 - k]?).getD Std.Format.nil) bc w).2) := by
          have h9 := u_en_t hec hcf (bk := (u_mc M c (fun k => (H[w - 1 - k]?).getD Std.Format.nil) bc w).2) (Prod.ext hm rfl) (m - (c + 1))
          rw [show c + 1 + (m - (c + 1)) = m by omega] at h9
          exact h9
        have es1 := u_st_cs (fr := fr) (K := K) (bu := bu) hst200 hw hmm hem
        rw [hbd] at es1
        have hok1 := u_ok_st hP hok (by simp) (by rw [es1])
        rw [es1] at hok1
        refine ev_aload_n (i := 0) d_Ma_step_97 rfl rfl rfl ?_
        refine ev_aload_n (i := 0) d_Ma_step_98 rfl rfl rfl ?_
        refine ev_getR d_Ma_step_99 rfl lk_Ma_19 lx_34 rfl ?_
        refine ev_iload (i := 5) d_Ma_step_102 rfl rfl ?_
        refine ev_callV (As := [g_i (c : Int)]) d_Ma_step_104 rfl cl_Ma_141 ((c_Cl_body (d + 103) M3 c (by omega)).eqr (b := (bd : Int)) (by rw [(hc2.tr hgm.c) 22 c (by decide), hcl.2.2.2.1]; exact hbd)) (g_hR (by decide)) g_h0 lx_19 rfl rfl (Nat.le_of_ble_eq_true rfl) rfl rfl ?_
        refine ev_iload_n (i := 3) d_Ma_step_107 rfl rfl rfl ?_
        refine ev_callVR (As := [g_i (bd : Int), g_i (st : Int)]) d_Ma_step_108 rfl cl_Ma_101 (c_Ma_open_s (d + 102) (n := n + 1) hP (⟨F, hF, u_stp hM hwl (hg2.tr hgm) hbm⟩ : u_Cs M M3 (K, H.drop w, (fun q => if q = st + 1 then (u_mc M c (fun k => (H[w - 1 - k]?).getD Std.Format.nil) bc w).2 else B q), st + 1, bu)) hok1) (g_hR (by decide)) g_h0 lx_34 rfl rfl (Nat.le_of_ble_eq_true rfl) rfl rfl (fun M4 v9 g9 => ?_)
        obtain ⟨rfl, hs4, hC4⟩ := g9
        exact ev_retVR d_Ma_step_111 (⟨rfl, Or.inr ⟨by rw [es1], by rw [es1]; exact hs4, by rw [es1]; exact hC4⟩⟩)
