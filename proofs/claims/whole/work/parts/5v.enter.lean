theorem u_en_0 (M : g_M) (f w : Nat) (as : Nat → u_F) (b : Nat → u_F) : u_en M f w as b 0 = (none, b) := rfl
theorem u_en_e (M : g_M) (f w : Nat) (as : Nat → u_F) (b : Nat → u_F) (n : Nat) : u_en M f w as b (n + 1) = if (u_en M f w as b n).1.isSome = true then u_en M f w as b n else if M 56 n = f then (if (u_mc M n as (u_en M f w as b n).2 w).1 = true then some n else none, (u_mc M n as (u_en M f w as b n).2 w).2) else u_en M f w as b n := by
  unfold u_en
  rw [List.range_succ, List.foldl_append]
  rfl
theorem u_en_n {M : g_M} {f w : Nat} {as : Nat → u_F} {b bc : Nat → u_F} {n : Nat} (h : u_en M f w as b n = (none, bc)) (hf : ¬ M 56 n = f) : u_en M f w as b (n + 1) = (none, bc) := by
  rw [u_en_e, h]
  simp only [Option.isSome_none]
  rw [if_neg (by decide), if_neg hf]
theorem u_en_f {M : g_M} {f w : Nat} {as : Nat → u_F} {b bc bk : Nat → u_F} {n : Nat} (h : u_en M f w as b n = (none, bc)) (hf : M 56 n = f) (hm : u_mc M n as bc w = (false, bk)) : u_en M f w as b (n + 1) = (none, bk) := by
  rw [u_en_e, h]
  simp only [Option.isSome_none]
  rw [if_neg (by decide), if_pos hf, hm]
  rfl
theorem u_en_t {M : g_M} {f w : Nat} {as : Nat → u_F} {b bc bk : Nat → u_F} {n : Nat} (h : u_en M f w as b n = (none, bc)) (hf : M 56 n = f) (hm : u_mc M n as bc w = (true, bk)) : ∀ m, u_en M f w as b (n + 1 + m) = (some n, bk)
  | 0 => by
    show u_en M f w as b (n + 1) = _
    rw [u_en_e, h]
    simp only [Option.isSome_none]
    rw [if_neg (by decide), if_pos hf, hm]
    rfl
  | m + 1 => by
    show u_en M f w as b (n + 1 + m + 1) = _
    rw [u_en_e, u_en_t h hf hm m]
    rfl
theorem u_mc_fd (M : g_M) (c : Nat) (as : Nat → u_F) (b : Nat → u_F) (w : Nat) : u_mc M c as b w = u_fd (fun k b => u_m M (M 57 (3 * c + k)).toNat (as k) b) w b := rfl
/-- the memory behind a call's beginning -/
def u_E (M M1 M2 : g_M) (st : Nat) (K : List (Int × Nat)) (H : List u_F) (b : Nat → u_F) : Prop := u_f M M2 ∧ M2 45 29 = M1 45 29 ∧ M2 45 33 = M1 45 33 ∧ M2 45 34 = (st : Int) + 1 ∧ (∀ t x, u_rm M1 t x → u_rm M2 t x) ∧ u_tk M2 K ∧ u_hk M2 H ∧ u_b1 M2 (st + 1) b ∧ ∀ q : Nat, ¬ (8 * (st + 1) ≤ q ∧ q < 8 * (st + 1) + 8) → M2 74 q = M1 74 q
theorem u_E_0 {M M1 M3 : g_M} {st w : Nat} {K : List (Int × Nat)} {H : List u_F} {b : Nat → u_F} (hf : u_f M M1) (hK : u_tk M1 K) (hH : u_hk M1 H) (hw : w ≤ H.length) (hg : g74 (st + 1) (g_up (g_up M1 45 34 ((st : Int) + 1)) 45 38 ((H.length : Int) - w)) M3) (hb : u_b1 M3 (st + 1) b) : u_E M M1 M3 st K (H.drop w) b := by
  obtain ⟨MX, hX⟩ : ∃ MX, MX = g_up (g_up M1 45 34 ((st : Int) + 1)) 45 38 ((H.length : Int) - w) := ⟨_, rfl⟩
  have hX0 : ∀ k b : Nat, ¬ (k = 45 ∧ (b = 34 ∨ b = 38)) → MX k b = M1 k b := fun k b h => by
    rw [hX]
    simp only [g_up]
    rw [if_neg (by omega), if_neg (by omega)]
  have hX34 : MX 45 34 = (st : Int) + 1 := by rw [hX, g_up_nj (by decide), g_up_at]
  have hH2 : u_hk MX (H.drop w) := by
    have h9 := u_hk_drop (M1 := g_up M1 45 34 ((st : Int) + 1)) (u_hk_cg (fun t x h => h) rfl (by rw [g_up_nj (by decide)]) hH) hw
    rw [hX]
    exact h9
  rw [← hX] at hg
  have e : ∀ k, k ≠ 74 → M3 k = MX k := fun k hk => hg.fn hk
  have eX : ∀ k, k ≠ 45 → MX k = M1 k := fun k hk => funext fun b => hX0 k b (by omega)
  have r1 : ∀ t x, u_rm M1 t x → u_rm MX t x := fun t x h => (u_rm_cg (M := M1) (M1 := MX) (fun k hk => eX k (by omega)) (hX0 45 29 (by decide)) t x).mpr h
  have hfX : u_f M1 MX := fun k b h1 h2 => hX0 k b (by omega)
  refine ⟨(hf.tr hfX).tr hg.f, by rw [e 45 (by decide)]; exact hX0 45 29 (by decide), by rw [e 45 (by decide)]; exact hX0 45 33 (by decide), by rw [e 45 (by decide)]; exact hX34, fun t x h => hg.rm (r1 t x h), ?_, u_hk_cg (fun t x h => hg.rm h) (e 73 (by decide)) (by rw [e 45 (by decide)]) hH2, hb, fun q hq => ?_⟩
  · refine u_tk_cg (M := M1) ?_ ?_ ?_ hK
    · rw [e 71 (by decide), eX 71 (by decide)]
    · rw [e 72 (by decide), eX 72 (by decide)]
    · rw [e 45 (by decide)]; exact hX0 45 35 (by decide)
  · rw [hg 74 q (by omega), eX 74 (by decide)]
theorem u_E_p {M M1 M3 : g_M} {st : Nat} {K : List (Int × Nat)} {H : List u_F} {b : Nat → u_F} (h : u_E M M1 M3 st K H b) (t : Int) (fr : Nat) : u_E M M1 (g_up (g_up (g_up M3 71 K.length t) 72 K.length (fr : Int)) 45 35 ((K.length : Int) + 1)) st ((t, fr) :: K) H b := by
  obtain ⟨h1, h2, h3, h4, h5, h6, h7, h8, h9⟩ := h
  have hg := g71_up M3 K.length t fr ((K.length : Int) + 1)
  have hP := u_tk_push h6 t fr
  revert hg hP
  generalize g_up (g_up (g_up M3 71 K.length t) 72 K.length (fr : Int)) 45 35 ((K.length : Int) + 1) = M4
  intro hg hP
  have r : ∀ t x, u_rm M3 t x → u_rm M4 t x := fun t x h => (hg.rm t x).mpr h
  exact ⟨h1.tr hg.f, by rw [hg 45 29 (by decide) (by decide) (by decide)]; exact h2, by rw [hg 45 33 (by decide) (by decide) (by decide)]; exact h3, by rw [hg 45 34 (by decide) (by decide) (by decide)]; exact h4, fun t x h => r t x (h5 t x h), hP, u_hk_cg r (hg.fn (by decide) (by decide) (by decide)) (hg 45 38 (by decide) (by decide) (by decide)) h7, u_b1_cg (hg.fn (by decide) (by decide) (by decide)) r h8, fun q hq => by rw [hg.fn (k := 74) (by decide) (by decide) (by decide)]; exact h9 q hq⟩
theorem c_Mo_enter (d : Nat) (M : g_M) (M1 : g_M) (f w m st : Nat) (K : List (Int × Nat)) (H : List u_F) (b : Nat → u_F) (hf : u_f M M1) (hT : q_T M) (hrt : ∀ t : Nat, (t : Int) < M 45 8 → r_t M t) (hL : ∀ c : Nat, (c : Int) < M 45 13 → r_c M c) (hm : M 45 13 = m) (hm24 : m ≤ 24) (hf6 : f < 6) (hw : M 50 f = w) (hwl : w ≤ H.length) (hw3 : w ≤ 3) (hst : M1 45 34 = st) (hst2 : st < 200) (hK : u_tk M1 K) (hKl : K.length < 3700) (hH : u_hk M1 H) (hHl : H.length < 2500) (hnv : M1 45 29 ≤ 730) (hb : u_b1 M1 (st + 1) b) : ConR y_Mo_enter w_Mo_enter (g_rm (d + 2)) LX M1 [g_r 45, g_i (f : Int)] LX (fun M2 v2 => v2 = some (g_i (if (u_en M f w (fun k => (H[w - 1 - k]?).getD Std.Format.nil) b m).1.isSome = true then 1 else 0)) ∧ u_E M M1 M2 st ((u_en M f w (fun k => (H[w - 1 - k]?).getD Std.Format.nil) b m).1.toList.map (fun c => (M 58 c, st + 1)) ++ K) (H.drop w) (u_en M f w (fun k => (H[w - 1 - k]?).getD Std.Format.nil) b m).2) := by
  refine con_ofR (av := [g_r 45, g_i (f : Int)]) (ls0 := [some (g_r 45), some (g_i (f : Int)), none, none, none, none, none]) (by decide) rfl (Nat.le_of_ble_eq_true rfl) (g_hls (av := [g_r 45, g_i (f : Int)]) (k := 5)) (fun _ h9 => List.mem_cons_of_mem _ h9) ?_
  refine ev_aload_n (i := 0) d_Mo_enter_0 rfl rfl rfl ?_
  refine ev_getI (z := (st : Int)) d_Mo_enter_1 rfl lk_Mo_243 lx_45 rfl (hst) ?_
  refine ev_sipush d_Mo_enter_4 rfl (by decide +kernel) ⟨by decide, by decide⟩ ?_
  refine ev_icmp_ne_t (tgt := 12) d_Mo_enter_7 (by decide) (by omega) ?_
  refine ev_aload_n (i := 0) d_Mo_enter_12 rfl rfl rfl ?_
  refine ev_dup d_Mo_enter_13 rfl rfl ?_
  refine ev_getI (z := (st : Int)) d_Mo_enter_14 rfl lk_Mo_243 lx_45 rfl (hst) ?_
  refine ev_iconst d_Mo_enter_17 rfl ⟨by decide, by decide⟩ ?_
  refine ev_iadd (z := ((st : Int) + 1)) d_Mo_enter_18 rfl (g_w_id (by unfold g_rg; omega)) ?_
  refine ev_putI d_Mo_enter_19 rfl lk_Mo_243 fp_Mo_34 (Or.inl rfl) lx_45 rfl ?_
  refine ev_aload_n (i := 0) d_Mo_enter_22 rfl rfl rfl ?_
  refine ev_getR d_Mo_enter_23 rfl lk_Mo_22 lx_45 rfl ?_
  refine ev_iload_n (i := 1) d_Mo_enter_26 rfl rfl rfl ?_
  refine ev_iaload (z := (w : Int)) d_Mo_enter_27 rfl lx_50 (by omega) (by omega) (by rw [g_up_ne (by decide), hf 50 _ (by decide) (by omega)]; exact hw) ?_
  refine ev_istore_n (i := 2) d_Mo_enter_28 rfl rfl (by decide) rfl ?_
  refine ev_aload_n (i := 0) d_Mo_enter_29 rfl rfl rfl ?_
  refine ev_getI (z := ((st : Int) + 1)) d_Mo_enter_30 rfl lk_Mo_243 lx_45 rfl (g_up_at _ _ _ _) ?_
  refine ev_istore_n (i := 3) d_Mo_enter_33 rfl rfl (by decide) rfl ?_
  refine ev_aload_n (i := 0) d_Mo_enter_34 rfl rfl rfl ?_
  refine ev_dup d_Mo_enter_35 rfl rfl ?_
  refine ev_getI (z := (H.length : Int)) d_Mo_enter_36 rfl lk_Mo_234 lx_45 rfl (by rw [g_up_nj (by decide)]; exact hH.1) ?_
  refine ev_iload_n (i := 2) d_Mo_enter_39 rfl rfl rfl ?_
  refine ev_isub (z := (H.length : Int) - w) d_Mo_enter_40 rfl (g_w_id (by unfold g_rg; omega)) ?_
  refine ev_putI d_Mo_enter_41 rfl lk_Mo_234 fp_Mo_38 (Or.inl rfl) lx_45 rfl ?_
  refine ev_iconst d_Mo_enter_44 rfl ⟨by decide, by decide⟩ ?_
  refine ev_istore (i := 4) d_Mo_enter_45 rfl (by decide) rfl ?_
  refine ev_wh (fun n ls1 M2 => ∃ (c : Nat) (bc : Nat → u_F), c ≤ m ∧ n = m - c ∧ ls1 = [some (g_r 45), some (g_i (f : Int)), some (g_i (w : Int)), some (g_i ((st : Int) + 1)), some (g_i (c : Int)), none, none] ∧ g74 (st + 1) (g_up (g_up M1 45 34 ((st : Int) + 1)) 45 38 ((H.length : Int) - w)) M2 ∧ u_en M f w (fun k => (H[w - 1 - k]?).getD Std.Format.nil) b c = (none, bc) ∧ u_b1 M2 (st + 1) bc) ?_ (n := m) (⟨0, b, Nat.zero_le _, rfl, rfl, g74.rf _ _, rfl, u_b1_cg (M := M1) (M1 := (g_up (g_up M1 45 34 ((st : Int) + 1)) 45 38 ((H.length : Int) - w))) rfl (fun _ _ h => h) hb⟩)
  intro n ls1 M2 hP0 ih
  obtain ⟨c, bc, hc, hn, rfl, hg2, hen, hb2⟩ := hP0
  have hE2 := u_E_0 hf hK hH hwl hg2 hb2
  have hf2 := hE2.1
  refine ev_iload (i := 4) d_Mo_enter_47 rfl rfl ?_
  refine ev_aload_n (i := 0) d_Mo_enter_49 rfl rfl rfl ?_
  refine ev_getI (z := (m : Int)) d_Mo_enter_50 rfl lk_Mo_166 lx_45 rfl (by rw [hf2 45 13 (by decide) (by decide)]; exact hm) ?_
  refine ev_icmp_ge (tgt := 150) d_Mo_enter_53 (by decide) rfl (fun hcm => ?_) (fun hcm => ?_)
  · have ecm : c = m := by omega
    refine ev_iconst d_Mo_enter_150 rfl ⟨by decide, by decide⟩ ?_
    exact ev_retIR d_Mo_enter_151 (⟨by rw [← ecm, hen]; rfl, by rw [← ecm, hen]; exact hE2⟩) (Or.inr ⟨rfl, by omega⟩)
  · have hcl := hL c (by omega)
    refine ev_aload_n (i := 0) d_Mo_enter_56 rfl rfl rfl ?_
    refine ev_getR d_Mo_enter_57 rfl lk_Mo_40 lx_45 rfl ?_
    refine ev_iload (i := 4) d_Mo_enter_60 rfl rfl ?_
    refine ev_iaload (z := M 56 c) d_Mo_enter_62 rfl lx_56 (by omega) (by omega) (hf2 56 _ (by decide) (by omega)) ?_
    refine ev_iload_n (i := 1) d_Mo_enter_63 rfl rfl rfl ?_
    refine ev_icmp_ne (tgt := 71) d_Mo_enter_64 (by decide) rfl (fun hcf => ?_) (fun hcf => ?_)
    · refine ev_iconst d_Mo_enter_71 rfl ⟨by decide, by decide⟩ ?_
      refine ev_istore (i := 5) d_Mo_enter_72 rfl (by decide) rfl ?_
      refine ev_iconst d_Mo_enter_74 rfl ⟨by decide, by decide⟩ ?_
      refine ev_istore (i := 6) d_Mo_enter_75 rfl (by decide) rfl ?_
      refine ev_iload (i := 6) d_Mo_enter_77 rfl rfl ?_
      refine ev_iload_n (i := 2) d_Mo_enter_79 rfl rfl rfl ?_
      refine ev_icmp_ge (tgt := 125) d_Mo_enter_80 (by decide) rfl (fun hz0 => ?_) (fun hz0 => ?_)
      · refine ev_iload (i := 5) d_Mo_enter_125 rfl rfl ?_
        refine ev_if_eq_t (tgt := 144) d_Mo_enter_127 (by decide) (by decide) ?_
        refine ev_iinc (z := ((c + 1 : Nat) : Int)) d_Mo_enter_144 rfl rfl (by decide) (by rw [g_w_id (by unfold g_rg; omega)]; omega) rfl ?_
        refine ev_goto (tgt := 47) d_Mo_enter_147 (by decide) ?_
        exact ev_le (ih (m - (c + 1)) [some (g_r 45), some (g_i (f : Int)), some (g_i (w : Int)), some (g_i ((st : Int) + 1)), some (g_i ((c + 1 : Nat) : Int)), none, none] M2 (by omega) ⟨c + 1, bc, by omega, rfl, rfl, hg2, u_en_n hen hcf, hb2⟩) rfl ⟨rfl, rfl, rfl, rfl, rfl, trivial⟩
      · refine ev_iload (i := 5) d_Mo_enter_83 rfl rfl ?_
        refine ev_if_eq_t (tgt := 125) d_Mo_enter_85 (by decide) (by decide) ?_
        refine ev_iload (i := 5) d_Mo_enter_125 rfl rfl ?_
        refine ev_if_eq_t (tgt := 144) d_Mo_enter_127 (by decide) (by decide) ?_
        refine ev_iinc (z := ((c + 1 : Nat) : Int)) d_Mo_enter_144 rfl rfl (by decide) (by rw [g_w_id (by unfold g_rg; omega)]; omega) rfl ?_
        refine ev_goto (tgt := 47) d_Mo_enter_147 (by decide) ?_
        exact ev_le (ih (m - (c + 1)) [some (g_r 45), some (g_i (f : Int)), some (g_i (w : Int)), some (g_i ((st : Int) + 1)), some (g_i ((c + 1 : Nat) : Int)), none, none] M2 (by omega) ⟨c + 1, bc, by omega, rfl, rfl, hg2, u_en_n hen hcf, hb2⟩) rfl ⟨rfl, rfl, rfl, rfl, rfl, trivial⟩
    · refine ev_iconst d_Mo_enter_67 rfl ⟨by decide, by decide⟩ ?_
      refine ev_goto (tgt := 72) d_Mo_enter_68 (by decide) ?_
      refine ev_istore (i := 5) d_Mo_enter_72 rfl (by decide) rfl ?_
      refine ev_iconst d_Mo_enter_74 rfl ⟨by decide, by decide⟩ ?_
      refine ev_istore (i := 6) d_Mo_enter_75 rfl (by decide) rfl ?_
      refine ev_wh (fun n ls1 M3 => ∃ (k : Nat) (fl : Bool) (bk : Nat → u_F), k ≤ w ∧ n = w - k ∧ ls1 = [some (g_r 45), some (g_i (f : Int)), some (g_i (w : Int)), some (g_i ((st : Int) + 1)), some (g_i (c : Int)), some (g_i (if fl = true then 1 else 0)), some (g_i (k : Int))] ∧ g74 (st + 1) (g_up (g_up M1 45 34 ((st : Int) + 1)) 45 38 ((H.length : Int) - w)) M3 ∧ u_fd (fun k b => u_m M (M 57 (3 * c + k)).toNat ((fun k => (H[w - 1 - k]?).getD Std.Format.nil) k) b) k bc = (fl, bk) ∧ u_b1 M3 (st + 1) bk) ?_ (n := w) (⟨0, true, bc, Nat.zero_le _, rfl, rfl, hg2, rfl, hb2⟩)
      intro n ls1 M3 hP3 ih2
      obtain ⟨k, fl, bk, hk, hn3, rfl, hg3, hfk, hb3⟩ := hP3
      have hE3 := u_E_0 hf hK hH hwl hg3 hb3
      have hf3 := hE3.1
      refine ev_iload (i := 6) d_Mo_enter_77 rfl rfl ?_
      refine ev_iload_n (i := 2) d_Mo_enter_79 rfl rfl rfl ?_
      refine ev_icmp_ge (tgt := 125) d_Mo_enter_80 (by decide) rfl (fun hkw => ?_) (fun hkw => ?_)
      · refine ev_iload (i := 5) d_Mo_enter_125 rfl rfl ?_
        refine ev_beq (tgt := 144) d_Mo_enter_127 (by decide) rfl (fun hfe => ?_) (fun hfe => ?_)
        · have hfl4 : fl = false := by
            cases fl
            · rfl
            · first | exact absurd rfl hfl | exact absurd rfl hfe
          have hfw : u_fd (fun k b => u_m M (M 57 (3 * c + k)).toNat ((fun k => (H[w - 1 - k]?).getD Std.Format.nil) k) b) w bc = (false, bk) := by
            have h9 := u_fd_n (hfl4 ▸ hfk) (w - k)
            rw [show k + (w - k) = w by omega] at h9
            exact h9
          refine ev_iinc (z := ((c + 1 : Nat) : Int)) d_Mo_enter_144 rfl rfl (by decide) (by rw [g_w_id (by unfold g_rg; omega)]; omega) rfl ?_
          refine ev_goto (tgt := 47) d_Mo_enter_147 (by decide) ?_
          exact ev_le (ih (m - (c + 1)) [some (g_r 45), some (g_i (f : Int)), some (g_i (w : Int)), some (g_i ((st : Int) + 1)), some (g_i ((c + 1 : Nat) : Int)), none, none] M3 (by omega) ⟨c + 1, bk, by omega, rfl, rfl, hg3, u_en_f hen hcf (by rw [u_mc_fd]; exact hfw), hb3⟩) rfl ⟨rfl, rfl, rfl, rfl, rfl, trivial⟩
        · have ekw : w = k := by first | omega | exact absurd hfe hfl
          have hfl3 : fl = true := hfe
          subst hfl3
          have hend : u_en M f w (fun k => (H[w - 1 - k]?).getD Std.Format.nil) b m = (some c, bk) := by
            have h9 := u_en_t hen hcf (bk := bk) (by rw [u_mc_fd]; subst ekw; exact hfk) (m - (c + 1))
            rw [show c + 1 + (m - (c + 1)) = m by omega] at h9
            exact h9
          refine ev_aload_n (i := 0) d_Mo_enter_130 rfl rfl rfl ?_
          refine ev_aload_n (i := 0) d_Mo_enter_131 rfl rfl rfl ?_
          refine ev_getR d_Mo_enter_132 rfl lk_Mo_46 lx_45 rfl ?_
          refine ev_iload (i := 4) d_Mo_enter_135 rfl rfl ?_
          refine ev_iaload (z := M 58 c) d_Mo_enter_137 rfl lx_58 (by omega) (by omega) (hf3 58 _ (by decide) (by omega)) ?_
          refine ev_iload_n (i := 3) d_Mo_enter_138 rfl rfl rfl ?_
          refine ev_callV (As := [g_i (M 58 c), g_i ((st : Int) + 1)]) d_Mo_enter_139 rfl cl_Mo_240 ((c_Mo_doLater (d + 1) M3 (M 58 c) (st + 1) K.length hE3.2.2.2.2.2.1.1 (by omega))) (g_hR (by decide)) g_h0 lx_45 rfl rfl (Nat.le_of_ble_eq_true rfl) rfl rfl ?_
          refine ev_iconst d_Mo_enter_142 rfl ⟨by decide, by decide⟩ ?_
          exact ev_retIR d_Mo_enter_143 (⟨by rw [hend]; rfl, by rw [hend]; exact u_E_p hE3 (M 58 c) (st + 1)⟩) (Or.inr ⟨rfl, by omega⟩)
      · refine ev_iload (i := 5) d_Mo_enter_83 rfl rfl ?_
        refine ev_beq (tgt := 125) d_Mo_enter_85 (by decide) rfl (fun hfl => ?_) (fun hfl => ?_)
        · refine ev_iload (i := 5) d_Mo_enter_125 rfl rfl ?_
          refine ev_beq (tgt := 144) d_Mo_enter_127 (by decide) rfl (fun hfe => ?_) (fun hfe => ?_)
          · have hfl4 : fl = false := by
              cases fl
              · rfl
              · first | exact absurd rfl hfl | exact absurd rfl hfe
            have hfw : u_fd (fun k b => u_m M (M 57 (3 * c + k)).toNat ((fun k => (H[w - 1 - k]?).getD Std.Format.nil) k) b) w bc = (false, bk) := by
              have h9 := u_fd_n (hfl4 ▸ hfk) (w - k)
              rw [show k + (w - k) = w by omega] at h9
              exact h9
            refine ev_iinc (z := ((c + 1 : Nat) : Int)) d_Mo_enter_144 rfl rfl (by decide) (by rw [g_w_id (by unfold g_rg; omega)]; omega) rfl ?_
            refine ev_goto (tgt := 47) d_Mo_enter_147 (by decide) ?_
            exact ev_le (ih (m - (c + 1)) [some (g_r 45), some (g_i (f : Int)), some (g_i (w : Int)), some (g_i ((st : Int) + 1)), some (g_i ((c + 1 : Nat) : Int)), none, none] M3 (by omega) ⟨c + 1, bk, by omega, rfl, rfl, hg3, u_en_f hen hcf (by rw [u_mc_fd]; exact hfw), hb3⟩) rfl ⟨rfl, rfl, rfl, rfl, rfl, trivial⟩
          · have ekw : w = k := by first | omega | exact absurd hfe hfl
            have hfl3 : fl = true := hfe
            subst hfl3
            have hend : u_en M f w (fun k => (H[w - 1 - k]?).getD Std.Format.nil) b m = (some c, bk) := by
              have h9 := u_en_t hen hcf (bk := bk) (by rw [u_mc_fd]; subst ekw; exact hfk) (m - (c + 1))
              rw [show c + 1 + (m - (c + 1)) = m by omega] at h9
              exact h9
            refine ev_aload_n (i := 0) d_Mo_enter_130 rfl rfl rfl ?_
            refine ev_aload_n (i := 0) d_Mo_enter_131 rfl rfl rfl ?_
            refine ev_getR d_Mo_enter_132 rfl lk_Mo_46 lx_45 rfl ?_
            refine ev_iload (i := 4) d_Mo_enter_135 rfl rfl ?_
            refine ev_iaload (z := M 58 c) d_Mo_enter_137 rfl lx_58 (by omega) (by omega) (hf3 58 _ (by decide) (by omega)) ?_
            refine ev_iload_n (i := 3) d_Mo_enter_138 rfl rfl rfl ?_
            refine ev_callV (As := [g_i (M 58 c), g_i ((st : Int) + 1)]) d_Mo_enter_139 rfl cl_Mo_240 ((c_Mo_doLater (d + 1) M3 (M 58 c) (st + 1) K.length hE3.2.2.2.2.2.1.1 (by omega))) (g_hR (by decide)) g_h0 lx_45 rfl rfl (Nat.le_of_ble_eq_true rfl) rfl rfl ?_
            refine ev_iconst d_Mo_enter_142 rfl ⟨by decide, by decide⟩ ?_
            exact ev_retIR d_Mo_enter_143 (⟨by rw [hend]; rfl, by rw [hend]; exact u_E_p hE3 (M 58 c) (st + 1)⟩) (Or.inr ⟨rfl, by omega⟩)
        · have hkw2 : k < w := by omega
          have hpa := hcl.2.2.2.2.2.2.1 k (by rw [hcf, Int.toNat_natCast, hw]; omega)
          obtain ⟨p, hp⟩ : ∃ p : Nat, M 57 (3 * c + k) = p := ⟨(M 57 (3 * c + k)).toNat, by omega⟩
          rw [hp, Int.toNat_natCast] at hpa
          obtain ⟨x, t, htk, hxk, htx⟩ := u_hk_at hH hwl hkw2
          have hfl2 : fl = true := hfl
          subst hfl2
          refine ev_aload_n (i := 0) d_Mo_enter_88 rfl rfl rfl ?_
          refine ev_aload_n (i := 0) d_Mo_enter_89 rfl rfl rfl ?_
          refine ev_getR d_Mo_enter_90 rfl lk_Mo_43 lx_45 rfl ?_
          refine ev_iconst d_Mo_enter_93 rfl ⟨by decide, by decide⟩ ?_
          refine ev_iload (i := 4) d_Mo_enter_94 rfl rfl ?_
          refine ev_imul (z := 3 * (c : Int)) d_Mo_enter_96 rfl (g_w_id (by unfold g_rg; omega)) ?_
          refine ev_iload (i := 6) d_Mo_enter_97 rfl rfl ?_
          refine ev_iadd (z := ((3 * c + k : Nat) : Int)) d_Mo_enter_99 rfl (by rw [g_w_id (by unfold g_rg; omega)]; omega) ?_
          refine ev_iaload (z := (p : Int)) d_Mo_enter_100 rfl lx_57 (by omega) (by omega) (by rw [Int.toNat_natCast, hf3 57 _ (by decide) (by omega)]; exact hp) ?_
          refine ev_aload_n (i := 0) d_Mo_enter_101 rfl rfl rfl ?_
          refine ev_getR d_Mo_enter_102 rfl lk_Mo_92 lx_45 rfl ?_
          refine ev_aload_n (i := 0) d_Mo_enter_105 rfl rfl rfl ?_
          refine ev_getI (z := (H.length : Int) - w) d_Mo_enter_106 rfl lk_Mo_234 lx_45 rfl (by rw [hE3.2.2.2.2.2.2.1.1, List.length_drop]; omega) ?_
          refine ev_iload (i := 6) d_Mo_enter_109 rfl rfl ?_
          refine ev_iadd (z := ((H.length - w + k : Nat) : Int)) d_Mo_enter_111 rfl (by rw [g_w_id (by unfold g_rg; omega)]; omega) ?_
          refine ev_iaload (z := (x : Int)) d_Mo_enter_112 rfl lx_73 (by omega) (by omega) (by rw [Int.toNat_natCast, hg3 73 _ (by omega)]; exact hxk) ?_
          refine ev_iload_n (i := 3) d_Mo_enter_113 rfl rfl rfl ?_
          refine ev_callVR (As := [g_i ((p : Int)), g_i ((x : Int)), g_i ((st : Int) + 1)]) d_Mo_enter_114 rfl cl_Mo_246 (c_Mo_matches (d + 0) M M3 p x (st + 1) t bk hf3 hT hrt (by omega) hpa.2.2.2.1 hpa.2.2.2.2.2 (by rw [hE3.2.1]; exact hnv) (hE3.2.2.2.2.1 t x htx) (by omega) hb3) (g_hR (by decide)) g_h0 lx_45 rfl rfl (Nat.le_of_ble_eq_true rfl) rfl rfl (fun M4 v9 g9 => ?_)
          obtain ⟨rfl, hgm, hbm⟩ := g9
          refine ev_istore (i := 5) d_Mo_enter_117 rfl (by decide) rfl ?_
          refine ev_iinc (z := ((k + 1 : Nat) : Int)) d_Mo_enter_119 rfl rfl (by decide) (by rw [g_w_id (by unfold g_rg; omega)]; omega) rfl ?_
          refine ev_goto (tgt := 77) d_Mo_enter_122 (by decide) ?_
          exact ev_le (ih2 (w - (k + 1)) [some (g_r 45), some (g_i (f : Int)), some (g_i (w : Int)), some (g_i ((st : Int) + 1)), some (g_i (c : Int)), some (g_i (if (u_m M p t bk).1 = true then 1 else 0)), some (g_i ((k + 1 : Nat) : Int))] _ (by omega) ⟨k + 1, _, _, by omega, rfl, rfl, hg3.tr hgm, by rw [u_fd_y hfk]; show u_m M (M 57 (3 * c + k)).toNat ((H[w - 1 - k]?).getD Std.Format.nil) bk = _; rw [hp, Int.toNat_natCast, htk]; rfl, hbm⟩) rfl ⟨rfl, rfl, rfl, rfl, rfl, rfl, rfl, trivial⟩
theorem c_Mo_enter_0 (d : Nat) (M : g_M) (f : Nat) (hst : M 45 34 = 200) : Con y_Mo_enter w_Mo_enter (g_rm (d)) LX M [g_r 45, g_i (f : Int)] LX M (some (g_i 0)) := by
  refine con_of (av := [g_r 45, g_i (f : Int)]) (ls0 := [some (g_r 45), some (g_i (f : Int)), none, none, none, none, none]) (by decide) rfl (Nat.le_of_ble_eq_true rfl) (g_hls (av := [g_r 45, g_i (f : Int)]) (k := 5)) (fun _ h9 => List.mem_cons_of_mem _ h9) ?_
  refine ev_aload_n (i := 0) d_Mo_enter_0 rfl rfl rfl ?_
  refine ev_getI (z := 200) d_Mo_enter_1 rfl lk_Mo_243 lx_45 rfl (hst) ?_
  refine ev_sipush d_Mo_enter_4 rfl (by decide +kernel) ⟨by decide, by decide⟩ ?_
  refine ev_icmp_ne_f (tgt := 12) d_Mo_enter_7 (by decide) rfl (by decide) ?_
  refine ev_iconst d_Mo_enter_10 rfl ⟨by decide, by decide⟩ ?_
  exact ev_retI d_Mo_enter_11 (by first | rfl | omega | simp_all) rfl (Or.inr ⟨rfl, by omega⟩)
