theorem y_W_y {M : g_M} {c f w i p j : Nat} (hf : M 56 c = f) (hw : M 50 f = w) (hi : i < w) (hp : M 57 (3 * c + i) = p) (hj : j < 4) : y_W M c (4 * i + j) = y_w M p j := by
  unfold y_W
  rw [show (4 * i + j) / 4 = i by omega, show (4 * i + j) % 4 = j by omega, hf, Int.toNat_natCast, hw, if_pos (by omega), hp, Int.toNat_natCast]
theorem y_W_n {M : g_M} {c f w s : Nat} (hf : M 56 c = f) (hw : M 50 f = w) (hs : 4 * w ≤ s) : y_W M c s = -1 := by
  unfold y_W
  rw [hf, Int.toNat_natCast, hw, if_neg (by omega)]
theorem c_Co_readPatterns (d : Nat) (M : g_M) (M0 : g_M) (f nf : Nat) (hP : r_P M) (he : e28 M M0) (hf6 : f < 6) (hnf : M 24 f = nf) (hnf6 : nf ≤ 6) (hrow : ∀ r : Nat, r < nf → ∃ c : Nat, (c : Int) < M 45 13 ∧ M 56 c = f ∧ M 23 (6 * f + r) = c) : ConR y_Co_readPatterns w_Co_readPatterns (g_rm (d + 2)) LX M0 [g_r 27, g_i (f : Int)] LX (fun M2 v2 => v2 = none ∧ e28 M M2 ∧ ∀ q c : Nat, q < nf → M 23 (6 * f + q) = c → ∀ s : Nat, s < 12 → M2 28 (12 * q + s) = y_W M c s) := by
  refine con_ofR (av := [g_r 27, g_i (f : Int)]) (ls0 := [some (g_r 27), some (g_i (f : Int)), none, none, none]) (by decide) rfl (Nat.le_of_ble_eq_true rfl) (g_hls (av := [g_r 27, g_i (f : Int)]) (k := 3)) (fun _ h9 => List.mem_cons_of_mem _ h9) ?_
  refine ev_iconst d_Co_readPatterns_0 rfl ⟨by decide, by decide⟩ ?_
  refine ev_istore_n (i := 2) d_Co_readPatterns_1 rfl rfl (by decide) rfl ?_
  refine ev_wh (fun n ls1 M1 => ∃ r : Nat, r ≤ nf ∧ n = nf - r ∧ ls1 = [some (g_r 27), some (g_i (f : Int)), some (g_i (r : Int)), none, none] ∧ e28 M M1 ∧ ∀ q c : Nat, q < r → M 23 (6 * f + q) = c → ∀ s : Nat, s < 12 → M1 28 (12 * q + s) = y_W M c s) ?_ (n := nf) (⟨0, Nat.zero_le _, rfl, rfl, he, fun q c hq => by omega⟩)
  intro n ls1 M1 hP0 ih
  obtain ⟨r, hr, hn, rfl, he1, hv⟩ := hP0
  refine ev_iload_n (i := 2) d_Co_readPatterns_2 rfl rfl rfl ?_
  refine ev_aload_n (i := 0) d_Co_readPatterns_3 rfl rfl rfl ?_
  refine ev_getR d_Co_readPatterns_4 rfl lk_Co_22 lx_27 rfl ?_
  refine ev_iload_n (i := 1) d_Co_readPatterns_7 rfl rfl rfl ?_
  refine ev_callV (As := [g_i (f : Int)]) d_Co_readPatterns_8 rfl cl_Co_47 ((c_Cl_howManyOf (d + 1) M1 f hf6).eqr (b := (nf : Int)) (by rw [he1.fn (k := 24) (by decide)]; exact hnf)) (g_hR (by decide)) g_h0 lx_19 rfl rfl (Nat.le_of_ble_eq_true rfl) rfl rfl ?_
  refine ev_icmp_ge (tgt := 104) d_Co_readPatterns_11 (by decide) rfl (fun hz => ?_) (fun hz => ?_)
  · exact ev_retVR d_Co_readPatterns_104 (⟨rfl, he1, fun q c hq => hv q c (by omega)⟩)
  · obtain ⟨c, hcm, hcf, hc23⟩ := hrow r (by omega)
    obtain ⟨f9, w, b9, c24, hf56, -, -, -, hw50, hw7, hw3, -, -, -, -, hpat⟩ := r_cn hP hcm
    have ef : f = f9 := by omega
    subst ef
    refine ev_aload_n (i := 0) d_Co_readPatterns_14 rfl rfl rfl ?_
    refine ev_getR d_Co_readPatterns_15 rfl lk_Co_22 lx_27 rfl ?_
    refine ev_iload_n (i := 1) d_Co_readPatterns_18 rfl rfl rfl ?_
    refine ev_iload_n (i := 2) d_Co_readPatterns_19 rfl rfl rfl ?_
    refine ev_callV (As := [g_i (f : Int), g_i (r : Int)]) d_Co_readPatterns_20 rfl cl_Co_53 ((c_Cl_ofFunction (d + 1) M1 f r hf6 (by omega)).eqr (b := (c : Int)) (by rw [he1.fn (k := 23) (by decide)]; exact hc23)) (g_hR (by decide)) g_h0 lx_19 rfl rfl (Nat.le_of_ble_eq_true rfl) rfl rfl ?_
    refine ev_istore_n (i := 3) d_Co_readPatterns_23 rfl rfl (by decide) rfl ?_
    refine ev_iconst d_Co_readPatterns_24 rfl ⟨by decide, by decide⟩ ?_
    refine ev_istore (i := 4) d_Co_readPatterns_25 rfl (by decide) rfl ?_
    refine ev_wh (fun n2 ls2 M2 => ∃ s : Nat, s ≤ 12 ∧ n2 = 12 - s ∧ ls2 = [some (g_r 27), some (g_i (f : Int)), some (g_i (r : Int)), some (g_i (c : Int)), some (g_i (s : Int))] ∧ e28 M M2 ∧ (∀ j : Nat, j < s → M2 28 (12 * r + j) = -1) ∧ ∀ b : Nat, b < 12 * r → M2 28 b = M1 28 b) ?_ (n := 12) (⟨0, Nat.zero_le _, rfl, rfl, he1, fun j hj => by omega, fun _ _ => rfl⟩)
    intro n2 ls2 M2 hP2 ih2
    obtain ⟨s, hs, hn2, rfl, he2, h21, h22⟩ := hP2
    refine ev_iload (i := 4) d_Co_readPatterns_27 rfl rfl ?_
    refine ev_bipush d_Co_readPatterns_29 rfl (by decide +kernel) ⟨by decide, by decide⟩ ?_
    refine ev_icmp_ge (tgt := 53) d_Co_readPatterns_31 (by decide) rfl (fun hz2 => ?_) (fun hz2 => ?_)
    · refine ev_iconst d_Co_readPatterns_53 rfl ⟨by decide, by decide⟩ ?_
      refine ev_istore (i := 4) d_Co_readPatterns_54 rfl (by decide) rfl ?_
      refine ev_wh (fun n3 ls3 M3 => ∃ i : Nat, i ≤ w ∧ n3 = w - i ∧ ls3 = [some (g_r 27), some (g_i (f : Int)), some (g_i (r : Int)), some (g_i (c : Int)), some (g_i (i : Int))] ∧ e28 M M3 ∧ (∀ j : Nat, j < 4 * i → M3 28 (12 * r + j) = y_W M c j) ∧ (∀ j : Nat, 4 * i ≤ j → j < 12 → M3 28 (12 * r + j) = -1) ∧ ∀ b : Nat, b < 12 * r → M3 28 b = M1 28 b) ?_ (n := w) (⟨0, Nat.zero_le _, rfl, rfl, he2, fun j hj => by omega, fun j _ hj => h21 j (by omega), h22⟩)
      intro n3 ls3 M3 hP3 ih3
      obtain ⟨i, hi, hn3, rfl, he3, h31, h32, h33⟩ := hP3
      refine ev_iload (i := 4) d_Co_readPatterns_56 rfl rfl ?_
      refine ev_aload_n (i := 0) d_Co_readPatterns_58 rfl rfl rfl ?_
      refine ev_getR d_Co_readPatterns_59 rfl lk_Co_15 lx_27 rfl ?_
      refine ev_iload_n (i := 1) d_Co_readPatterns_62 rfl rfl rfl ?_
      refine ev_callV (As := [g_i (f : Int)]) d_Co_readPatterns_63 rfl cl_Co_57 ((c_Sg_width_f (d + 1) M3 f hf6).eqr (b := (w : Int)) (by rw [he3.fn (k := 7) (by decide)]; exact hw7)) (g_hR (by decide)) g_h0 lx_5 rfl rfl (Nat.le_of_ble_eq_true rfl) rfl rfl ?_
      refine ev_icmp_ge (tgt := 98) d_Co_readPatterns_66 (by decide) rfl (fun hz3 => ?_) (fun hz3 => ?_)
      · refine ev_iinc (z := (r : Int) + 1) d_Co_readPatterns_98 rfl rfl (by decide) (g_w_id (by unfold g_rg; omega)) rfl ?_
        refine ev_goto (tgt := 2) d_Co_readPatterns_101 (by decide) ?_
        refine ev_le (ih (nf - (r + 1)) [some (g_r 27), some (g_i (f : Int)), some (g_i ((r + 1 : Nat) : Int)), none, none] M3 (by omega) ⟨r + 1, by omega, rfl, rfl, he3, fun q c9 hq hqc s hs => ?_⟩) rfl ⟨rfl, rfl, rfl, trivial⟩
        have ei : i = w := by omega
        subst ei
        by_cases hqr : q = r
        · subst hqr
          have ec : c9 = c := by omega
          subst ec
          by_cases h4 : s < 4 * i
          · exact h31 s h4
          · rw [h32 s (by omega) hs, y_W_n hf56 hw50 (by omega)]
        · rw [h33 _ (by omega)]; exact hv q c9 (by omega) hqc s hs
      · obtain ⟨p, hp1, hp21, hpt, hp54, hp55, hp16, hpn, hpl, -⟩ := hpat i (by omega)
        refine ev_aload_n (i := 0) d_Co_readPatterns_69 rfl rfl rfl ?_
        refine ev_aload_n (i := 0) d_Co_readPatterns_70 rfl rfl rfl ?_
        refine ev_getR d_Co_readPatterns_71 rfl lk_Co_22 lx_27 rfl ?_
        refine ev_iload_n (i := 3) d_Co_readPatterns_74 rfl rfl rfl ?_
        refine ev_iload (i := 4) d_Co_readPatterns_75 rfl rfl ?_
        refine ev_callV (As := [g_i (c : Int), g_i (i : Int)]) d_Co_readPatterns_77 rfl cl_Co_60 ((c_Cl_pattern (d + 1) M3 c i c24 (by omega)).eqr (b := (p : Int)) (by rw [he3.fn (k := 21) (by decide)]; exact hp21)) (g_hR (by decide)) g_h0 lx_19 rfl rfl (Nat.le_of_ble_eq_true rfl) rfl rfl ?_
        refine ev_iload_n (i := 2) d_Co_readPatterns_80 rfl rfl rfl ?_
        refine ev_bipush d_Co_readPatterns_81 rfl (by decide +kernel) ⟨by decide, by decide⟩ ?_
        refine ev_imul (z := 12 * (r : Int)) d_Co_readPatterns_83 rfl (by rw [g_w_id (by unfold g_rg; omega)]; omega) ?_
        refine ev_iload (i := 4) d_Co_readPatterns_84 rfl rfl ?_
        refine ev_iconst d_Co_readPatterns_86 rfl ⟨by decide, by decide⟩ ?_
        refine ev_imul (z := 4 * (i : Int)) d_Co_readPatterns_87 rfl (by rw [g_w_id (by unfold g_rg; omega)]; omega) ?_
        refine ev_iadd (z := ((12 * r + 4 * i : Nat) : Int)) d_Co_readPatterns_88 rfl (by rw [g_w_id (by unfold g_rg; omega)]; omega) ?_
        refine ev_callVR (As := [g_i (p : Int), g_i (((12 * r + 4 * i : Nat) : Int))]) d_Co_readPatterns_89 rfl cl_Co_63 (c_Co_readPattern (d + 0) hP M3 p (12 * r + 4 * i) he3 hpt hp16 (by omega) (fun j hj => by rw [show 12 * r + 4 * i + j = 12 * r + (4 * i + j) by omega]; exact h32 _ (by omega) (by omega))) (g_hR (by decide)) g_h0 lx_27 rfl rfl (Nat.le_of_ble_eq_true rfl) rfl rfl (fun M4 v9 g9 => ?_)
        obtain ⟨rfl, he4, h41, h42⟩ := g9
        refine ev_iinc (z := (i : Int) + 1) d_Co_readPatterns_92 rfl rfl (by decide) (g_w_id (by unfold g_rg; omega)) rfl ?_
        refine ev_goto (tgt := 56) d_Co_readPatterns_95 (by decide) ?_
        refine ev_le (ih3 (w - (i + 1)) [some (g_r 27), some (g_i (f : Int)), some (g_i (r : Int)), some (g_i (c : Int)), some (g_i ((i + 1 : Nat) : Int))] M4 (by omega) ⟨i + 1, by omega, rfl, rfl, he4, fun j hj => ?_, fun j hj hj12 => ?_, fun b hb => ?_⟩) rfl ⟨rfl, rfl, rfl, rfl, rfl, trivial⟩
        · by_cases hji : j < 4 * i
          · rw [h42 _ (by omega)]; exact h31 j hji
          · have h9 := h41 (j - 4 * i) (by omega)
            rw [show 12 * r + 4 * i + (j - 4 * i) = 12 * r + j by omega] at h9
            have h8 := y_W_y (j := j - 4 * i) hf56 hw50 (by omega : i < w) hp1 (by omega)
            rw [show 4 * i + (j - 4 * i) = j by omega] at h8
            rw [h9, h8]
        · rw [h42 _ (by omega)]; exact h32 j (by omega) hj12
        · rw [h42 _ (by omega)]; exact h33 b hb
    · refine ev_aload_n (i := 0) d_Co_readPatterns_34 rfl rfl rfl ?_
      refine ev_getR d_Co_readPatterns_35 rfl lk_Co_26 lx_27 rfl ?_
      refine ev_iload_n (i := 2) d_Co_readPatterns_38 rfl rfl rfl ?_
      refine ev_bipush d_Co_readPatterns_39 rfl (by decide +kernel) ⟨by decide, by decide⟩ ?_
      refine ev_imul (z := 12 * (r : Int)) d_Co_readPatterns_41 rfl (by rw [g_w_id (by unfold g_rg; omega)]; omega) ?_
      refine ev_iload (i := 4) d_Co_readPatterns_42 rfl rfl ?_
      refine ev_iadd (z := 12 * (r : Int) + (s : Int)) d_Co_readPatterns_44 rfl (g_w_id (by unfold g_rg; omega)) ?_
      refine ev_iconst d_Co_readPatterns_45 rfl ⟨by decide, by decide⟩ ?_
      refine ev_iastore d_Co_readPatterns_46 rfl lx_28 (by omega) (by omega) ?_
      rw [show Int.toNat ((12 * (r : Int) + (s : Int))) = (12 * r + s) by omega]
      refine ev_iinc (z := (s : Int) + 1) d_Co_readPatterns_47 rfl rfl (by decide) (g_w_id (by unfold g_rg; omega)) rfl ?_
      refine ev_goto (tgt := 27) d_Co_readPatterns_50 (by decide) ?_
      refine ev_le (ih2 (12 - (s + 1)) [some (g_r 27), some (g_i (f : Int)), some (g_i (r : Int)), some (g_i (c : Int)), some (g_i ((s + 1 : Nat) : Int))] _ (by omega) ⟨s + 1, by omega, rfl, rfl, he2.up _ _, fun j hj => ?_, fun b hb => ?_⟩) rfl ⟨rfl, rfl, rfl, rfl, rfl, trivial⟩
      · simp only [g_up, true_and]
        by_cases hjs : j = s
        · rw [if_pos (by omega)]
        · rw [if_neg (by omega)]; exact h21 j (by omega)
      · simp only [g_up, true_and]; rw [if_neg (by omega)]; exact h22 b hb
/-- all but the class's wanted and filled slots -/
def e289 (M M1 : g_M) : Prop := ∀ k b : Nat, k ≠ 28 → k ≠ 29 → M1 k b = M k b
theorem e289.rf (M : g_M) : e289 M M := fun _ _ _ _ => rfl
theorem e289.fn {M M1 : g_M} (h : e289 M M1) {k : Nat} (h1 : k ≠ 28) (h2 : k ≠ 29) : M1 k = M k := funext fun b => h k b h1 h2
theorem r_fr_289 {M M1 : g_M} (h : e289 M M1) : r_fr M M1 := ⟨fun k hk => h.fn (by omega) (by omega), h 34 11 (by decide) (by decide), h 34 14 (by decide) (by decide), fun y _ _ _ _ _ _ => h 45 y (by decide) (by decide)⟩
theorem y_cov_cg {M M2 : g_M} (h : ∀ k : Nat, 46 ≤ k ∧ k < 59 → M2 k = M k) (h0 : M2 45 0 = M 45 0) (h13 : M2 45 13 = M 45 13) (f : Nat) (R : Nat → Int) : y_cov M2 f R ↔ y_cov M f R := by
  unfold y_cov y_v y_C y_m y_W y_w
  rw [h0, h13, h 46 (by decide), h 47 (by decide), h 48 (by decide), h 50 (by decide), h 51 (by decide), h 52 (by decide), h 53 (by decide), h 56 (by decide), h 57 (by decide)]
theorem y_W_cg {M M2 : g_M} (h : ∀ k : Nat, 46 ≤ k ∧ k < 59 → M2 k = M k) (c s : Nat) : y_W M2 c s = y_W M c s := by
  unfold y_W y_w
  rw [h 47 (by decide), h 50 (by decide), h 52 (by decide), h 53 (by decide), h 56 (by decide), h 57 (by decide)]
theorem y_i_cg {M M2 : g_M} (h : ∀ k : Nat, 46 ≤ k ∧ k < 59 → M2 k = M k) (h0 : M2 45 0 = M 45 0) (h4 : M2 45 4 = M 45 4) (hi : y_i M) : y_i M2 := by
  unfold y_i y_C at *
  rw [h0, h4, h 46 (by decide), h 47 (by decide), h 48 (by decide), h 50 (by decide), h 51 (by decide)]
  exact hi
/-- a row with no slot filled -/
def y_e : Nat → Int := fun _ => -1
theorem y_cov_ag {M : g_M} {f : Nat} {R R' : Nat → Int} (h : ∀ s : Nat, s < 12 → R s = R' s) : y_cov M f R ↔ y_cov M f R' := by
  have e : ∀ v, y_x R v ↔ y_x R' v := fun v => ⟨fun hx s hs => by rw [← h s hs]; exact hx s hs, fun hx s hs => by rw [h s hs]; exact hx s hs⟩
  unfold y_cov
  simp only [e]
theorem y_n_12 (R : Nat → Int) : ∀ i : Nat, y_n R i ≤ i
  | 0 => Nat.le_refl _
  | i + 1 => by
    have := y_n_12 R i
    rw [y_n]
    split <;> omega
theorem c_Co_allCovered (d : Nat) (M : g_M) (nn : Nat) (hP : r_P M) (hi : y_i M) (hnn : M 5 4 = nn) (hnn2 : M 45 4 = nn) (hnn6 : nn ≤ 6) : ConR y_Co_allCovered w_Co_allCovered (g_rm (d + 29)) LX M [g_r 27] LX (fun M2 v2 => ∃ r : Int, v2 = some (g_i r) ∧ (r = 0 ∨ r = 1) ∧ e289 M M2 ∧ (r = 1 ↔ ∀ f : Nat, f < nn → y_cov M f y_e)) := by
  refine con_ofR (av := [g_r 27]) (ls0 := [some (g_r 27), none, none]) (by decide) rfl (Nat.le_of_ble_eq_true rfl) (g_hls (av := [g_r 27]) (k := 2)) (fun _ h9 => List.mem_cons_of_mem _ h9) ?_
  refine ev_iconst d_Co_allCovered_0 rfl ⟨by decide, by decide⟩ ?_
  refine ev_istore_n (i := 1) d_Co_allCovered_1 rfl rfl (by decide) rfl ?_
  refine ev_wh (fun n ls1 M1 => ∃ f : Nat, f ≤ nn ∧ n = nn - f ∧ ls1 = [some (g_r 27), some (g_i (f : Int)), none] ∧ e289 M M1 ∧ ∀ q : Nat, q < f → y_cov M q y_e) ?_ (n := nn) (⟨0, Nat.zero_le _, rfl, rfl, e289.rf M, fun q hq => by omega⟩)
  intro n ls1 M1 hP0 ih
  obtain ⟨f, hf, hn, rfl, he1, hv⟩ := hP0
  have hP1 := r_P_fr hP (r_fr_289 he1)
  refine ev_iload_n (i := 1) d_Co_allCovered_2 rfl rfl rfl ?_
  refine ev_aload_n (i := 0) d_Co_allCovered_3 rfl rfl rfl ?_
  refine ev_getR d_Co_allCovered_4 rfl lk_Co_15 lx_27 rfl ?_
  refine ev_callV (As := []) d_Co_allCovered_7 rfl cl_Co_33 ((c_Sg_howMany_f (d + 28) M1).eqr (b := (nn : Int)) ((he1 5 _ (by decide) (by decide)).trans hnn)) (g_hR (by decide)) g_h0 lx_5 rfl rfl (Nat.le_of_ble_eq_true rfl) rfl rfl ?_
  refine ev_icmp_ge (tgt := 56) d_Co_allCovered_10 (by decide) rfl (fun hz => ?_) (fun hz => ?_)
  · refine ev_iconst d_Co_allCovered_56 rfl ⟨by decide, by decide⟩ ?_
    exact ev_retIR d_Co_allCovered_57 (⟨1, rfl, Or.inr rfl, he1, ⟨fun _ q hq => hv q (by omega), fun _ => rfl⟩⟩) (Or.inr ⟨rfl, by omega⟩)
  · have hf6 : f < 6 := by omega
    obtain ⟨nf, hnf⟩ : ∃ nf : Nat, M1 24 f = nf := ⟨(M1 24 f).toNat, by have h9 := (hP1.2.2.2.2.2.2.2 f hf6).1; have h8 := (s_cn_le M1 (f : Int) (M1 45 13).toNat).1; omega⟩
    have hnf6 : nf ≤ 6 := by have h9 := (hP1.2.2.2.2.2.2.2 f hf6).2.1; omega
    refine ev_aload_n (i := 0) d_Co_allCovered_13 rfl rfl rfl ?_
    refine ev_iload_n (i := 1) d_Co_allCovered_14 rfl rfl rfl ?_
    refine ev_callVR (As := [g_i (f : Int)]) d_Co_allCovered_15 rfl cl_Co_39 (c_Co_readPatterns (d + 26) M1 M1 f nf hP1 (e28.rf M1) hf6 hnf hnf6 (r_row hP1 hf6 hnf).1) (g_hR (by decide)) g_h0 lx_27 rfl rfl (Nat.le_of_ble_eq_true rfl) rfl rfl (fun M2 v9 g9 => ?_)
    obtain ⟨rfl, he28, hw28⟩ := g9
    refine ev_iconst d_Co_allCovered_18 rfl ⟨by decide, by decide⟩ ?_
    refine ev_istore_n (i := 2) d_Co_allCovered_19 rfl rfl (by decide) rfl ?_
    refine ev_wh (fun n2 ls2 M3 => ∃ s : Nat, s ≤ 12 ∧ n2 = 12 - s ∧ ls2 = [some (g_r 27), some (g_i (f : Int)), some (g_i (s : Int))] ∧ e29 M2 M3 ∧ ∀ j : Nat, j < s → M3 29 j = -1) ?_ (n := 12) (⟨0, Nat.zero_le _, rfl, rfl, e29.rf M2, fun j hj => by omega⟩)
    intro n2 ls2 M3 hP2 ih2
    obtain ⟨s, hs, hn2, rfl, he29, hj29⟩ := hP2
    refine ev_iload_n (i := 2) d_Co_allCovered_20 rfl rfl rfl ?_
    refine ev_bipush d_Co_allCovered_21 rfl (by decide +kernel) ⟨by decide, by decide⟩ ?_
    refine ev_icmp_ge (tgt := 39) d_Co_allCovered_23 (by decide) rfl (fun hz2 => ?_) (fun hz2 => ?_)
    · have ek1 : ∀ k : Nat, 46 ≤ k ∧ k < 59 → M1 k = M k := fun k hk => he1.fn (by omega) (by omega)
      have ek2 : ∀ k : Nat, 46 ≤ k ∧ k < 59 → M2 k = M1 k := fun k hk => he28.fn (by omega)
      have hP2 := r_P_fr hP1 (r_fr_289 (M1 := M2) (fun k b h1 h2 => he28 k b h1))
      have es : s = 12 := by omega
      subst es
      have hcon := c_Co_isCovered hP2 (y_i_cg ek2 (he28 45 0 (by decide)) (he28 45 4 (by decide)) (y_i_cg ek1 (he1 45 0 (by decide) (by decide)) (he1 45 4 (by decide) (by decide)) hi)) (f := f) (nf := nf) (by rw [he28.fn (k := 45) (by decide), he1.fn (k := 45) (by decide) (by decide), hnn2]; omega) ((he28 24 _ (by decide)).trans hnf) (fun r hr => by
          obtain ⟨c, c1, c2, c3⟩ := (r_row hP1 hf6 hnf).1 r hr
          exact ⟨c, by rw [he28.fn (k := 45) (by decide)]; exact c1, by rw [he28.fn (k := 56) (by decide)]; exact c2, fun s hs => by rw [y_W_cg ek2]; exact hw28 r c hr c3 s hs⟩)
        (fun c c1 c2 => by
          rw [he28.fn (k := 45) (by decide)] at c1
          rw [he28.fn (k := 56) (by decide)] at c2
          obtain ⟨r, hr, c3⟩ := (r_row hP1 hf6 hnf).2 c c1 c2
          exact ⟨r, hr, fun s hs => by rw [y_W_cg ek2]; exact hw28 r c hr c3 s hs⟩)
        12 0 d M3 rfl he29 (fun s hs => Or.inl (hj29 s hs)) (y_n_12 _ 12)
      refine ev_aload_n (i := 0) d_Co_allCovered_39 rfl rfl rfl ?_
      refine ev_iload_n (i := 1) d_Co_allCovered_40 rfl rfl rfl ?_
      refine ev_iconst d_Co_allCovered_41 rfl ⟨by decide, by decide⟩ ?_
      refine ev_callVR (As := [g_i (f : Int), g_i 0]) d_Co_allCovered_42 rfl cl_Co_43 (hcon) (g_hR (by decide)) g_h0 lx_27 rfl rfl (Nat.le_of_ble_eq_true rfl) rfl rfl (fun M9 v9 g9 => ?_)
      obtain ⟨e9, r9, rfl, hr9, hr8⟩ := g9
      rw [e9]
      have he3 : e289 M M3 := fun k b h1 h2 => ((he29 k b h2).trans (he28 k b h1)).trans (he1 k b h1 h2)
      have hcv : r9 = 1 ↔ y_cov M f y_e := by rw [hr8, y_cov_cg ek2 (he28 45 0 (by decide)) (he28 45 13 (by decide)), y_cov_cg ek1 (he1 45 0 (by decide) (by decide)) (he1 45 13 (by decide) (by decide))]; exact y_cov_ag hj29
      refine ev_if_ne (tgt := 50) d_Co_allCovered_45 (by decide) rfl (fun c2 => ?_) (fun c2 => ?_)
      · refine ev_iinc (z := (f : Int) + 1) d_Co_allCovered_50 rfl rfl (by decide) (g_w_id (by unfold g_rg; omega)) rfl ?_
        refine ev_goto (tgt := 2) d_Co_allCovered_53 (by decide) ?_
        refine ev_le (ih (nn - (f + 1)) [some (g_r 27), some (g_i ((f + 1 : Nat) : Int)), none] M3 (by omega) ⟨f + 1, by omega, rfl, rfl, he3, fun q hq => ?_⟩) rfl ⟨rfl, rfl, trivial⟩
        by_cases hqf : q = f
        · subst hqf; exact hcv.mp (by omega)
        · exact hv q (by omega)
      · refine ev_iconst d_Co_allCovered_48 rfl ⟨by decide, by decide⟩ ?_
        exact ev_retIR d_Co_allCovered_49 (⟨0, rfl, Or.inl rfl, he3, ⟨fun h9 => absurd h9 (by decide), fun h9 => absurd (hcv.mpr (h9 f (by omega))) (by omega)⟩⟩) (Or.inr ⟨rfl, by omega⟩)
    · refine ev_aload_n (i := 0) d_Co_allCovered_26 rfl rfl rfl ?_
      refine ev_getR d_Co_allCovered_27 rfl lk_Co_30 lx_27 rfl ?_
      refine ev_iload_n (i := 2) d_Co_allCovered_30 rfl rfl rfl ?_
      refine ev_iconst d_Co_allCovered_31 rfl ⟨by decide, by decide⟩ ?_
      refine ev_iastore d_Co_allCovered_32 rfl lx_29 (by omega) (by omega) ?_
      rw [show Int.toNat ((s : Int)) = s by rfl]
      refine ev_iinc (z := (s : Int) + 1) d_Co_allCovered_33 rfl rfl (by decide) (g_w_id (by unfold g_rg; omega)) rfl ?_
      refine ev_goto (tgt := 20) d_Co_allCovered_36 (by decide) ?_
      refine ev_le (ih2 (12 - (s + 1)) [some (g_r 27), some (g_i (f : Int)), some (g_i ((s + 1 : Nat) : Int))] _ (by omega) ⟨s + 1, by omega, rfl, rfl, he29.up _ _, fun j hj => ?_⟩) rfl ⟨rfl, rfl, rfl, trivial⟩
      simp only [g_up, true_and]
      by_cases hjs : j = s
      · rw [if_pos hjs]
      · rw [if_neg hjs]; exact hj29 j (by omega)
