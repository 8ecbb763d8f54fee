/-- all but the class's wanted slots -/
def e28 (M M1 : g_M) : Prop := ∀ k b : Nat, k ≠ 28 → M1 k b = M k b
theorem e28.rf (M : g_M) : e28 M M := fun _ _ _ => rfl
theorem e28.fn {M M1 : g_M} (h : e28 M M1) {k : Nat} (hk : k ≠ 28) : M1 k = M k := funext fun b => h k b hk
theorem e28.up {M M1 : g_M} (h : e28 M M1) (i : Nat) (z : Int) : e28 M (g_up M1 28 i z) := fun k b hk => by rw [g_up_ne hk]; exact h k b hk
theorem e28.tr {M M1 M2 : g_M} (h : e28 M M1) (h2 : e28 M1 M2) : e28 M M2 := fun k b hk => (h2 k b hk).trans (h k b hk)
theorem y_w_p {M : g_M} {t i w x : Nat} (h8 : 8 ≤ M 52 t) (hw : M 47 (M 52 t - 8).toNat = w) (hi : i < w) (hx : M 53 (3 * t + i) = x) : y_w M t (i + 1) = if M 52 x < 8 then -1 else M 52 x - 8 := by
  unfold y_w
  rw [if_neg (by omega), if_neg (by omega), hw, if_pos (by omega), show i + 1 - 1 = i by omega, hx, Int.toNat_natCast]
theorem y_w_q {M : g_M} {t i w : Nat} (h8 : 8 ≤ M 52 t) (hw : M 47 (M 52 t - 8).toNat = w) (hi : w ≤ i) : y_w M t (i + 1) = -1 := by
  unfold y_w
  rw [if_neg (by omega), if_neg (by omega), hw, if_neg (by omega)]
theorem c_Co_readPattern_n (d : Nat) (M : g_M) (M0 : g_M) (t : Nat) (a : Int) (he1 : e28 M M0) (ht : t < 100) (hk : ¬ M 10 t = 1) : Con y_Co_readPattern w_Co_readPattern (g_rm (d + 1)) LX M0 [g_r 27, g_i (t : Int), g_i a] LX M0 none := by
  refine con_of (av := [g_r 27, g_i (t : Int), g_i a]) (ls0 := [some (g_r 27), some (g_i (t : Int)), some (g_i a), none, none]) (by decide) rfl (Nat.le_of_ble_eq_true rfl) (g_hls (av := [g_r 27, g_i (t : Int), g_i a]) (k := 2)) (fun _ h9 => List.mem_cons_of_mem _ h9) ?_
  refine ev_aload_n (i := 0) d_Co_readPattern_0 rfl rfl rfl ?_
  refine ev_getR d_Co_readPattern_1 rfl lk_Co_18 lx_27 rfl ?_
  refine ev_iload_n (i := 1) d_Co_readPattern_4 rfl rfl rfl ?_
  refine ev_callV (As := [g_i (t : Int)]) d_Co_readPattern_5 rfl cl_Co_67 (c_Te_isMade (d + 0) M0 t ht) (g_hR (by decide)) g_h0 lx_9 rfl rfl (Nat.le_of_ble_eq_true rfl) rfl rfl ?_
  refine ev_if_ne_f (tgt := 12) d_Co_readPattern_8 (by decide) rfl (by rw [if_neg (by rw [he1.fn (k := 10) (by decide)]; exact hk)]) ?_
  exact ev_retV d_Co_readPattern_11 rfl
theorem c_Co_readPattern_y (d : Nat) (M : g_M) (M0 : g_M) (t a w : Nat) (he0 : e28 M M0) (ht : t < 100) (hk : M 10 t = 1) (hh : M 11 t = M 52 t - 8) (h8 : 8 ≤ M 52 t) (hw12 : M 12 t = w) (hw47 : M 47 (M 52 t - 8).toNat = w) (hw3 : w ≤ 3) (ha : a + 4 ≤ 72) (hz : ∀ j : Nat, 1 ≤ j → j < 4 → M0 28 (a + j) = -1) (hkid : ∀ i : Nat, i < w → ∃ x : Nat, M 53 (3 * t + i) = x ∧ M 13 (3 * t + i) = x ∧ x < 100 ∧ (M 10 x = 1 → M 11 x = M 52 x - 8) ∧ (¬ M 10 x = 1 → M 52 x < 8) ∧ (M 10 x = 1 → ¬ M 52 x < 8)) : ConR y_Co_readPattern w_Co_readPattern (g_rm (d + 1)) LX M0 [g_r 27, g_i (t : Int), g_i (a : Int)] LX (fun M2 v2 => v2 = none ∧ e28 M M2 ∧ (∀ j : Nat, j < 4 → M2 28 (a + j) = y_w M t j) ∧ ∀ b : Nat, b < a ∨ a + 4 ≤ b → M2 28 b = M0 28 b) := by
  refine con_ofR (av := [g_r 27, g_i (t : Int), g_i (a : Int)]) (ls0 := [some (g_r 27), some (g_i (t : Int)), some (g_i (a : Int)), none, none]) (by decide) rfl (Nat.le_of_ble_eq_true rfl) (g_hls (av := [g_r 27, g_i (t : Int), g_i (a : Int)]) (k := 2)) (fun _ h9 => List.mem_cons_of_mem _ h9) ?_
  refine ev_aload_n (i := 0) d_Co_readPattern_0 rfl rfl rfl ?_
  refine ev_getR d_Co_readPattern_1 rfl lk_Co_18 lx_27 rfl ?_
  refine ev_iload_n (i := 1) d_Co_readPattern_4 rfl rfl rfl ?_
  refine ev_callV (As := [g_i (t : Int)]) d_Co_readPattern_5 rfl cl_Co_67 (c_Te_isMade (d + 0) M0 t ht) (g_hR (by decide)) g_h0 lx_9 rfl rfl (Nat.le_of_ble_eq_true rfl) rfl rfl ?_
  refine ev_if_ne_t (tgt := 12) d_Co_readPattern_8 (by decide) (by rw [if_pos (by rw [he0.fn (k := 10) (by decide)]; exact hk)]; decide) ?_
  refine ev_aload_n (i := 0) d_Co_readPattern_12 rfl rfl rfl ?_
  refine ev_getR d_Co_readPattern_13 rfl lk_Co_26 lx_27 rfl ?_
  refine ev_iload_n (i := 2) d_Co_readPattern_16 rfl rfl rfl ?_
  refine ev_aload_n (i := 0) d_Co_readPattern_17 rfl rfl rfl ?_
  refine ev_getR d_Co_readPattern_18 rfl lk_Co_18 lx_27 rfl ?_
  refine ev_iload_n (i := 1) d_Co_readPattern_21 rfl rfl rfl ?_
  refine ev_callV (As := [g_i (t : Int)]) d_Co_readPattern_22 rfl cl_Co_73 ((c_Te_head (d + 0) M0 t ht).eqr (b := (M 52 t - 8)) ((he0 11 _ (by decide)).trans hh)) (g_hR (by decide)) g_h0 lx_9 rfl rfl (Nat.le_of_ble_eq_true rfl) rfl rfl ?_
  refine ev_iastore d_Co_readPattern_25 rfl lx_28 (by omega) (by omega) ?_
  rw [show Int.toNat ((a : Int)) = a by rfl]
  refine ev_iconst d_Co_readPattern_26 rfl ⟨by decide, by decide⟩ ?_
  refine ev_istore_n (i := 3) d_Co_readPattern_27 rfl rfl (by decide) rfl ?_
  refine ev_wh (fun n ls1 M1 => ∃ i : Nat, i ≤ w ∧ n = w - i ∧ ls1 = [some (g_r 27), some (g_i (t : Int)), some (g_i (a : Int)), some (g_i (i : Int)), none] ∧ e28 M M1 ∧ M1 28 a = M 52 t - 8 ∧ (∀ j : Nat, j < i → M1 28 (a + 1 + j) = y_w M t (j + 1)) ∧ (∀ j : Nat, i ≤ j → j < 3 → M1 28 (a + 1 + j) = -1) ∧ ∀ b : Nat, b < a ∨ a + 4 ≤ b → M1 28 b = M0 28 b) ?_ (n := w) (⟨0, Nat.zero_le _, rfl, rfl, he0.up _ _, by simp [g_up], fun j hj => by omega, fun j _ hj => by simp only [g_up, true_and]; rw [if_neg (by omega)]; have h9 := hz (j + 1) (by omega) (by omega); rwa [show a + (j + 1) = a + 1 + j by omega] at h9, fun b hb => by simp only [g_up, true_and]; rw [if_neg (by omega)]⟩)
  intro n ls1 M1 hP0 ih
  obtain ⟨i, hi, hn, rfl, he1, h0, h1, h2, h3⟩ := hP0
  refine ev_iload_n (i := 3) d_Co_readPattern_28 rfl rfl rfl ?_
  refine ev_aload_n (i := 0) d_Co_readPattern_29 rfl rfl rfl ?_
  refine ev_getR d_Co_readPattern_30 rfl lk_Co_18 lx_27 rfl ?_
  refine ev_iload_n (i := 1) d_Co_readPattern_33 rfl rfl rfl ?_
  refine ev_callV (As := [g_i (t : Int)]) d_Co_readPattern_34 rfl cl_Co_76 ((c_Te_width (d + 0) M1 t ht).eqr (b := (w : Int)) (by rw [he1.fn (k := 12) (by decide)]; exact hw12)) (g_hR (by decide)) g_h0 lx_9 rfl rfl (Nat.le_of_ble_eq_true rfl) rfl rfl ?_
  refine ev_icmp_ge (tgt := 88) d_Co_readPattern_37 (by decide) rfl (fun hz1 => ?_) (fun hz1 => ?_)
  · exact ev_retVR d_Co_readPattern_88 (⟨rfl, he1, fun j hj => by match j with | 0 => (show M1 28 a = y_w M t 0; rw [h0]; unfold y_w; rw [if_neg (by omega), if_pos rfl]) | j + 1 => (rw [show a + (j + 1) = a + 1 + j by omega]; by_cases hjw : j < w; exact h1 j (by omega); rw [h2 j (by omega) (by omega), y_w_q h8 hw47 (by omega)]), h3⟩)
  · obtain ⟨x, hx53, hx13, hx100, hx11, hxv, hxm⟩ := hkid i (by omega)
    refine ev_aload_n (i := 0) d_Co_readPattern_40 rfl rfl rfl ?_
    refine ev_getR d_Co_readPattern_41 rfl lk_Co_18 lx_27 rfl ?_
    refine ev_iload_n (i := 1) d_Co_readPattern_44 rfl rfl rfl ?_
    refine ev_iload_n (i := 3) d_Co_readPattern_45 rfl rfl rfl ?_
    refine ev_callV (As := [g_i (t : Int), g_i (i : Int)]) d_Co_readPattern_46 rfl cl_Co_77 ((c_Te_part (d + 0) M1 t i ht (by omega)).eqr (b := (x : Int)) (by rw [he1.fn (k := 13) (by decide)]; exact hx13)) (g_hR (by decide)) g_h0 lx_9 rfl rfl (Nat.le_of_ble_eq_true rfl) rfl rfl ?_
    refine ev_istore (i := 4) d_Co_readPattern_49 rfl (by decide) rfl ?_
    refine ev_aload_n (i := 0) d_Co_readPattern_51 rfl rfl rfl ?_
    refine ev_getR d_Co_readPattern_52 rfl lk_Co_18 lx_27 rfl ?_
    refine ev_iload (i := 4) d_Co_readPattern_55 rfl rfl ?_
    refine ev_callV (As := [g_i (x : Int)]) d_Co_readPattern_57 rfl cl_Co_67 (c_Te_isMade (d + 0) M1 x hx100) (g_hR (by decide)) g_h0 lx_9 rfl rfl (Nat.le_of_ble_eq_true rfl) rfl rfl ?_
    refine ev_beq (tgt := 82) d_Co_readPattern_60 (by decide) rfl (fun c3 => ?_) (fun c3 => ?_)
    · refine ev_iinc (z := (i : Int) + 1) d_Co_readPattern_82 rfl rfl (by decide) (g_w_id (by unfold g_rg; omega)) rfl ?_
      refine ev_goto (tgt := 28) d_Co_readPattern_85 (by decide) ?_
      refine ev_le (ih (w - (i + 1)) [some (g_r 27), some (g_i (t : Int)), some (g_i (a : Int)), some (g_i ((i + 1 : Nat) : Int)), none] M1 (by omega) ⟨i + 1, by omega, rfl, rfl, he1, h0, fun j hj => ?_, fun j hj hj3 => h2 j (by omega) hj3, h3⟩) rfl ⟨rfl, rfl, rfl, rfl, trivial⟩
      by_cases hji : j = i
      · subst hji; rw [h2 j (Nat.le_refl _) (by omega), y_w_p h8 hw47 (by omega) hx53, if_pos (hxv (by rw [he1.fn (k := 10) (by decide)] at c3; exact c3))]
      · exact h1 j (by omega)
    · refine ev_aload_n (i := 0) d_Co_readPattern_63 rfl rfl rfl ?_
      refine ev_getR d_Co_readPattern_64 rfl lk_Co_26 lx_27 rfl ?_
      refine ev_iload_n (i := 2) d_Co_readPattern_67 rfl rfl rfl ?_
      refine ev_iconst d_Co_readPattern_68 rfl ⟨by decide, by decide⟩ ?_
      refine ev_iadd (z := (a : Int) + 1) d_Co_readPattern_69 rfl (g_w_id (by unfold g_rg; omega)) ?_
      refine ev_iload_n (i := 3) d_Co_readPattern_70 rfl rfl rfl ?_
      refine ev_iadd (z := ((a + 1 + i : Nat) : Int)) d_Co_readPattern_71 rfl (by rw [g_w_id (by unfold g_rg; omega)]; omega) ?_
      refine ev_aload_n (i := 0) d_Co_readPattern_72 rfl rfl rfl ?_
      refine ev_getR d_Co_readPattern_73 rfl lk_Co_18 lx_27 rfl ?_
      refine ev_iload (i := 4) d_Co_readPattern_76 rfl rfl ?_
      refine ev_callV (As := [g_i (x : Int)]) d_Co_readPattern_78 rfl cl_Co_73 ((c_Te_head (d + 0) M1 x hx100).eqr (b := (M 52 x - 8)) ((he1 11 _ (by decide)).trans (hx11 (by rw [he1.fn (k := 10) (by decide)] at c3; exact c3)))) (g_hR (by decide)) g_h0 lx_9 rfl rfl (Nat.le_of_ble_eq_true rfl) rfl rfl ?_
      refine ev_iastore d_Co_readPattern_81 rfl lx_28 (by omega) (by omega) ?_
      rw [show Int.toNat ((((a + 1 + i : Nat) : Int))) = (a + 1 + i) by rfl]
      refine ev_iinc (z := (i : Int) + 1) d_Co_readPattern_82 rfl rfl (by decide) (g_w_id (by unfold g_rg; omega)) rfl ?_
      refine ev_goto (tgt := 28) d_Co_readPattern_85 (by decide) ?_
      refine ev_le (ih (w - (i + 1)) [some (g_r 27), some (g_i (t : Int)), some (g_i (a : Int)), some (g_i ((i + 1 : Nat) : Int)), none] _ (by omega) ⟨i + 1, by omega, rfl, rfl, he1.up _ _, ?_, fun j hj => ?_, fun j hj hj3 => ?_, fun b hb => ?_⟩) rfl ⟨rfl, rfl, rfl, rfl, trivial⟩
      · simp only [g_up, true_and]; rw [if_neg (by omega)]; exact h0
      · simp only [g_up, true_and]
        by_cases hji : j = i
        · subst hji; rw [if_pos rfl, y_w_p h8 hw47 (by omega) hx53, if_neg (hxm (by rw [he1.fn (k := 10) (by decide)] at c3; exact c3))]
        · rw [if_neg (by omega)]; exact h1 j (by omega)
      · simp only [g_up, true_and]; rw [if_neg (by omega)]; exact h2 j (by omega) hj3
      · simp only [g_up, true_and]; rw [if_neg (by omega)]; exact h3 b hb
theorem c_Co_readPattern (d : Nat) {M : g_M} (hP : r_P M) (M0 : g_M) (t a : Nat) (he0 : e28 M M0) (ht : (t : Int) < M 45 8) (hno : ∀ u ∈ q_pl M t, M 52 u < 16) (ha : a + 4 ≤ 72) (hz : ∀ j : Nat, j < 4 → M0 28 (a + j) = -1) : ConR y_Co_readPattern w_Co_readPattern (g_rm (d + 1)) LX M0 [g_r 27, g_i (t : Int), g_i (a : Int)] LX (fun M2 v2 => v2 = none ∧ e28 M M2 ∧ (∀ j : Nat, j < 4 → M2 28 (a + j) = y_w M t j) ∧ ∀ b : Nat, b < a ∨ a + 4 ≤ b → M2 28 b = M0 28 b) := by
  have hT := hP.2.2.1.2.1
  have hnt := hT.2.1
  have hpl := q_pl_eq hT ht
  obtain ⟨w1, w2, w3, w4⟩ := r_w hP ht
  have h16 := hno t (by rw [hpl]; exact List.mem_cons_self)
  rcases r_hd hP ht with ⟨v, v1, v2, v3, v4, v5⟩ | ⟨h, w, v1, v2, v3, v4, v5, v6, v7, v8⟩ | ⟨h, w, v1, v2, v3, v4, v5, v6, v7, v8⟩
  · refine (conR_of (c_Co_readPattern_n d M M0 t (a : Int) he0 (by omega) (by omega))).mono (fun M2 r2 hr => ?_)
    obtain ⟨rfl, rfl⟩ := hr
    refine ⟨rfl, he0, fun j hj => ?_, fun _ _ => rfl⟩
    rw [hz j hj]
    unfold y_w
    rw [if_pos (by omega)]
  · refine c_Co_readPattern_y d M M0 t a w he0 (by omega) v4 (by omega) (by omega) v6 (by rw [v3, show (8 + (h : Int) - 8).toNat = h by omega]; exact v8) v7 ha (fun j _ hj => hz j hj) (fun i hi => ?_)
    obtain ⟨k1, k2⟩ := w4 i (by omega)
    have k3 := (hP.2.2.1.2.2.1 t ht).2.2.1 i (by omega)
    have hx : (((M 53 (3 * t + i)).toNat : Nat) : Int) < M 45 8 := by omega
    have hx16 := hno (M 53 (3 * t + i)).toNat (by
      rw [hpl]
      refine List.mem_cons_of_mem _ (List.mem_flatMap.mpr ⟨(M 53 (3 * t + i)).toNat, ?_, ?_⟩)
      · rw [q_kids_map]
        exact List.mem_map.mpr ⟨i, List.mem_range.mpr (by omega), rfl⟩
      · rw [q_pl_eq hT hx]
        exact List.mem_cons_self)
    refine ⟨(M 53 (3 * t + i)).toNat, by omega, k1, by omega, ?_, ?_, ?_⟩
    all_goals rcases (hP.2.2.1.2.2.1 _ hx).1 with h9 | h9 | h9
    all_goals omega
  · omega
