/-- all but the class's types of variables -/
def e26 (M M1 : g_M) : Prop := ∀ k b : Nat, k ≠ 26 → M1 k b = M k b
theorem e26.rf (M : g_M) : e26 M M := fun _ _ _ => rfl
theorem e26.tr {M M1 M2 : g_M} (h : e26 M M1) (h2 : e26 M1 M2) : e26 M M2 := fun k b hk => (h2 k b hk).trans (h k b hk)
theorem e26.fn {M M1 : g_M} (h : e26 M M1) {k : Nat} (hk : k ≠ 26) : M1 k = M k := funext fun b => h k b hk
theorem e26.up {M M1 : g_M} (h : e26 M M1) (i : Nat) (z : Int) : e26 M (g_up M1 26 i z) := fun k b hk => by rw [g_up_ne hk]; exact h k b hk
/-- a chain of steps -/
def z_ch (J : Nat → (Nat → Int) → (Nat → Int) → Prop) : Nat → (Nat → Int) → (Nat → Int) → Prop
  | 0, a, b => a = b
  | n + 1, a, b => ∃ c, z_ch J n a c ∧ J n c b
theorem c_Ty_isPatternOfType_v (d : Nat) (M : g_M) (M0 : g_M) (t h : Nat) (y : Int) (he : e26 M M0) (ht : t < 100) (hk : M 10 t = 0) (hh : M 11 t = h) (h8 : h < 8) : Con y_Ty_isPatternOfType w_Ty_isPatternOfType (g_rm (d + 1)) LX M0 [g_r 25, g_i (t : Int), g_i y] LX (g_up M0 26 h y) (some (g_i 1)) := by
  refine con_of (av := [g_r 25, g_i (t : Int), g_i y]) (ls0 := [some (g_r 25), some (g_i (t : Int)), some (g_i y), none, none]) (by decide) rfl (Nat.le_of_ble_eq_true rfl) (g_hls (av := [g_r 25, g_i (t : Int), g_i y]) (k := 2)) (fun _ h9 => List.mem_cons_of_mem _ h9) ?_
  refine ev_aload_n (i := 0) d_Ty_isPatternOfType_0 rfl rfl rfl ?_
  refine ev_getR d_Ty_isPatternOfType_1 rfl lk_Ty_18 lx_25 rfl ?_
  refine ev_iload_n (i := 1) d_Ty_isPatternOfType_4 rfl rfl rfl ?_
  refine ev_callV (As := [g_i (t : Int)]) d_Ty_isPatternOfType_5 rfl cl_Ty_79 (c_Te_isVariable (d + 0) M0 t ht) (g_hR (by decide)) g_h0 lx_9 rfl rfl (Nat.le_of_ble_eq_true rfl) rfl rfl ?_
  refine ev_if_eq_f (tgt := 27) d_Ty_isPatternOfType_8 (by decide) rfl (by rw [if_pos (by rw [he.fn (k := 10) (by decide)]; exact hk)]; decide) ?_
  refine ev_aload_n (i := 0) d_Ty_isPatternOfType_11 rfl rfl rfl ?_
  refine ev_getR d_Ty_isPatternOfType_12 rfl lk_Ty_26 lx_25 rfl ?_
  refine ev_aload_n (i := 0) d_Ty_isPatternOfType_15 rfl rfl rfl ?_
  refine ev_getR d_Ty_isPatternOfType_16 rfl lk_Ty_18 lx_25 rfl ?_
  refine ev_iload_n (i := 1) d_Ty_isPatternOfType_19 rfl rfl rfl ?_
  refine ev_callV (As := [g_i (t : Int)]) d_Ty_isPatternOfType_20 rfl cl_Ty_84 ((c_Te_head (d + 0) M0 t ht).eqr (b := (h : Int)) (by rw [he.fn (k := 11) (by decide)]; exact hh)) (g_hR (by decide)) g_h0 lx_9 rfl rfl (Nat.le_of_ble_eq_true rfl) rfl rfl ?_
  refine ev_iload_n (i := 2) d_Ty_isPatternOfType_23 rfl rfl rfl ?_
  refine ev_iastore d_Ty_isPatternOfType_24 rfl lx_26 (by omega) (by omega) ?_
  rw [show Int.toNat ((h : Int)) = h by rfl]
  refine ev_iconst d_Ty_isPatternOfType_25 rfl ⟨by decide, by decide⟩ ?_
  exact ev_retI d_Ty_isPatternOfType_26 (by first | rfl | omega | simp_all) rfl (Or.inr ⟨rfl, by omega⟩)
theorem c_Ty_isPatternOfType_c (d : Nat) (M : g_M) (M0 : g_M) (t h w : Nat) (y : Int) (pf : Nat → Nat) (J : Nat → (Nat → Int) → (Nat → Int) → Prop) (N : Nat → Prop) (he : e26 M M0) (ht : t < 100) (hk : M 10 t = 1) (hh : M 11 t = h) (h8 : h < 8) (hw : M 12 t = w) (hw3 : w ≤ 3) (hp : ∀ k, k < w → M 13 (3 * t + k) = pf k) (ih0 : ∀ k, k < w → ∀ M1, e26 M M1 → ConR y_Ty_isPatternOfType w_Ty_isPatternOfType (g_rm (d + 0)) LX M1 [g_r 25, g_i (pf k : Int), g_i (M 4 (3 * h + k))] LX (fun M2 v2 => ∃ r : Int, v2 = some (g_i r) ∧ (r = 0 ∨ r = 1) ∧ e26 M M2 ∧ (r = 1 → J k (M1 26) (M2 26)) ∧ (r = 0 → N k))) : ConR y_Ty_isPatternOfType w_Ty_isPatternOfType (g_rm (d + 1)) LX M0 [g_r 25, g_i (t : Int), g_i y] LX (fun M2 v2 => ∃ r : Int, v2 = some (g_i r) ∧ (r = 0 ∨ r = 1) ∧ e26 M M2 ∧ (r = 1 → M 2 h = y ∧ z_ch J w (M0 26) (M2 26)) ∧ (r = 0 → ¬ M 2 h = y ∨ ∃ k, k < w ∧ N k)) := by
  refine con_ofR (av := [g_r 25, g_i (t : Int), g_i y]) (ls0 := [some (g_r 25), some (g_i (t : Int)), some (g_i y), none, none]) (by decide) rfl (Nat.le_of_ble_eq_true rfl) (g_hls (av := [g_r 25, g_i (t : Int), g_i y]) (k := 2)) (fun _ h9 => List.mem_cons_of_mem _ h9) ?_
  refine ev_aload_n (i := 0) d_Ty_isPatternOfType_0 rfl rfl rfl ?_
  refine ev_getR d_Ty_isPatternOfType_1 rfl lk_Ty_18 lx_25 rfl ?_
  refine ev_iload_n (i := 1) d_Ty_isPatternOfType_4 rfl rfl rfl ?_
  refine ev_callV (As := [g_i (t : Int)]) d_Ty_isPatternOfType_5 rfl cl_Ty_79 (c_Te_isVariable (d + 0) M0 t ht) (g_hR (by decide)) g_h0 lx_9 rfl rfl (Nat.le_of_ble_eq_true rfl) rfl rfl ?_
  refine ev_if_eq_t (tgt := 27) d_Ty_isPatternOfType_8 (by decide) (by rw [if_neg (by rw [he.fn (k := 10) (by decide), hk]; decide)]) ?_
  refine ev_aload_n (i := 0) d_Ty_isPatternOfType_27 rfl rfl rfl ?_
  refine ev_getR d_Ty_isPatternOfType_28 rfl lk_Ty_18 lx_25 rfl ?_
  refine ev_iload_n (i := 1) d_Ty_isPatternOfType_31 rfl rfl rfl ?_
  refine ev_callV (As := [g_i (t : Int)]) d_Ty_isPatternOfType_32 rfl cl_Ty_84 ((c_Te_head (d + 0) M0 t ht).eqr (b := (h : Int)) (by rw [he.fn (k := 11) (by decide)]; exact hh)) (g_hR (by decide)) g_h0 lx_9 rfl rfl (Nat.le_of_ble_eq_true rfl) rfl rfl ?_
  refine ev_istore_n (i := 3) d_Ty_isPatternOfType_35 rfl rfl (by decide) rfl ?_
  refine ev_aload_n (i := 0) d_Ty_isPatternOfType_36 rfl rfl rfl ?_
  refine ev_getR d_Ty_isPatternOfType_37 rfl lk_Ty_9 lx_25 rfl ?_
  refine ev_iload_n (i := 3) d_Ty_isPatternOfType_40 rfl rfl rfl ?_
  refine ev_callV (As := [g_i (h : Int)]) d_Ty_isPatternOfType_41 rfl cl_Ty_46 ((c_Sg_type_c (d + 0) M0 h h8).eqr (b := (M 2 h)) (he 2 _ (by decide))) (g_hR (by decide)) g_h0 lx_1 rfl rfl (Nat.le_of_ble_eq_true rfl) rfl rfl ?_
  refine ev_iload_n (i := 2) d_Ty_isPatternOfType_44 rfl rfl rfl ?_
  refine ev_icmp_eq (tgt := 50) d_Ty_isPatternOfType_45 (by decide) rfl (fun c1 => ?_) (fun c1 => ?_)
  · refine ev_iconst d_Ty_isPatternOfType_50 rfl ⟨by decide, by decide⟩ ?_
    refine ev_istore (i := 4) d_Ty_isPatternOfType_51 rfl (by decide) rfl ?_
    refine ev_wh (fun n ls1 M1 => ∃ i : Nat, i ≤ w ∧ n = w - i ∧ ls1 = [some (g_r 25), some (g_i (t : Int)), some (g_i y), some (g_i (h : Int)), some (g_i (i : Int))] ∧ e26 M M1 ∧ z_ch J i (M0 26) (M1 26)) ?_ (n := w) (⟨0, Nat.zero_le _, rfl, rfl, he, rfl⟩)
    intro n ls1 M1 hP ih
    obtain ⟨i, hi, hn, rfl, he1, hch⟩ := hP
    refine ev_iload (i := 4) d_Ty_isPatternOfType_53 rfl rfl ?_
    refine ev_aload_n (i := 0) d_Ty_isPatternOfType_55 rfl rfl rfl ?_
    refine ev_getR d_Ty_isPatternOfType_56 rfl lk_Ty_18 lx_25 rfl ?_
    refine ev_iload_n (i := 1) d_Ty_isPatternOfType_59 rfl rfl rfl ?_
    refine ev_callV (As := [g_i (t : Int)]) d_Ty_isPatternOfType_60 rfl cl_Ty_87 ((c_Te_width (d + 0) M1 t ht).eqr (b := (w : Int)) (by rw [he1.fn (k := 12) (by decide)]; exact hw)) (g_hR (by decide)) g_h0 lx_9 rfl rfl (Nat.le_of_ble_eq_true rfl) rfl rfl ?_
    refine ev_icmp_ge (tgt := 101) d_Ty_isPatternOfType_63 (by decide) rfl (fun hz => ?_) (fun hz => ?_)
    · refine ev_iconst d_Ty_isPatternOfType_101 rfl ⟨by decide, by decide⟩ ?_
      exact ev_retIR d_Ty_isPatternOfType_102 (⟨1, rfl, Or.inr rfl, he1, fun _ => ⟨c1, by have e : i = w := (by omega); subst e; exact hch⟩, fun h9 => absurd h9 (by decide)⟩) (Or.inr ⟨rfl, by omega⟩)
    · refine ev_aload_n (i := 0) d_Ty_isPatternOfType_66 rfl rfl rfl ?_
      refine ev_aload_n (i := 0) d_Ty_isPatternOfType_67 rfl rfl rfl ?_
      refine ev_getR d_Ty_isPatternOfType_68 rfl lk_Ty_18 lx_25 rfl ?_
      refine ev_iload_n (i := 1) d_Ty_isPatternOfType_71 rfl rfl rfl ?_
      refine ev_iload (i := 4) d_Ty_isPatternOfType_72 rfl rfl ?_
      refine ev_callV (As := [g_i (t : Int), g_i (i : Int)]) d_Ty_isPatternOfType_74 rfl cl_Ty_88 ((c_Te_part (d + 0) M1 t i ht (by omega)).eqr (b := (pf i : Int)) (by rw [he1.fn (k := 13) (by decide)]; exact (hp i (by omega)))) (g_hR (by decide)) g_h0 lx_9 rfl rfl (Nat.le_of_ble_eq_true rfl) rfl rfl ?_
      refine ev_aload_n (i := 0) d_Ty_isPatternOfType_77 rfl rfl rfl ?_
      refine ev_getR d_Ty_isPatternOfType_78 rfl lk_Ty_9 lx_25 rfl ?_
      refine ev_iload_n (i := 3) d_Ty_isPatternOfType_81 rfl rfl rfl ?_
      refine ev_iload (i := 4) d_Ty_isPatternOfType_82 rfl rfl ?_
      refine ev_callV (As := [g_i (h : Int), g_i (i : Int)]) d_Ty_isPatternOfType_84 rfl cl_Ty_66 ((c_Sg_placeType_c (d + 0) M1 h i h8 (by omega)).eqr (b := (M 4 (3 * h + i))) (he1 4 _ (by decide))) (g_hR (by decide)) g_h0 lx_1 rfl rfl (Nat.le_of_ble_eq_true rfl) rfl rfl ?_
      refine ev_callVR (As := [g_i (pf i : Int), g_i (M 4 (3 * h + i))]) d_Ty_isPatternOfType_87 rfl cl_Ty_69 (ih0 i (by omega) M1 he1) (g_hR (by decide)) g_h0 lx_25 rfl rfl (Nat.le_of_ble_eq_true rfl) rfl rfl (fun M3 v9 g9 => ?_)
      obtain ⟨r3, rfl, hr3, he3, hJ, hN⟩ := g9
      refine ev_if_ne (tgt := 95) d_Ty_isPatternOfType_90 (by decide) rfl (fun c2 => ?_) (fun c2 => ?_)
      · refine ev_iinc (z := (i : Int) + 1) d_Ty_isPatternOfType_95 rfl rfl (by decide) (g_w_id (by unfold g_rg; omega)) rfl ?_
        refine ev_goto (tgt := 53) d_Ty_isPatternOfType_98 (by decide) ?_
        exact ev_le (ih (w - (i + 1)) [some (g_r 25), some (g_i (t : Int)), some (g_i y), some (g_i (h : Int)), some (g_i ((i + 1 : Nat) : Int))] M3 (by omega) ⟨i + 1, by omega, rfl, rfl, he3, _, hch, hJ (by omega)⟩) rfl ⟨rfl, rfl, rfl, rfl, rfl, trivial⟩
      · refine ev_iconst d_Ty_isPatternOfType_93 rfl ⟨by decide, by decide⟩ ?_
        exact ev_retIR d_Ty_isPatternOfType_94 (⟨0, rfl, Or.inl rfl, he3, fun h9 => absurd h9 (by decide), fun _ => Or.inr ⟨i, by omega, hN (by omega)⟩⟩) (Or.inr ⟨rfl, by omega⟩)
  · refine ev_iconst d_Ty_isPatternOfType_48 rfl ⟨by decide, by decide⟩ ?_
    exact ev_retIR d_Ty_isPatternOfType_49 (⟨0, rfl, Or.inl rfl, he, fun h9 => absurd h9 (by decide), fun _ => Or.inl c1⟩) (Or.inr ⟨rfl, by omega⟩)
theorem v_l_n {M : g_M} (hT : q_T M) {x : Nat} (hx : (x : Int) < M 45 8) (h8 : 8 ≤ M 52 x) : v_l M x = ((List.range (q_w M x).toNat).map (fun i => (M 53 (3 * x + i)).toNat)).flatMap (v_l M) := by
  unfold v_l
  rw [q_pl_eq hT hx, v_h_n (by omega), v_h_flat, q_kids_map]
  rfl
theorem z_fl_dj {f : Nat → List Nat} : ∀ n : Nat, ((List.range n).flatMap f).Nodup → (∀ k, k < n → (f k).Nodup) ∧ ∀ i k, i < k → k < n → ∀ v ∈ f i, v ∉ f k
  | 0, _ => ⟨fun k hk => by omega, fun i k _ hk => by omega⟩
  | n + 1, h => by
    rw [List.range_succ, List.flatMap_append, List.flatMap_cons, List.flatMap_nil, List.append_nil] at h
    obtain ⟨h1, h2, h3⟩ := List.nodup_append.mp h
    obtain ⟨a1, a2⟩ := z_fl_dj n h1
    refine ⟨fun k hk => ?_, fun i k hik hk v hv => ?_⟩
    · by_cases hkn : k = n
      · subst hkn; exact h2
      · exact a1 k (by omega)
    · by_cases hkn : k = n
      · subst hkn
        exact fun h9 => h3 v (List.mem_flatMap.mpr ⟨i, List.mem_range.mpr hik, hv⟩) v h9 rfl
      · exact a2 i k hik (by omega) v hv
theorem c_Ty_isPatternOfType {M : g_M} (hP : r_P M) : ∀ (t d : Nat) (y : Int) (M0 : g_M), e26 M M0 → (t : Int) < M 45 8 → (v_l M t).Nodup → (∀ u ∈ q_pl M t, M 52 u < 16) → ConR y_Ty_isPatternOfType w_Ty_isPatternOfType (g_rm (d + t + 1)) LX M0 [g_r 25, g_i (t : Int), g_i y] LX
    (fun M2 v2 => ∃ r : Int, v2 = some (g_i r) ∧ (r = 0 ∨ r = 1) ∧ e26 M M2 ∧ (r = 1 → q_t (zv M (M2 26)) t y = true ∧ ∀ v : Nat, v ∉ v_l M t → M2 26 v = M0 26 v) ∧ (r = 0 → ∀ V : Nat → Int, ¬ q_t (zv M V) t y = true)) := by
  intro t
  induction t using Nat.strongRecOn with
  | ind t ih =>
    intro d y M0 he ht hnd hno
    have hT := hP.2.2.1.2.1
    have hnt := hT.2.1
    obtain ⟨w1, w2, w3, w4⟩ := r_w hP ht
    have hpl := q_pl_eq hT ht
    have h16 : M 52 t < 16 := hno t (by rw [hpl]; exact List.mem_cons_self)
    rcases r_hd hP ht with ⟨v, v1, v2, v3, v4, v5⟩ | ⟨h, w, v1, v2, v3, v4, v5, v6, v7, v8⟩ | ⟨h, w, v1, v2, v3, v4, v5, v6, v7, v8⟩
    · refine (conR_of (c_Ty_isPatternOfType_v (d + t) M M0 t v y he (by omega) v3 v4 v1)).mono (fun M2 r2 hr => ?_)
      obtain ⟨rfl, rfl⟩ := hr
      have h52 : (M 52 t).toNat = v := by omega
      refine ⟨1, rfl, Or.inr rfl, he.up v y, fun _ => ⟨?_, fun u hu => ?_⟩, fun h9 => absurd h9 (by decide)⟩
      · rw [zv_v hT ht (by omega), h52, decide_eq_true_iff]
        simp [g_up]
      · rw [v_l_v hT ht (by omega), h52] at hu
        have hne : u ≠ v := fun h9 => hu (by rw [h9]; exact List.mem_cons_self)
        simp [g_up, hne]
    · have hw' : q_w M t = w := by omega
      have hvl := v_l_n hT ht (by omega)
      rw [hw', Int.toNat_natCast, List.flatMap_map] at hvl
      rw [hvl] at hnd
      obtain ⟨n1, n2⟩ := z_fl_dj w hnd
      have hpy : ∀ k : Nat, q_py M t k = M 48 (3 * h + k) := by
        intro k
        show (if M 52 t < 16 then M 48 (3 * (M 52 t - 8).toNat + k) else _) = _
        rw [if_pos (by omega), v3]
        congr 2
        omega
      have hmem : ∀ k, k < w → ∀ u ∈ q_pl M (M 53 (3 * t + k)).toNat, M 52 u < 16 := fun k hk u hu => hno u (by
        rw [hpl]
        refine List.mem_cons_of_mem _ (List.mem_flatMap.mpr ⟨_, ?_, hu⟩)
        rw [q_kids_map]
        exact List.mem_map.mpr ⟨k, List.mem_range.mpr (by omega), rfl⟩)
      have hty : ∀ V : Nat → Int, q_t (zv M V) t y = true ↔ M 2 h = y ∧ ∀ k : Nat, k < w → q_t (zv M V) (M 53 (3 * t + k)).toNat (M 48 (3 * h + k)) = true := by
        intro V
        rw [zv_n hT ht (by omega), if_pos h16, (hP.1.2.2.2.2 h v2).1, v3, show (8 + (h : Int) - 8).toNat = h by omega]
        refine and_congr Iff.rfl ⟨fun h9 k hk => ?_, fun h9 k hk => ?_⟩
        · have := h9 k (by omega)
          rwa [hpy] at this
        · rw [hpy]
          exact h9 k (by omega)
      refine (c_Ty_isPatternOfType_c (d + t) M M0 t h w y (fun k => (M 53 (3 * t + k)).toNat) (fun k A B => q_t (zv M B) (M 53 (3 * t + k)).toNat (M 48 (3 * h + k)) = true ∧ ∀ v : Nat, v ∉ v_l M (M 53 (3 * t + k)).toNat → B v = A v) (fun k => ∀ V : Nat → Int, ¬ q_t (zv M V) (M 53 (3 * t + k)).toNat (M 48 (3 * h + k)) = true) he (by omega) v4 v5 v1 v6 v7 (fun k hk => (w4 k (by omega)).1) (fun k hk M1 he1 => ?_)).mono (fun M2 r2 hr => ?_)
      · have h1 := (w4 k (by omega)).2
        have h2 := ih _ h1 (d + (t - (M 53 (3 * t + k)).toNat - 1)) (M 48 (3 * h + k)) M1 he1 (by omega) (n1 k hk) (hmem k hk)
        rw [show d + (t - (M 53 (3 * t + k)).toNat - 1) + (M 53 (3 * t + k)).toNat + 1 = d + t by omega] at h2
        rw [((hP.1.2.2.2.2 h v2).2.2.2.2 k (by omega)).1]
        exact h2
      · obtain ⟨r, rfl, hr01, he2, hy1, hy0⟩ := hr
        refine ⟨r, rfl, hr01, he2, fun h9 => ?_, fun h9 V hV => ?_⟩
        · obtain ⟨g1, g2⟩ := hy1 h9
          have key : ∀ n : Nat, n ≤ w → ∀ B : Nat → Int, z_ch (fun k A B => q_t (zv M B) (M 53 (3 * t + k)).toNat (M 48 (3 * h + k)) = true ∧ ∀ v : Nat, v ∉ v_l M (M 53 (3 * t + k)).toNat → B v = A v) n (M0 26) B → (∀ k, k < n → q_t (zv M B) (M 53 (3 * t + k)).toNat (M 48 (3 * h + k)) = true) ∧ ∀ v : Nat, v ∉ v_l M t → B v = M0 26 v := by
            intro n
            induction n with
            | zero =>
              intro _ B hB
              exact ⟨fun k hk => by omega, fun v _ => by rw [show M0 26 = B from hB]⟩
            | succ n ihn =>
              intro hn B hB
              obtain ⟨C, hC, j1, j2⟩ := hB
              obtain ⟨k1, k2⟩ := ihn (by omega) C hC
              refine ⟨fun k hk => ?_, fun v hv => ?_⟩
              · by_cases hkn : k = n
                · subst hkn
                  exact j1
                · have h3 := (w4 k (by omega)).2
                  rw [zv_ag hT (V := B) (W := C) _ _ (by omega) (fun v hv => j2 v (n2 k n (by omega) (by omega) v hv))]
                  exact k1 k (by omega)
              · rw [j2 v (fun h9 => hv (v_l_kid hT ht (by omega) v h9))]
                exact k2 v hv
          obtain ⟨k1, k2⟩ := key w (Nat.le_refl _) _ g2
          exact ⟨(hty _).mpr ⟨g1, k1⟩, k2⟩
        · obtain ⟨g1, g2⟩ := (hty V).mp hV
          rcases hy0 h9 with h8 | ⟨k, hk, h8⟩
          · exact h8 g1
          · exact h8 V (g2 k hk)
    · omega
