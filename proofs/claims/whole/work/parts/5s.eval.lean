/-- all but the todo stack -/
def g71 (M M2 : g_M) : Prop := ∀ k b : Nat, k ≠ 71 → k ≠ 72 → ¬ (k = 45 ∧ b = 35) → M2 k b = M k b
theorem g71.rf (M : g_M) : g71 M M := fun _ _ _ _ _ => rfl
theorem g71.tr {M M1 M2 : g_M} (h : g71 M M1) (h2 : g71 M1 M2) : g71 M M2 := fun k b h3 h4 h5 => (h2 k b h3 h4 h5).trans (h k b h3 h4 h5)
theorem g71.fn {M M1 : g_M} (h : g71 M M1) {k : Nat} (h1 : k ≠ 71) (h2 : k ≠ 72) (h3 : k ≠ 45) : M1 k = M k := funext fun b => h k b h1 h2 (fun h9 => h3 h9.1)
theorem g71.f {M M1 : g_M} (h : g71 M M1) : u_f M M1 := fun k b h1 h2 => h k b (by omega) (by omega) (by omega)
theorem g71_up (M : g_M) (n : Nat) (x y z : Int) : g71 M (g_up (g_up (g_up M 71 n x) 72 n y) 45 35 z) := fun k b h1 h2 h3 => by simp only [g_up]; rw [if_neg h3, if_neg (fun h => h2 h.1), if_neg (fun h => h1 h.1)]
theorem g71_35 (M : g_M) (z : Int) : g71 M (g_up M 45 35 z) := fun k b h1 h2 h3 => by simp only [g_up]; rw [if_neg h3]
theorem u_rm_cg {M M1 : g_M} (h : ∀ k : Nat, k = 47 ∨ k = 68 ∨ k = 69 ∨ k = 70 → M1 k = M k) (h29 : M1 45 29 = M 45 29) (t : u_F) (x : Nat) : u_rm M1 t x ↔ u_rm M t x := by
  show u_rp (M1 68) (M1 70) _ (M1 47) _ t true x 0 ↔ u_rp (M 68) (M 70) _ (M 47) _ t true x 0
  rw [h 47 (by decide), h 68 (by decide), h 69 (by decide), h 70 (by decide), h29]
theorem g71.rm {M M1 : g_M} (h : g71 M M1) (t : u_F) (x : Nat) : u_rm M1 t x ↔ u_rm M t x := u_rm_cg (M := M) (M1 := M1) (fun k hk => h.fn (by omega) (by omega) (by omega)) (h 45 29 (by decide) (by decide) (by decide)) t x
theorem u_hk_cg {M M1 : g_M} {H : List u_F} (hr : ∀ t x, u_rm M t x → u_rm M1 t x) (h73 : M1 73 = M 73) (h38 : M1 45 38 = M 45 38) (h : u_hk M H) : u_hk M1 H := by
  refine ⟨by rw [h38]; exact h.1, fun i t hi => ?_⟩
  obtain ⟨x, h1, h2⟩ := h.2 i t hi
  exact ⟨x, by rw [h73]; exact h1, hr t x h2⟩
theorem u_bk_cg {M M1 : g_M} {B : Nat → Nat → u_F} (hr : ∀ t x, u_rm M t x → u_rm M1 t x) (h74 : M1 74 = M 74) (h : u_bk M B) : u_bk M1 B := by
  intro fr v c l h1 h2 h3
  obtain ⟨x, h4, h5⟩ := h fr v c l h1 h2 h3
  exact ⟨x, by rw [h74]; exact h4, hr _ x h5⟩
theorem u_tk_cg {M M1 : g_M} {K : List (Int × Nat)} (h71 : M1 71 = M 71) (h72 : M1 72 = M 72) (h35 : M1 45 35 = M 45 35) (h : u_tk M K) : u_tk M1 K := by
  unfold u_tk at h ⊢
  rw [h71, h72, h35]
  exact h
/-- the reference's memory tells the state s; M is the memory before the run -/
def u_Mo (M M1 : g_M) (s : u_S) : Prop := u_f M M1 ∧ u_tk M1 s.1 ∧ u_hk M1 s.2.1 ∧ u_bk M1 s.2.2.1 ∧ M1 45 34 = s.2.2.2.1 ∧ M1 45 33 = s.2.2.2.2
theorem c_Mo_evaluate_v (d : Nat) (M : g_M) (H : List u_F) (t fr v x : Nat) (h38 : M 45 38 = H.length) (ht : t < 100) (h52 : M 52 t = v) (hv : v < 8) (hfr : fr ≤ 200) (hx : M 74 (8 * fr + v) = x) (hHl : H.length < 2500) : Con y_Mo_evaluate w_Mo_evaluate (g_rm (d)) LX M [g_r 45, g_i (t : Int), g_i (fr : Int)] LX (g_up (g_up M 73 H.length (x : Int)) 45 38 ((H.length : Int) + 1)) none := by
  refine con_of (av := [g_r 45, g_i (t : Int), g_i (fr : Int)]) (ls0 := [some (g_r 45), some (g_i (t : Int)), some (g_i (fr : Int)), none, none]) (by decide) rfl (Nat.le_of_ble_eq_true rfl) (g_hls (av := [g_r 45, g_i (t : Int), g_i (fr : Int)]) (k := 2)) (fun _ h9 => List.mem_cons_of_mem _ h9) ?_
  refine ev_aload_n (i := 0) d_Mo_evaluate_0 rfl rfl rfl ?_
  refine ev_getR d_Mo_evaluate_1 rfl lk_Mo_28 lx_45 rfl ?_
  refine ev_iload_n (i := 1) d_Mo_evaluate_4 rfl rfl rfl ?_
  refine ev_iaload (z := (v : Int)) d_Mo_evaluate_5 rfl lx_52 (by omega) (by omega) (h52) ?_
  refine ev_istore_n (i := 3) d_Mo_evaluate_6 rfl rfl (by decide) rfl ?_
  refine ev_iload_n (i := 3) d_Mo_evaluate_7 rfl rfl rfl ?_
  refine ev_bipush d_Mo_evaluate_8 rfl (by decide +kernel) ⟨by decide, by decide⟩ ?_
  refine ev_icmp_ge_f (tgt := 44) d_Mo_evaluate_10 (by decide) rfl (by omega) ?_
  refine ev_aload_n (i := 0) d_Mo_evaluate_13 rfl rfl rfl ?_
  refine ev_getR d_Mo_evaluate_14 rfl lk_Mo_92 lx_45 rfl ?_
  refine ev_aload_n (i := 0) d_Mo_evaluate_17 rfl rfl rfl ?_
  refine ev_getI (z := (H.length : Int)) d_Mo_evaluate_18 rfl lk_Mo_234 lx_45 rfl (h38) ?_
  refine ev_aload_n (i := 0) d_Mo_evaluate_21 rfl rfl rfl ?_
  refine ev_getR d_Mo_evaluate_22 rfl lk_Mo_95 lx_45 rfl ?_
  refine ev_bipush d_Mo_evaluate_25 rfl (by decide +kernel) ⟨by decide, by decide⟩ ?_
  refine ev_iload_n (i := 2) d_Mo_evaluate_27 rfl rfl rfl ?_
  refine ev_imul (z := 8 * (fr : Int)) d_Mo_evaluate_28 rfl (g_w_id (by unfold g_rg; omega)) ?_
  refine ev_iload_n (i := 3) d_Mo_evaluate_29 rfl rfl rfl ?_
  refine ev_iadd (z := ((8 * fr + v : Nat) : Int)) d_Mo_evaluate_30 rfl (by rw [g_w_id (by unfold g_rg; omega)]; omega) ?_
  refine ev_iaload (z := (x : Int)) d_Mo_evaluate_31 rfl lx_74 (by omega) (by omega) (by rw [Int.toNat_natCast]; exact hx) ?_
  refine ev_iastore d_Mo_evaluate_32 rfl lx_73 (by omega) (by omega) ?_
  rw [show Int.toNat (((H.length : Int))) = H.length by rfl]
  refine ev_aload_n (i := 0) d_Mo_evaluate_33 rfl rfl rfl ?_
  refine ev_dup d_Mo_evaluate_34 rfl rfl ?_
  refine ev_getI (z := (H.length : Int)) d_Mo_evaluate_35 rfl lk_Mo_234 lx_45 rfl (by rw [g_up_ne (by decide)]; exact h38) ?_
  refine ev_iconst d_Mo_evaluate_38 rfl ⟨by decide, by decide⟩ ?_
  refine ev_iadd (z := ((H.length : Int)) + 1) d_Mo_evaluate_39 rfl (g_w_id (by unfold g_rg; omega)) ?_
  refine ev_putI d_Mo_evaluate_40 rfl lk_Mo_234 fp_Mo_38 (Or.inl rfl) lx_45 rfl ?_
  exact ev_retV d_Mo_evaluate_43 rfl
theorem q_w_f0 {M M2 : g_M} (h : r_f0 M M2) (t : Nat) : q_w M2 t = q_w M t := by
  unfold q_w
  rw [h.e46 52 (by decide), h.e46 47 (by decide), h.e46 50 (by decide)]
theorem c_Mo_evaluate_n (d : Nat) (M : g_M) (M1 : g_M) (K : List (Int × Nat)) (t fr w : Nat) (hf : u_f M M1) (hK : u_tk M1 K) (hKl : K.length + 4 < 3700) (ht : t < 100) (h8 : 8 ≤ M 52 t) (h22 : M 52 t < 22) (hw : q_w M t = w) (hw3 : w ≤ 3) (hpart : ∀ k : Nat, k < w → 0 ≤ M 53 (3 * t + k)) : ConR y_Mo_evaluate w_Mo_evaluate (g_rm (d + 1)) LX M1 [g_r 45, g_i (t : Int), g_i (fr : Int)] LX (fun M2 v2 => v2 = none ∧ g71 M1 M2 ∧ u_tk M2 ((q_kids M t).map (fun y : Nat => ((y : Int), fr)) ++ (u_op M t, fr) :: K)) := by
  refine con_ofR (av := [g_r 45, g_i (t : Int), g_i (fr : Int)]) (ls0 := [some (g_r 45), some (g_i (t : Int)), some (g_i (fr : Int)), none, none]) (by decide) rfl (Nat.le_of_ble_eq_true rfl) (g_hls (av := [g_r 45, g_i (t : Int), g_i (fr : Int)]) (k := 2)) (fun _ h9 => List.mem_cons_of_mem _ h9) ?_
  have h52 : M1 52 t = M 52 t := hf 52 _ (by decide) (by omega)
  have hkl : (q_kids M t).length = w := by rw [q_kids_map, List.length_map, List.length_range, hw, Int.toNat_natCast]
  refine ev_aload_n (i := 0) d_Mo_evaluate_0 rfl rfl rfl ?_
  refine ev_getR d_Mo_evaluate_1 rfl lk_Mo_28 lx_45 rfl ?_
  refine ev_iload_n (i := 1) d_Mo_evaluate_4 rfl rfl rfl ?_
  refine ev_iaload (z := M 52 t) d_Mo_evaluate_5 rfl lx_52 (by omega) (by omega) (h52) ?_
  refine ev_istore_n (i := 3) d_Mo_evaluate_6 rfl rfl (by decide) rfl ?_
  refine ev_iload_n (i := 3) d_Mo_evaluate_7 rfl rfl rfl ?_
  refine ev_bipush d_Mo_evaluate_8 rfl (by decide +kernel) ⟨by decide, by decide⟩ ?_
  refine ev_icmp_ge_t (tgt := 44) d_Mo_evaluate_10 (by decide) (by omega) ?_
  refine ev_aload_n (i := 0) d_Mo_evaluate_44 rfl rfl rfl ?_
  refine ev_iload_n (i := 3) d_Mo_evaluate_45 rfl rfl rfl ?_
  refine ev_bipush d_Mo_evaluate_46 rfl (by decide +kernel) ⟨by decide, by decide⟩ ?_
  refine ev_icmp_ge (tgt := 60) d_Mo_evaluate_48 (by decide) rfl (fun c1 => ?_) (fun c1 => ?_)
  · refine ev_bipush d_Mo_evaluate_60 rfl (by decide +kernel) ⟨by decide, by decide⟩ ?_
    refine ev_iload_n (i := 3) d_Mo_evaluate_62 rfl rfl rfl ?_
    refine ev_bipush d_Mo_evaluate_63 rfl (by decide +kernel) ⟨by decide, by decide⟩ ?_
    refine ev_isub (z := (M 52 t) - 16) d_Mo_evaluate_65 rfl (g_w_id (by unfold g_rg; omega)) ?_
    refine ev_isub (z := u_op M t) d_Mo_evaluate_66 rfl (by rw [g_w_id (by unfold g_rg; omega)]; unfold u_op; rw [if_neg (by omega)]) ?_
    refine ev_iload_n (i := 2) d_Mo_evaluate_67 rfl rfl rfl ?_
    refine ev_callV (As := [g_i (u_op M t), g_i (fr : Int)]) d_Mo_evaluate_68 rfl cl_Mo_240 ((c_Mo_doLater (d + 0) M1 (u_op M t) fr K.length hK.1 (by omega))) (g_hR (by decide)) g_h0 lx_45 rfl rfl (Nat.le_of_ble_eq_true rfl) rfl rfl ?_
    refine ev_aload_n (i := 0) d_Mo_evaluate_71 rfl rfl rfl ?_
    refine ev_iload_n (i := 1) d_Mo_evaluate_72 rfl rfl rfl ?_
    refine ev_callV (As := [g_i (t : Int)]) d_Mo_evaluate_73 rfl cl_Mo_144 ((c_Mo_places (d + 0) (g_up (g_up (g_up M1 71 K.length (u_op M t)) 72 K.length (fr : Int)) 45 35 ((K.length : Int) + 1)) t ht (by rw [g_up_ne (by decide), g_up_ne (by decide), g_up_ne (by decide), h52]; omega) (by rw [g_up_ne (by decide), g_up_ne (by decide), g_up_ne (by decide), h52]; omega)).eqr (b := (w : Int)) (by rw [← hw, ← q_w_f0 hf.f0]; rfl)) (g_hR (by decide)) g_h0 lx_45 rfl rfl (Nat.le_of_ble_eq_true rfl) rfl rfl ?_
    refine ev_iconst d_Mo_evaluate_76 rfl ⟨by decide, by decide⟩ ?_
    refine ev_isub (z := (w : Int) - 1) d_Mo_evaluate_77 rfl (g_w_id (by unfold g_rg; omega)) ?_
    refine ev_istore (i := 4) d_Mo_evaluate_78 rfl (by decide) rfl ?_
    refine ev_wh (fun n ls1 M2 => ∃ k : Nat, k ≤ w ∧ n = k ∧ ls1 = [some (g_r 45), some (g_i (t : Int)), some (g_i (fr : Int)), some (g_i (M 52 t)), some (g_i ((k : Int) - 1))] ∧ g71 M1 M2 ∧ u_tk M2 (((q_kids M t).drop k).map (fun y : Nat => ((y : Int), fr)) ++ (u_op M t, fr) :: K)) ?_ (n := w) (⟨w, Nat.le_refl _, rfl, rfl, g71_up _ _ _ _ _, by rw [List.drop_of_length_le (by rw [hkl]; exact Nat.le_refl _)]; exact u_tk_push hK _ fr⟩)
    intro n ls1 M2 hP0 ih
    obtain ⟨k, hk, hn, rfl, hg2, hK2⟩ := hP0
    have hlen : (((q_kids M t).drop k).map (fun y : Nat => ((y : Int), fr)) ++ (u_op M t, fr) :: K).length = w - k + 1 + K.length := by rw [List.length_append, List.length_map, List.length_drop, hkl, List.length_cons]; omega
    refine ev_iload (i := 4) d_Mo_evaluate_80 rfl rfl ?_
    refine ev_if_lt (tgt := 107) d_Mo_evaluate_82 (by decide) rfl (fun hz => ?_) (fun hz => ?_)
    · exact ev_retVR d_Mo_evaluate_107 (⟨rfl, hg2, by have e : k = 0 := (by omega); subst e; exact hK2⟩)
    · obtain ⟨k, rfl⟩ : ∃ k9, k = k9 + 1 := ⟨k - 1, by omega⟩
      have h5 := hpart k (by omega)
      obtain ⟨y, hy⟩ : ∃ y : Nat, M 53 (3 * t + k) = y := ⟨(M 53 (3 * t + k)).toNat, by omega⟩
      have hdk : (((q_kids M t).drop k).map (fun y : Nat => ((y : Int), fr)) ++ (u_op M t, fr) :: K) = ((y : Int), fr) :: (((q_kids M t).drop (k + 1)).map (fun y : Nat => ((y : Int), fr)) ++ (u_op M t, fr) :: K) := by
        rw [q_kids_map, hw, Int.toNat_natCast, List.drop_eq_getElem_cons (by rw [List.length_map, List.length_range]; omega), List.map_cons, List.cons_append]
        congr 2
        rw [List.getElem_map, List.getElem_range, hy]
        rfl
      refine ev_aload_n (i := 0) d_Mo_evaluate_85 rfl rfl rfl ?_
      refine ev_aload_n (i := 0) d_Mo_evaluate_86 rfl rfl rfl ?_
      refine ev_getR d_Mo_evaluate_87 rfl lk_Mo_31 lx_45 rfl ?_
      refine ev_iconst d_Mo_evaluate_90 rfl ⟨by decide, by decide⟩ ?_
      refine ev_iload_n (i := 1) d_Mo_evaluate_91 rfl rfl rfl ?_
      refine ev_imul (z := 3 * (t : Int)) d_Mo_evaluate_92 rfl (g_w_id (by unfold g_rg; omega)) ?_
      refine ev_iload (i := 4) d_Mo_evaluate_93 rfl rfl ?_
      refine ev_iadd (z := ((3 * t + k : Nat) : Int)) d_Mo_evaluate_95 rfl (by rw [g_w_id (by unfold g_rg; omega)]; omega) ?_
      refine ev_iaload (z := (y : Int)) d_Mo_evaluate_96 rfl lx_53 (by omega) (by omega) (by rw [Int.toNat_natCast, (hg2 53 _ (by decide) (by decide) (by omega)), hf 53 _ (by decide) (by omega)]; exact hy) ?_
      refine ev_iload_n (i := 2) d_Mo_evaluate_97 rfl rfl rfl ?_
      refine ev_callV (As := [g_i ((y : Int)), g_i (fr : Int)]) d_Mo_evaluate_98 rfl cl_Mo_240 ((c_Mo_doLater (d + 0) M2 (y : Int) fr (((q_kids M t).drop (k + 1)).map (fun y : Nat => ((y : Int), fr)) ++ (u_op M t, fr) :: K).length hK2.1 (by omega))) (g_hR (by decide)) g_h0 lx_45 rfl rfl (Nat.le_of_ble_eq_true rfl) rfl rfl ?_
      refine ev_iinc (z := (k : Int) - 1) d_Mo_evaluate_101 rfl rfl (by decide) (by rw [g_w_id (by unfold g_rg; omega)]; omega) rfl ?_
      refine ev_goto (tgt := 80) d_Mo_evaluate_104 (by decide) ?_
      exact ev_le (ih k [some (g_r 45), some (g_i (t : Int)), some (g_i (fr : Int)), some (g_i (M 52 t)), some (g_i ((k : Int) - 1))] _ (by omega) ⟨k, by omega, rfl, rfl, hg2.tr (g71_up _ _ _ _ _), by have h9 := u_tk_push hK2 ((y : Nat) : Int) fr; rw [hdk]; exact h9⟩) rfl ⟨rfl, rfl, rfl, rfl, congrArg (fun z => some (some (g_i z))) (by omega), trivial⟩
  · refine ev_iconst d_Mo_evaluate_51 rfl ⟨by decide, by decide⟩ ?_
    refine ev_iload_n (i := 3) d_Mo_evaluate_52 rfl rfl rfl ?_
    refine ev_bipush d_Mo_evaluate_53 rfl (by decide +kernel) ⟨by decide, by decide⟩ ?_
    refine ev_isub (z := (M 52 t) - 8) d_Mo_evaluate_55 rfl (g_w_id (by unfold g_rg; omega)) ?_
    refine ev_isub (z := u_op M t) d_Mo_evaluate_56 rfl (by rw [g_w_id (by unfold g_rg; omega)]; unfold u_op; rw [if_pos (by omega)]) ?_
    refine ev_goto (tgt := 67) d_Mo_evaluate_57 (by decide) ?_
    refine ev_iload_n (i := 2) d_Mo_evaluate_67 rfl rfl rfl ?_
    refine ev_callV (As := [g_i (u_op M t), g_i (fr : Int)]) d_Mo_evaluate_68 rfl cl_Mo_240 ((c_Mo_doLater (d + 0) M1 (u_op M t) fr K.length hK.1 (by omega))) (g_hR (by decide)) g_h0 lx_45 rfl rfl (Nat.le_of_ble_eq_true rfl) rfl rfl ?_
    refine ev_aload_n (i := 0) d_Mo_evaluate_71 rfl rfl rfl ?_
    refine ev_iload_n (i := 1) d_Mo_evaluate_72 rfl rfl rfl ?_
    refine ev_callV (As := [g_i (t : Int)]) d_Mo_evaluate_73 rfl cl_Mo_144 ((c_Mo_places (d + 0) (g_up (g_up (g_up M1 71 K.length (u_op M t)) 72 K.length (fr : Int)) 45 35 ((K.length : Int) + 1)) t ht (by rw [g_up_ne (by decide), g_up_ne (by decide), g_up_ne (by decide), h52]; omega) (by rw [g_up_ne (by decide), g_up_ne (by decide), g_up_ne (by decide), h52]; omega)).eqr (b := (w : Int)) (by rw [← hw, ← q_w_f0 hf.f0]; rfl)) (g_hR (by decide)) g_h0 lx_45 rfl rfl (Nat.le_of_ble_eq_true rfl) rfl rfl ?_
    refine ev_iconst d_Mo_evaluate_76 rfl ⟨by decide, by decide⟩ ?_
    refine ev_isub (z := (w : Int) - 1) d_Mo_evaluate_77 rfl (g_w_id (by unfold g_rg; omega)) ?_
    refine ev_istore (i := 4) d_Mo_evaluate_78 rfl (by decide) rfl ?_
    refine ev_wh (fun n ls1 M2 => ∃ k : Nat, k ≤ w ∧ n = k ∧ ls1 = [some (g_r 45), some (g_i (t : Int)), some (g_i (fr : Int)), some (g_i (M 52 t)), some (g_i ((k : Int) - 1))] ∧ g71 M1 M2 ∧ u_tk M2 (((q_kids M t).drop k).map (fun y : Nat => ((y : Int), fr)) ++ (u_op M t, fr) :: K)) ?_ (n := w) (⟨w, Nat.le_refl _, rfl, rfl, g71_up _ _ _ _ _, by rw [List.drop_of_length_le (by rw [hkl]; exact Nat.le_refl _)]; exact u_tk_push hK _ fr⟩)
    intro n ls1 M2 hP0 ih
    obtain ⟨k, hk, hn, rfl, hg2, hK2⟩ := hP0
    have hlen : (((q_kids M t).drop k).map (fun y : Nat => ((y : Int), fr)) ++ (u_op M t, fr) :: K).length = w - k + 1 + K.length := by rw [List.length_append, List.length_map, List.length_drop, hkl, List.length_cons]; omega
    refine ev_iload (i := 4) d_Mo_evaluate_80 rfl rfl ?_
    refine ev_if_lt (tgt := 107) d_Mo_evaluate_82 (by decide) rfl (fun hz => ?_) (fun hz => ?_)
    · exact ev_retVR d_Mo_evaluate_107 (⟨rfl, hg2, by have e : k = 0 := (by omega); subst e; exact hK2⟩)
    · obtain ⟨k, rfl⟩ : ∃ k9, k = k9 + 1 := ⟨k - 1, by omega⟩
      have h5 := hpart k (by omega)
      obtain ⟨y, hy⟩ : ∃ y : Nat, M 53 (3 * t + k) = y := ⟨(M 53 (3 * t + k)).toNat, by omega⟩
      have hdk : (((q_kids M t).drop k).map (fun y : Nat => ((y : Int), fr)) ++ (u_op M t, fr) :: K) = ((y : Int), fr) :: (((q_kids M t).drop (k + 1)).map (fun y : Nat => ((y : Int), fr)) ++ (u_op M t, fr) :: K) := by
        rw [q_kids_map, hw, Int.toNat_natCast, List.drop_eq_getElem_cons (by rw [List.length_map, List.length_range]; omega), List.map_cons, List.cons_append]
        congr 2
        rw [List.getElem_map, List.getElem_range, hy]
        rfl
      refine ev_aload_n (i := 0) d_Mo_evaluate_85 rfl rfl rfl ?_
      refine ev_aload_n (i := 0) d_Mo_evaluate_86 rfl rfl rfl ?_
      refine ev_getR d_Mo_evaluate_87 rfl lk_Mo_31 lx_45 rfl ?_
      refine ev_iconst d_Mo_evaluate_90 rfl ⟨by decide, by decide⟩ ?_
      refine ev_iload_n (i := 1) d_Mo_evaluate_91 rfl rfl rfl ?_
      refine ev_imul (z := 3 * (t : Int)) d_Mo_evaluate_92 rfl (g_w_id (by unfold g_rg; omega)) ?_
      refine ev_iload (i := 4) d_Mo_evaluate_93 rfl rfl ?_
      refine ev_iadd (z := ((3 * t + k : Nat) : Int)) d_Mo_evaluate_95 rfl (by rw [g_w_id (by unfold g_rg; omega)]; omega) ?_
      refine ev_iaload (z := (y : Int)) d_Mo_evaluate_96 rfl lx_53 (by omega) (by omega) (by rw [Int.toNat_natCast, (hg2 53 _ (by decide) (by decide) (by omega)), hf 53 _ (by decide) (by omega)]; exact hy) ?_
      refine ev_iload_n (i := 2) d_Mo_evaluate_97 rfl rfl rfl ?_
      refine ev_callV (As := [g_i ((y : Int)), g_i (fr : Int)]) d_Mo_evaluate_98 rfl cl_Mo_240 ((c_Mo_doLater (d + 0) M2 (y : Int) fr (((q_kids M t).drop (k + 1)).map (fun y : Nat => ((y : Int), fr)) ++ (u_op M t, fr) :: K).length hK2.1 (by omega))) (g_hR (by decide)) g_h0 lx_45 rfl rfl (Nat.le_of_ble_eq_true rfl) rfl rfl ?_
      refine ev_iinc (z := (k : Int) - 1) d_Mo_evaluate_101 rfl rfl (by decide) (by rw [g_w_id (by unfold g_rg; omega)]; omega) rfl ?_
      refine ev_goto (tgt := 80) d_Mo_evaluate_104 (by decide) ?_
      exact ev_le (ih k [some (g_r 45), some (g_i (t : Int)), some (g_i (fr : Int)), some (g_i (M 52 t)), some (g_i ((k : Int) - 1))] _ (by omega) ⟨k, by omega, rfl, rfl, hg2.tr (g71_up _ _ _ _ _), by have h9 := u_tk_push hK2 ((y : Nat) : Int) fr; rw [hdk]; exact h9⟩) rfl ⟨rfl, rfl, rfl, rfl, congrArg (fun z => some (some (g_i z))) (by omega), trivial⟩
