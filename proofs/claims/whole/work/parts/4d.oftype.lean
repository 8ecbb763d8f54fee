theorem Con.eqr {y : MethodName} {ws : List Cond} {rm : Room} {L L' : g_L} {M M' : g_M} {av : List g_v} {a b : Int} (h : Con y ws rm L M av L' M' (some (g_i a))) (e : a = b) : Con y ws rm L M av L' M' (some (g_i b)) := e ▸ h
theorem z_all_s (f : Nat → Bool) (i : Nat) : (List.range (i + 1)).all f = ((List.range i).all f && f i) := by
  rw [List.range_succ, List.all_append]
  simp
theorem z_all_y {f : Nat → Bool} {i : Nat} (h : (List.range i).all f = true) (h2 : f i = true) : (List.range (i + 1)).all f = true := by
  rw [z_all_s, h, h2]
  rfl
theorem z_all_n {f : Nat → Bool} {i w : Nat} (hi : i < w) (h : ¬ f i = true) : ¬ (List.range w).all f = true := by
  rw [List.all_eq_true]
  exact fun h9 => h (h9 i (List.mem_range.mpr hi))
theorem c_Ty_isOfType_v (d : Nat) (M : g_M) (t h : Nat) (y : Int) (ht : t < 100) (hk : M 10 t = 0) (hh : M 11 t = h) (h8 : h < 8) : Con y_Ty_isOfType w_Ty_isOfType (g_rm (d + 1)) LX M [g_r 25, g_i (t : Int), g_i y] LX M (some (g_i (if M 26 h = y then 1 else 0))) := by
  refine con_of (av := [g_r 25, g_i (t : Int), g_i y]) (ls0 := [some (g_r 25), some (g_i (t : Int)), some (g_i y), none, none, none]) (by decide) rfl (Nat.le_of_ble_eq_true rfl) (g_hls (av := [g_r 25, g_i (t : Int), g_i y]) (k := 3)) (fun _ h9 => List.mem_cons_of_mem _ h9) ?_
  refine ev_aload_n (i := 0) d_Ty_isOfType_0 rfl rfl rfl ?_
  refine ev_getR d_Ty_isOfType_1 rfl lk_Ty_18 lx_25 rfl ?_
  refine ev_iload_n (i := 1) d_Ty_isOfType_4 rfl rfl rfl ?_
  refine ev_callV (As := [g_i (t : Int)]) d_Ty_isOfType_5 rfl cl_Ty_84 ((c_Te_head (d + 0) M t ht).eqr (hh)) (g_hR (by decide)) g_h0 lx_9 rfl rfl (Nat.le_of_ble_eq_true rfl) rfl rfl ?_
  refine ev_istore_n (i := 3) d_Ty_isOfType_8 rfl rfl (by decide) rfl ?_
  refine ev_aload_n (i := 0) d_Ty_isOfType_9 rfl rfl rfl ?_
  refine ev_getR d_Ty_isOfType_10 rfl lk_Ty_18 lx_25 rfl ?_
  refine ev_iload_n (i := 1) d_Ty_isOfType_13 rfl rfl rfl ?_
  refine ev_callV (As := [g_i (t : Int)]) d_Ty_isOfType_14 rfl cl_Ty_79 (c_Te_isVariable (d + 0) M t ht) (g_hR (by decide)) g_h0 lx_9 rfl rfl (Nat.le_of_ble_eq_true rfl) rfl rfl ?_
  refine ev_if_eq_f (tgt := 36) d_Ty_isOfType_17 (by decide) rfl (by rw [if_pos hk]; decide) ?_
  refine ev_aload_n (i := 0) d_Ty_isOfType_20 rfl rfl rfl ?_
  refine ev_getR d_Ty_isOfType_21 rfl lk_Ty_26 lx_25 rfl ?_
  refine ev_iload_n (i := 3) d_Ty_isOfType_24 rfl rfl rfl ?_
  refine ev_iaload (z := M 26 h) d_Ty_isOfType_25 rfl lx_26 (by omega) (by omega) (rfl) ?_
  refine ev_iload_n (i := 2) d_Ty_isOfType_26 rfl rfl rfl ?_
  refine ev_icmp_ne (tgt := 34) d_Ty_isOfType_27 (by decide) rfl (fun h1 => ?_) (fun h1 => ?_)
  · refine ev_iconst d_Ty_isOfType_34 rfl ⟨by decide, by decide⟩ ?_
    exact ev_retI d_Ty_isOfType_35 (by omega) rfl (Or.inr ⟨rfl, by omega⟩)
  · refine ev_iconst d_Ty_isOfType_30 rfl ⟨by decide, by decide⟩ ?_
    refine ev_goto (tgt := 35) d_Ty_isOfType_31 (by decide) ?_
    exact ev_retI d_Ty_isOfType_35 (by omega) rfl (Or.inr ⟨rfl, by omega⟩)
theorem c_Ty_isOfType_c (d : Nat) (M : g_M) (t h w : Nat) (y : Int) (pf : Nat → Nat) (rf : Nat → Bool) (ht : t < 100) (hk : M 10 t = 1) (hh : M 11 t = h) (h8 : h < 8) (hw : M 12 t = w) (hw3 : w ≤ 3) (hp : ∀ k, k < w → M 13 (3 * t + k) = pf k) (ih0 : ∀ k, k < w → Con y_Ty_isOfType w_Ty_isOfType (g_rm (d + 0)) LX M [g_r 25, g_i (pf k : Int), g_i (M 4 (3 * h + k))] LX M (some (g_i (if rf k = true then 1 else 0)))) : Con y_Ty_isOfType w_Ty_isOfType (g_rm (d + 1)) LX M [g_r 25, g_i (t : Int), g_i y] LX M (some (g_i (if M 2 h = y ∧ (List.range w).all rf = true then 1 else 0))) := by
  refine con_of (av := [g_r 25, g_i (t : Int), g_i y]) (ls0 := [some (g_r 25), some (g_i (t : Int)), some (g_i y), none, none, none]) (by decide) rfl (Nat.le_of_ble_eq_true rfl) (g_hls (av := [g_r 25, g_i (t : Int), g_i y]) (k := 3)) (fun _ h9 => List.mem_cons_of_mem _ h9) ?_
  refine ev_aload_n (i := 0) d_Ty_isOfType_0 rfl rfl rfl ?_
  refine ev_getR d_Ty_isOfType_1 rfl lk_Ty_18 lx_25 rfl ?_
  refine ev_iload_n (i := 1) d_Ty_isOfType_4 rfl rfl rfl ?_
  refine ev_callV (As := [g_i (t : Int)]) d_Ty_isOfType_5 rfl cl_Ty_84 ((c_Te_head (d + 0) M t ht).eqr (hh)) (g_hR (by decide)) g_h0 lx_9 rfl rfl (Nat.le_of_ble_eq_true rfl) rfl rfl ?_
  refine ev_istore_n (i := 3) d_Ty_isOfType_8 rfl rfl (by decide) rfl ?_
  refine ev_aload_n (i := 0) d_Ty_isOfType_9 rfl rfl rfl ?_
  refine ev_getR d_Ty_isOfType_10 rfl lk_Ty_18 lx_25 rfl ?_
  refine ev_iload_n (i := 1) d_Ty_isOfType_13 rfl rfl rfl ?_
  refine ev_callV (As := [g_i (t : Int)]) d_Ty_isOfType_14 rfl cl_Ty_79 (c_Te_isVariable (d + 0) M t ht) (g_hR (by decide)) g_h0 lx_9 rfl rfl (Nat.le_of_ble_eq_true rfl) rfl rfl ?_
  refine ev_if_eq_t (tgt := 36) d_Ty_isOfType_17 (by decide) (by rw [if_neg (by omega)]) ?_
  refine ev_aload_n (i := 0) d_Ty_isOfType_36 rfl rfl rfl ?_
  refine ev_getR d_Ty_isOfType_37 rfl lk_Ty_18 lx_25 rfl ?_
  refine ev_iload_n (i := 1) d_Ty_isOfType_40 rfl rfl rfl ?_
  refine ev_callV (As := [g_i (t : Int)]) d_Ty_isOfType_41 rfl cl_Ty_94 (c_Te_isMade (d + 0) M t ht) (g_hR (by decide)) g_h0 lx_9 rfl rfl (Nat.le_of_ble_eq_true rfl) rfl rfl ?_
  refine ev_if_eq_f (tgt := 54) d_Ty_isOfType_44 (by decide) rfl (by rw [if_pos hk]; decide) ?_
  refine ev_aload_n (i := 0) d_Ty_isOfType_47 rfl rfl rfl ?_
  refine ev_getR d_Ty_isOfType_48 rfl lk_Ty_9 lx_25 rfl ?_
  refine ev_goto (tgt := 58) d_Ty_isOfType_51 (by decide) ?_
  refine ev_astore (i := 4) d_Ty_isOfType_58 rfl (by decide) rfl ?_
  refine ev_aload (i := 4) d_Ty_isOfType_60 rfl rfl ?_
  refine ev_iload_n (i := 3) d_Ty_isOfType_62 rfl rfl rfl ?_
  refine ev_callV (As := [g_i (h : Int)]) d_Ty_isOfType_63 rfl cl_Ty_46 (c_Sg_type_c (d + 0) M h h8) (g_hR (by decide)) g_h0 lx_1 rfl rfl (Nat.le_of_ble_eq_true rfl) rfl rfl ?_
  refine ev_iload_n (i := 2) d_Ty_isOfType_66 rfl rfl rfl ?_
  refine ev_icmp_eq (tgt := 72) d_Ty_isOfType_67 (by decide) rfl (fun c1 => ?_) (fun c1 => ?_)
  · refine ev_iconst d_Ty_isOfType_72 rfl ⟨by decide, by decide⟩ ?_
    refine ev_istore (i := 5) d_Ty_isOfType_73 rfl (by decide) rfl ?_
    refine ev_wl (fun n ls1 => ∃ i : Nat, i ≤ w ∧ n = w - i ∧ ls1 = [some (g_r 25), some (g_i (t : Int)), some (g_i y), some (g_i (h : Int)), some (g_r 1), some (g_i (i : Int))] ∧ (List.range i).all rf = true) ?_ (n := w) (⟨0, Nat.zero_le _, rfl, rfl, rfl⟩)
    intro n ls1 hPi ih
    obtain ⟨i, hi, hni, rfl, hvi⟩ := hPi
    refine ev_iload (i := 5) d_Ty_isOfType_75 rfl rfl ?_
    refine ev_aload_n (i := 0) d_Ty_isOfType_77 rfl rfl rfl ?_
    refine ev_getR d_Ty_isOfType_78 rfl lk_Ty_18 lx_25 rfl ?_
    refine ev_iload_n (i := 1) d_Ty_isOfType_81 rfl rfl rfl ?_
    refine ev_callV (As := [g_i (t : Int)]) d_Ty_isOfType_82 rfl cl_Ty_87 ((c_Te_width (d + 0) M t ht).eqr (hw)) (g_hR (by decide)) g_h0 lx_9 rfl rfl (Nat.le_of_ble_eq_true rfl) rfl rfl ?_
    refine ev_icmp_ge (tgt := 121) d_Ty_isOfType_85 (by decide) rfl (fun hz => ?_) (fun hz => ?_)
    · refine ev_iconst d_Ty_isOfType_121 rfl ⟨by decide, by decide⟩ ?_
      exact ev_retI d_Ty_isOfType_122 (by have e : i = w := (by omega); subst e; rw [if_pos ⟨c1, hvi⟩]) rfl (Or.inr ⟨rfl, by omega⟩)
    · refine ev_aload_n (i := 0) d_Ty_isOfType_88 rfl rfl rfl ?_
      refine ev_aload_n (i := 0) d_Ty_isOfType_89 rfl rfl rfl ?_
      refine ev_getR d_Ty_isOfType_90 rfl lk_Ty_18 lx_25 rfl ?_
      refine ev_iload_n (i := 1) d_Ty_isOfType_93 rfl rfl rfl ?_
      refine ev_iload (i := 5) d_Ty_isOfType_94 rfl rfl ?_
      refine ev_callV (As := [g_i (t : Int), g_i (i : Int)]) d_Ty_isOfType_96 rfl cl_Ty_88 ((c_Te_part (d + 0) M t i ht (by omega)).eqr (hp i (by omega))) (g_hR (by decide)) g_h0 lx_9 rfl rfl (Nat.le_of_ble_eq_true rfl) rfl rfl ?_
      refine ev_aload (i := 4) d_Ty_isOfType_99 rfl rfl ?_
      refine ev_iload_n (i := 3) d_Ty_isOfType_101 rfl rfl rfl ?_
      refine ev_iload (i := 5) d_Ty_isOfType_102 rfl rfl ?_
      refine ev_callV (As := [g_i (h : Int), g_i (i : Int)]) d_Ty_isOfType_104 rfl cl_Ty_66 (c_Sg_placeType_c (d + 0) M h i h8 (by omega)) (g_hR (by decide)) g_h0 lx_1 rfl rfl (Nat.le_of_ble_eq_true rfl) rfl rfl ?_
      refine ev_callV (As := [g_i (pf i : Int), g_i (M 4 (3 * h + i))]) d_Ty_isOfType_107 rfl cl_Ty_76 (ih0 i (by omega)) (g_hR (by decide)) g_h0 lx_25 rfl rfl (Nat.le_of_ble_eq_true rfl) rfl rfl ?_
      refine ev_bne (tgt := 115) d_Ty_isOfType_110 (by decide) rfl (fun c2 => ?_) (fun c2 => ?_)
      · refine ev_iinc (z := (i : Int) + 1) d_Ty_isOfType_115 rfl rfl (by decide) (g_w_id (by unfold g_rg; omega)) rfl ?_
        refine ev_goto (tgt := 75) d_Ty_isOfType_118 (by decide) ?_
        exact ev_le (ih (w - (i + 1)) [some (g_r 25), some (g_i (t : Int)), some (g_i y), some (g_i (h : Int)), some (g_r 1), some (g_i ((i + 1 : Nat) : Int))] (by omega) ⟨i + 1, by omega, rfl, rfl, z_all_y hvi c2⟩) rfl ⟨rfl, rfl, rfl, rfl, rfl, rfl, trivial⟩
      · refine ev_iconst d_Ty_isOfType_113 rfl ⟨by decide, by decide⟩ ?_
        exact ev_retI d_Ty_isOfType_114 (by rw [if_neg (fun h9 => z_all_n (show i < w by omega) c2 h9.2)]) rfl (Or.inr ⟨rfl, by omega⟩)
  · refine ev_iconst d_Ty_isOfType_70 rfl ⟨by decide, by decide⟩ ?_
    exact ev_retI d_Ty_isOfType_71 (by rw [if_neg (fun h9 => c1 h9.1)]) rfl (Or.inr ⟨rfl, by omega⟩)
theorem c_Ty_isOfType_f (d : Nat) (M : g_M) (t h w : Nat) (y : Int) (pf : Nat → Nat) (rf : Nat → Bool) (ht : t < 100) (hk : M 10 t = 2) (hh : M 11 t = h) (h8 : h < 6) (hw : M 12 t = w) (hw3 : w ≤ 3) (hp : ∀ k, k < w → M 13 (3 * t + k) = pf k) (ih0 : ∀ k, k < w → Con y_Ty_isOfType w_Ty_isOfType (g_rm (d + 0)) LX M [g_r 25, g_i (pf k : Int), g_i (M 8 (3 * h + k))] LX M (some (g_i (if rf k = true then 1 else 0)))) : Con y_Ty_isOfType w_Ty_isOfType (g_rm (d + 1)) LX M [g_r 25, g_i (t : Int), g_i y] LX M (some (g_i (if M 6 h = y ∧ (List.range w).all rf = true then 1 else 0))) := by
  refine con_of (av := [g_r 25, g_i (t : Int), g_i y]) (ls0 := [some (g_r 25), some (g_i (t : Int)), some (g_i y), none, none, none]) (by decide) rfl (Nat.le_of_ble_eq_true rfl) (g_hls (av := [g_r 25, g_i (t : Int), g_i y]) (k := 3)) (fun _ h9 => List.mem_cons_of_mem _ h9) ?_
  refine ev_aload_n (i := 0) d_Ty_isOfType_0 rfl rfl rfl ?_
  refine ev_getR d_Ty_isOfType_1 rfl lk_Ty_18 lx_25 rfl ?_
  refine ev_iload_n (i := 1) d_Ty_isOfType_4 rfl rfl rfl ?_
  refine ev_callV (As := [g_i (t : Int)]) d_Ty_isOfType_5 rfl cl_Ty_84 ((c_Te_head (d + 0) M t ht).eqr (hh)) (g_hR (by decide)) g_h0 lx_9 rfl rfl (Nat.le_of_ble_eq_true rfl) rfl rfl ?_
  refine ev_istore_n (i := 3) d_Ty_isOfType_8 rfl rfl (by decide) rfl ?_
  refine ev_aload_n (i := 0) d_Ty_isOfType_9 rfl rfl rfl ?_
  refine ev_getR d_Ty_isOfType_10 rfl lk_Ty_18 lx_25 rfl ?_
  refine ev_iload_n (i := 1) d_Ty_isOfType_13 rfl rfl rfl ?_
  refine ev_callV (As := [g_i (t : Int)]) d_Ty_isOfType_14 rfl cl_Ty_79 (c_Te_isVariable (d + 0) M t ht) (g_hR (by decide)) g_h0 lx_9 rfl rfl (Nat.le_of_ble_eq_true rfl) rfl rfl ?_
  refine ev_if_eq_t (tgt := 36) d_Ty_isOfType_17 (by decide) (by rw [if_neg (by omega)]) ?_
  refine ev_aload_n (i := 0) d_Ty_isOfType_36 rfl rfl rfl ?_
  refine ev_getR d_Ty_isOfType_37 rfl lk_Ty_18 lx_25 rfl ?_
  refine ev_iload_n (i := 1) d_Ty_isOfType_40 rfl rfl rfl ?_
  refine ev_callV (As := [g_i (t : Int)]) d_Ty_isOfType_41 rfl cl_Ty_94 (c_Te_isMade (d + 0) M t ht) (g_hR (by decide)) g_h0 lx_9 rfl rfl (Nat.le_of_ble_eq_true rfl) rfl rfl ?_
  refine ev_if_eq_t (tgt := 54) d_Ty_isOfType_44 (by decide) (by rw [if_neg (by omega)]) ?_
  refine ev_aload_n (i := 0) d_Ty_isOfType_54 rfl rfl rfl ?_
  refine ev_getR d_Ty_isOfType_55 rfl lk_Ty_15 lx_25 rfl ?_
  refine ev_astore (i := 4) d_Ty_isOfType_58 rfl (by decide) rfl ?_
  refine ev_aload (i := 4) d_Ty_isOfType_60 rfl rfl ?_
  refine ev_iload_n (i := 3) d_Ty_isOfType_62 rfl rfl rfl ?_
  refine ev_callV (As := [g_i (h : Int)]) d_Ty_isOfType_63 rfl cl_Ty_46 (c_Sg_type_f (d + 0) M h h8) (g_hR (by decide)) g_h0 lx_5 rfl rfl (Nat.le_of_ble_eq_true rfl) rfl rfl ?_
  refine ev_iload_n (i := 2) d_Ty_isOfType_66 rfl rfl rfl ?_
  refine ev_icmp_eq (tgt := 72) d_Ty_isOfType_67 (by decide) rfl (fun c1 => ?_) (fun c1 => ?_)
  · refine ev_iconst d_Ty_isOfType_72 rfl ⟨by decide, by decide⟩ ?_
    refine ev_istore (i := 5) d_Ty_isOfType_73 rfl (by decide) rfl ?_
    refine ev_wl (fun n ls1 => ∃ i : Nat, i ≤ w ∧ n = w - i ∧ ls1 = [some (g_r 25), some (g_i (t : Int)), some (g_i y), some (g_i (h : Int)), some (g_r 5), some (g_i (i : Int))] ∧ (List.range i).all rf = true) ?_ (n := w) (⟨0, Nat.zero_le _, rfl, rfl, rfl⟩)
    intro n ls1 hPi ih
    obtain ⟨i, hi, hni, rfl, hvi⟩ := hPi
    refine ev_iload (i := 5) d_Ty_isOfType_75 rfl rfl ?_
    refine ev_aload_n (i := 0) d_Ty_isOfType_77 rfl rfl rfl ?_
    refine ev_getR d_Ty_isOfType_78 rfl lk_Ty_18 lx_25 rfl ?_
    refine ev_iload_n (i := 1) d_Ty_isOfType_81 rfl rfl rfl ?_
    refine ev_callV (As := [g_i (t : Int)]) d_Ty_isOfType_82 rfl cl_Ty_87 ((c_Te_width (d + 0) M t ht).eqr (hw)) (g_hR (by decide)) g_h0 lx_9 rfl rfl (Nat.le_of_ble_eq_true rfl) rfl rfl ?_
    refine ev_icmp_ge (tgt := 121) d_Ty_isOfType_85 (by decide) rfl (fun hz => ?_) (fun hz => ?_)
    · refine ev_iconst d_Ty_isOfType_121 rfl ⟨by decide, by decide⟩ ?_
      exact ev_retI d_Ty_isOfType_122 (by have e : i = w := (by omega); subst e; rw [if_pos ⟨c1, hvi⟩]) rfl (Or.inr ⟨rfl, by omega⟩)
    · refine ev_aload_n (i := 0) d_Ty_isOfType_88 rfl rfl rfl ?_
      refine ev_aload_n (i := 0) d_Ty_isOfType_89 rfl rfl rfl ?_
      refine ev_getR d_Ty_isOfType_90 rfl lk_Ty_18 lx_25 rfl ?_
      refine ev_iload_n (i := 1) d_Ty_isOfType_93 rfl rfl rfl ?_
      refine ev_iload (i := 5) d_Ty_isOfType_94 rfl rfl ?_
      refine ev_callV (As := [g_i (t : Int), g_i (i : Int)]) d_Ty_isOfType_96 rfl cl_Ty_88 ((c_Te_part (d + 0) M t i ht (by omega)).eqr (hp i (by omega))) (g_hR (by decide)) g_h0 lx_9 rfl rfl (Nat.le_of_ble_eq_true rfl) rfl rfl ?_
      refine ev_aload (i := 4) d_Ty_isOfType_99 rfl rfl ?_
      refine ev_iload_n (i := 3) d_Ty_isOfType_101 rfl rfl rfl ?_
      refine ev_iload (i := 5) d_Ty_isOfType_102 rfl rfl ?_
      refine ev_callV (As := [g_i (h : Int), g_i (i : Int)]) d_Ty_isOfType_104 rfl cl_Ty_66 (c_Sg_placeType_f (d + 0) M h i h8 (by omega)) (g_hR (by decide)) g_h0 lx_5 rfl rfl (Nat.le_of_ble_eq_true rfl) rfl rfl ?_
      refine ev_callV (As := [g_i (pf i : Int), g_i (M 8 (3 * h + i))]) d_Ty_isOfType_107 rfl cl_Ty_76 (ih0 i (by omega)) (g_hR (by decide)) g_h0 lx_25 rfl rfl (Nat.le_of_ble_eq_true rfl) rfl rfl ?_
      refine ev_bne (tgt := 115) d_Ty_isOfType_110 (by decide) rfl (fun c2 => ?_) (fun c2 => ?_)
      · refine ev_iinc (z := (i : Int) + 1) d_Ty_isOfType_115 rfl rfl (by decide) (g_w_id (by unfold g_rg; omega)) rfl ?_
        refine ev_goto (tgt := 75) d_Ty_isOfType_118 (by decide) ?_
        exact ev_le (ih (w - (i + 1)) [some (g_r 25), some (g_i (t : Int)), some (g_i y), some (g_i (h : Int)), some (g_r 5), some (g_i ((i + 1 : Nat) : Int))] (by omega) ⟨i + 1, by omega, rfl, rfl, z_all_y hvi c2⟩) rfl ⟨rfl, rfl, rfl, rfl, rfl, rfl, trivial⟩
      · refine ev_iconst d_Ty_isOfType_113 rfl ⟨by decide, by decide⟩ ?_
        exact ev_retI d_Ty_isOfType_114 (by rw [if_neg (fun h9 => z_all_n (show i < w by omega) c2 h9.2)]) rfl (Or.inr ⟨rfl, by omega⟩)
  · refine ev_iconst d_Ty_isOfType_70 rfl ⟨by decide, by decide⟩ ?_
    exact ev_retI d_Ty_isOfType_71 (by rw [if_neg (fun h9 => c1 h9.1)]) rfl (Or.inr ⟨rfl, by omega⟩)
theorem c_Te_isClosed (d : Nat) (M : g_M) (t : Nat) (ht : t < 100) : Con y_Te_isClosed w_Te_isClosed (g_rm (d)) LX M [g_r 9, g_i (t : Int)] LX M (some (g_i (if M 17 t = 0 ∧ M 16 t = 0 then 1 else 0))) := by
  refine con_of (av := [g_r 9, g_i (t : Int)]) (ls0 := [some (g_r 9), some (g_i (t : Int))]) (by decide) rfl (Nat.le_of_ble_eq_true rfl) (g_hls (av := [g_r 9, g_i (t : Int)]) (k := 0)) (fun _ h9 => List.mem_cons_of_mem _ h9) ?_
  refine ev_aload_n (i := 0) d_Te_isClosed_0 rfl rfl rfl ?_
  refine ev_getR d_Te_isClosed_1 rfl lk_Te_33 lx_9 rfl ?_
  refine ev_iload_n (i := 1) d_Te_isClosed_4 rfl rfl rfl ?_
  refine ev_baload (z := M 17 t) d_Te_isClosed_5 rfl lx_17 (by omega) (by omega) (rfl) ?_
  refine ev_if_ne (tgt := 22) d_Te_isClosed_6 (by decide) rfl (fun h1 => ?_) (fun h1 => ?_)
  · refine ev_iconst d_Te_isClosed_22 rfl ⟨by decide, by decide⟩ ?_
    exact ev_retI d_Te_isClosed_23 (by omega) rfl (Or.inr ⟨rfl, by omega⟩)
  · refine ev_aload_n (i := 0) d_Te_isClosed_9 rfl rfl rfl ?_
    refine ev_getR d_Te_isClosed_10 rfl lk_Te_30 lx_9 rfl ?_
    refine ev_iload_n (i := 1) d_Te_isClosed_13 rfl rfl rfl ?_
    refine ev_iaload (z := M 16 t) d_Te_isClosed_14 rfl lx_16 (by omega) (by omega) (rfl) ?_
    refine ev_if_ne (tgt := 22) d_Te_isClosed_15 (by decide) rfl (fun h2 => ?_) (fun h2 => ?_)
    · refine ev_iconst d_Te_isClosed_22 rfl ⟨by decide, by decide⟩ ?_
      exact ev_retI d_Te_isClosed_23 (by omega) rfl (Or.inr ⟨rfl, by omega⟩)
    · refine ev_iconst d_Te_isClosed_18 rfl ⟨by decide, by decide⟩ ?_
      refine ev_goto (tgt := 23) d_Te_isClosed_19 (by decide) ?_
      exact ev_retI d_Te_isClosed_23 (by omega) rfl (Or.inr ⟨rfl, by omega⟩)
