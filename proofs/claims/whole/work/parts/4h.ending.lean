theorem c_En_collectCallsIn_y (d : Nat) (M : g_M) (t w : Nat) (l : List Nat) (pf : Nat → Nat) (lf : Nat → List Nat) (ht : t < 100) (hk : M 10 t = 2) (hl : l.length < 40) (h0 : lf 0 = l ++ [t]) (hw : M 12 t = w) (hw3 : w ≤ 3) (hp : ∀ k, k < w → M 13 (3 * t + k) = pf k) (ih0 : ∀ k, k < w → Con y_En_collectCallsIn w_En_collectCallsIn (g_rm (d + 0)) LX (e_c M (lf k)) [g_r 30, g_i (pf k : Int)] LX (e_c M (lf (k + 1))) none) : Con y_En_collectCallsIn w_En_collectCallsIn (g_rm (d + 1)) LX (e_c M l) [g_r 30, g_i (t : Int)] LX (e_c M (lf w)) none := by
  refine con_of (av := [g_r 30, g_i (t : Int)]) (ls0 := [some (g_r 30), some (g_i (t : Int)), none]) (by decide) rfl (Nat.le_of_ble_eq_true rfl) (g_hls (av := [g_r 30, g_i (t : Int)]) (k := 1)) (fun _ h9 => List.mem_cons_of_mem _ h9) ?_
  refine ev_aload_n (i := 0) d_En_collectCallsIn_0 rfl rfl rfl ?_
  refine ev_getR d_En_collectCallsIn_1 rfl lk_En_15 lx_30 rfl ?_
  refine ev_iload_n (i := 1) d_En_collectCallsIn_4 rfl rfl rfl ?_
  refine ev_callV (As := [g_i (t : Int)]) d_En_collectCallsIn_5 rfl cl_En_50 (c_Te_isCalled (d + 0) (e_c M l) t ht) (g_hR (by decide)) g_h0 lx_9 rfl rfl (Nat.le_of_ble_eq_true rfl) rfl rfl ?_
  refine ev_if_eq_f (tgt := 40) d_En_collectCallsIn_8 (by decide) rfl (by rw [if_pos (by rw [e_c_ne (by decide) (by decide)]; exact hk)]; decide) ?_
  refine ev_aload_n (i := 0) d_En_collectCallsIn_11 rfl rfl rfl ?_
  refine ev_getI (z := (l.length : Int)) d_En_collectCallsIn_12 rfl lk_En_37 lx_30 rfl (e_c_n M l) ?_
  refine ev_bipush d_En_collectCallsIn_15 rfl (by decide +kernel) ⟨by decide, by decide⟩ ?_
  refine ev_icmp_ge_f (tgt := 40) d_En_collectCallsIn_17 (by decide) rfl (by omega) ?_
  refine ev_aload_n (i := 0) d_En_collectCallsIn_20 rfl rfl rfl ?_
  refine ev_getR d_En_collectCallsIn_21 rfl lk_En_23 lx_30 rfl ?_
  refine ev_aload_n (i := 0) d_En_collectCallsIn_24 rfl rfl rfl ?_
  refine ev_getI (z := (l.length : Int)) d_En_collectCallsIn_25 rfl lk_En_37 lx_30 rfl (e_c_n M l) ?_
  refine ev_iload_n (i := 1) d_En_collectCallsIn_28 rfl rfl rfl ?_
  refine ev_iastore d_En_collectCallsIn_29 rfl lx_31 (by omega) (by omega) ?_
  rw [show Int.toNat (((l.length : Int))) = l.length by rfl]
  refine ev_aload_n (i := 0) d_En_collectCallsIn_30 rfl rfl rfl ?_
  refine ev_dup d_En_collectCallsIn_31 rfl rfl ?_
  refine ev_getI (z := (l.length : Int)) d_En_collectCallsIn_32 rfl lk_En_37 lx_30 rfl (by rw [g_up_ne (by decide)]; exact e_c_n M l) ?_
  refine ev_iconst d_En_collectCallsIn_35 rfl ⟨by decide, by decide⟩ ?_
  refine ev_iadd (z := ((l.length : Int)) + 1) d_En_collectCallsIn_36 rfl (g_w_id (by unfold g_rg; omega)) ?_
  refine ev_putI d_En_collectCallsIn_37 rfl lk_En_37 fp_En_4 (Or.inl rfl) lx_30 rfl ?_
  refine ev_iconst d_En_collectCallsIn_40 rfl ⟨by decide, by decide⟩ ?_
  refine ev_istore_n (i := 2) d_En_collectCallsIn_41 rfl rfl (by decide) rfl ?_
  refine ev_wh (fun n ls1 M1 => ∃ i : Nat, i ≤ w ∧ n = w - i ∧ ls1 = [some (g_r 30), some (g_i (t : Int)), some (g_i (i : Int))] ∧ M1 = (e_c M (lf i))) ?_ (n := w) (⟨0, Nat.zero_le _, rfl, rfl, by rw [h0, e_c_p]⟩)
  intro n ls1 M1 hP ih
  obtain ⟨i, hi, hn, rfl, rfl⟩ := hP
  refine ev_iload_n (i := 2) d_En_collectCallsIn_42 rfl rfl rfl ?_
  refine ev_aload_n (i := 0) d_En_collectCallsIn_43 rfl rfl rfl ?_
  refine ev_getR d_En_collectCallsIn_44 rfl lk_En_15 lx_30 rfl ?_
  refine ev_iload_n (i := 1) d_En_collectCallsIn_47 rfl rfl rfl ?_
  refine ev_callV (As := [g_i (t : Int)]) d_En_collectCallsIn_48 rfl cl_En_56 ((c_Te_width (d + 0) (e_c M (lf i)) t ht).eqr (b := (w : Int)) (by rw [e_c_ne (by decide) (by decide)]; exact hw)) (g_hR (by decide)) g_h0 lx_9 rfl rfl (Nat.le_of_ble_eq_true rfl) rfl rfl ?_
  refine ev_icmp_ge (tgt := 73) d_En_collectCallsIn_51 (by decide) rfl (fun hz => ?_) (fun hz => ?_)
  · exact ev_retV d_En_collectCallsIn_73 (by have e : i = w := (by omega); subst e; rfl)
  · refine ev_aload_n (i := 0) d_En_collectCallsIn_54 rfl rfl rfl ?_
    refine ev_aload_n (i := 0) d_En_collectCallsIn_55 rfl rfl rfl ?_
    refine ev_getR d_En_collectCallsIn_56 rfl lk_En_15 lx_30 rfl ?_
    refine ev_iload_n (i := 1) d_En_collectCallsIn_59 rfl rfl rfl ?_
    refine ev_iload_n (i := 2) d_En_collectCallsIn_60 rfl rfl rfl ?_
    refine ev_callV (As := [g_i (t : Int), g_i (i : Int)]) d_En_collectCallsIn_61 rfl cl_En_59 ((c_Te_part (d + 0) (e_c M (lf i)) t i ht (by omega)).eqr (b := (pf i : Int)) (by rw [e_c_ne (by decide) (by decide)]; exact (hp i (by omega)))) (g_hR (by decide)) g_h0 lx_9 rfl rfl (Nat.le_of_ble_eq_true rfl) rfl rfl ?_
    refine ev_callV (As := [g_i (pf i : Int)]) d_En_collectCallsIn_64 rfl cl_En_47 (ih0 i (by omega)) (g_hR (by decide)) g_h0 lx_30 rfl rfl (Nat.le_of_ble_eq_true rfl) rfl rfl ?_
    refine ev_iinc (z := (i : Int) + 1) d_En_collectCallsIn_67 rfl rfl (by decide) (g_w_id (by unfold g_rg; omega)) rfl ?_
    refine ev_goto (tgt := 42) d_En_collectCallsIn_70 (by decide) ?_
    exact ev_le (ih (w - (i + 1)) [some (g_r 30), some (g_i (t : Int)), some (g_i ((i + 1 : Nat) : Int))] (e_c M (lf (i + 1))) (by omega) ⟨i + 1, by omega, rfl, rfl, rfl⟩) rfl ⟨rfl, rfl, rfl, trivial⟩
theorem c_En_collectCallsIn_n (d : Nat) (M : g_M) (t w : Nat) (l : List Nat) (pf : Nat → Nat) (lf : Nat → List Nat) (ht : t < 100) (hk : ¬ M 10 t = 2) (h0 : lf 0 = l) (hw : M 12 t = w) (hw3 : w ≤ 3) (hp : ∀ k, k < w → M 13 (3 * t + k) = pf k) (ih0 : ∀ k, k < w → Con y_En_collectCallsIn w_En_collectCallsIn (g_rm (d + 0)) LX (e_c M (lf k)) [g_r 30, g_i (pf k : Int)] LX (e_c M (lf (k + 1))) none) : Con y_En_collectCallsIn w_En_collectCallsIn (g_rm (d + 1)) LX (e_c M l) [g_r 30, g_i (t : Int)] LX (e_c M (lf w)) none := by
  refine con_of (av := [g_r 30, g_i (t : Int)]) (ls0 := [some (g_r 30), some (g_i (t : Int)), none]) (by decide) rfl (Nat.le_of_ble_eq_true rfl) (g_hls (av := [g_r 30, g_i (t : Int)]) (k := 1)) (fun _ h9 => List.mem_cons_of_mem _ h9) ?_
  refine ev_aload_n (i := 0) d_En_collectCallsIn_0 rfl rfl rfl ?_
  refine ev_getR d_En_collectCallsIn_1 rfl lk_En_15 lx_30 rfl ?_
  refine ev_iload_n (i := 1) d_En_collectCallsIn_4 rfl rfl rfl ?_
  refine ev_callV (As := [g_i (t : Int)]) d_En_collectCallsIn_5 rfl cl_En_50 (c_Te_isCalled (d + 0) (e_c M l) t ht) (g_hR (by decide)) g_h0 lx_9 rfl rfl (Nat.le_of_ble_eq_true rfl) rfl rfl ?_
  refine ev_if_eq_t (tgt := 40) d_En_collectCallsIn_8 (by decide) (by rw [if_neg (by rw [e_c_ne (by decide) (by decide)]; exact hk)]) ?_
  refine ev_iconst d_En_collectCallsIn_40 rfl ⟨by decide, by decide⟩ ?_
  refine ev_istore_n (i := 2) d_En_collectCallsIn_41 rfl rfl (by decide) rfl ?_
  refine ev_wh (fun n ls1 M1 => ∃ i : Nat, i ≤ w ∧ n = w - i ∧ ls1 = [some (g_r 30), some (g_i (t : Int)), some (g_i (i : Int))] ∧ M1 = (e_c M (lf i))) ?_ (n := w) (⟨0, Nat.zero_le _, rfl, rfl, by rw [h0]⟩)
  intro n ls1 M1 hP ih
  obtain ⟨i, hi, hn, rfl, rfl⟩ := hP
  refine ev_iload_n (i := 2) d_En_collectCallsIn_42 rfl rfl rfl ?_
  refine ev_aload_n (i := 0) d_En_collectCallsIn_43 rfl rfl rfl ?_
  refine ev_getR d_En_collectCallsIn_44 rfl lk_En_15 lx_30 rfl ?_
  refine ev_iload_n (i := 1) d_En_collectCallsIn_47 rfl rfl rfl ?_
  refine ev_callV (As := [g_i (t : Int)]) d_En_collectCallsIn_48 rfl cl_En_56 ((c_Te_width (d + 0) (e_c M (lf i)) t ht).eqr (b := (w : Int)) (by rw [e_c_ne (by decide) (by decide)]; exact hw)) (g_hR (by decide)) g_h0 lx_9 rfl rfl (Nat.le_of_ble_eq_true rfl) rfl rfl ?_
  refine ev_icmp_ge (tgt := 73) d_En_collectCallsIn_51 (by decide) rfl (fun hz => ?_) (fun hz => ?_)
  · exact ev_retV d_En_collectCallsIn_73 (by have e : i = w := (by omega); subst e; rfl)
  · refine ev_aload_n (i := 0) d_En_collectCallsIn_54 rfl rfl rfl ?_
    refine ev_aload_n (i := 0) d_En_collectCallsIn_55 rfl rfl rfl ?_
    refine ev_getR d_En_collectCallsIn_56 rfl lk_En_15 lx_30 rfl ?_
    refine ev_iload_n (i := 1) d_En_collectCallsIn_59 rfl rfl rfl ?_
    refine ev_iload_n (i := 2) d_En_collectCallsIn_60 rfl rfl rfl ?_
    refine ev_callV (As := [g_i (t : Int), g_i (i : Int)]) d_En_collectCallsIn_61 rfl cl_En_59 ((c_Te_part (d + 0) (e_c M (lf i)) t i ht (by omega)).eqr (b := (pf i : Int)) (by rw [e_c_ne (by decide) (by decide)]; exact (hp i (by omega)))) (g_hR (by decide)) g_h0 lx_9 rfl rfl (Nat.le_of_ble_eq_true rfl) rfl rfl ?_
    refine ev_callV (As := [g_i (pf i : Int)]) d_En_collectCallsIn_64 rfl cl_En_47 (ih0 i (by omega)) (g_hR (by decide)) g_h0 lx_30 rfl rfl (Nat.le_of_ble_eq_true rfl) rfl rfl ?_
    refine ev_iinc (z := (i : Int) + 1) d_En_collectCallsIn_67 rfl rfl (by decide) (g_w_id (by unfold g_rg; omega)) rfl ?_
    refine ev_goto (tgt := 42) d_En_collectCallsIn_70 (by decide) ?_
    exact ev_le (ih (w - (i + 1)) [some (g_r 30), some (g_i (t : Int)), some (g_i ((i + 1 : Nat) : Int))] (e_c M (lf (i + 1))) (by omega) ⟨i + 1, by omega, rfl, rfl, rfl⟩) rfl ⟨rfl, rfl, rfl, trivial⟩
theorem c_En_isSame_v (d : Nat) (M : g_M) (p x h : Nat) (hp1 : p < 100) (hx1 : x < 100) (hk : M 10 p = 0) (hh : M 11 p = h) : Con y_En_isSame w_En_isSame (g_rm (d + 1)) LX M [g_r 30, g_i (p : Int), g_i (x : Int)] LX M (some (g_i (if M 10 x = 0 ∧ M 11 x = h then 1 else 0))) := by
  refine con_of (av := [g_r 30, g_i (p : Int), g_i (x : Int)]) (ls0 := [some (g_r 30), some (g_i (p : Int)), some (g_i (x : Int)), none]) (by decide) rfl (Nat.le_of_ble_eq_true rfl) (g_hls (av := [g_r 30, g_i (p : Int), g_i (x : Int)]) (k := 1)) (fun _ h9 => List.mem_cons_of_mem _ h9) ?_
  refine ev_aload_n (i := 0) d_En_isSame_0 rfl rfl rfl ?_
  refine ev_getR d_En_isSame_1 rfl lk_En_15 lx_30 rfl ?_
  refine ev_iload_n (i := 1) d_En_isSame_4 rfl rfl rfl ?_
  refine ev_callV (As := [g_i (p : Int)]) d_En_isSame_5 rfl cl_En_70 (c_Te_isVariable (d + 0) M p (by omega)) (g_hR (by decide)) g_h0 lx_9 rfl rfl (Nat.le_of_ble_eq_true rfl) rfl rfl ?_
  refine ev_if_ne_t (tgt := 22) d_En_isSame_8 (by decide) (by rw [if_pos hk]; decide) ?_
  refine ev_aload_n (i := 0) d_En_isSame_22 rfl rfl rfl ?_
  refine ev_getR d_En_isSame_23 rfl lk_En_15 lx_30 rfl ?_
  refine ev_iload_n (i := 1) d_En_isSame_26 rfl rfl rfl ?_
  refine ev_callV (As := [g_i (p : Int)]) d_En_isSame_27 rfl cl_En_70 (c_Te_isVariable (d + 0) M p (by omega)) (g_hR (by decide)) g_h0 lx_9 rfl rfl (Nat.le_of_ble_eq_true rfl) rfl rfl ?_
  refine ev_if_eq_f (tgt := 67) d_En_isSame_30 (by decide) rfl (by rw [if_pos hk]; decide) ?_
  refine ev_aload_n (i := 0) d_En_isSame_33 rfl rfl rfl ?_
  refine ev_getR d_En_isSame_34 rfl lk_En_15 lx_30 rfl ?_
  refine ev_iload_n (i := 2) d_En_isSame_37 rfl rfl rfl ?_
  refine ev_callV (As := [g_i (x : Int)]) d_En_isSame_38 rfl cl_En_70 (c_Te_isVariable (d + 0) M x (by omega)) (g_hR (by decide)) g_h0 lx_9 rfl rfl (Nat.le_of_ble_eq_true rfl) rfl rfl ?_
  refine ev_beq (tgt := 67) d_En_isSame_41 (by decide) rfl (fun c1 => ?_) (fun c1 => ?_)
  · refine ev_iconst d_En_isSame_67 rfl ⟨by decide, by decide⟩ ?_
    exact ev_retI d_En_isSame_68 (by omega) rfl (Or.inr ⟨rfl, by omega⟩)
  · refine ev_aload_n (i := 0) d_En_isSame_44 rfl rfl rfl ?_
    refine ev_getR d_En_isSame_45 rfl lk_En_15 lx_30 rfl ?_
    refine ev_iload_n (i := 1) d_En_isSame_48 rfl rfl rfl ?_
    refine ev_callV (As := [g_i (p : Int)]) d_En_isSame_49 rfl cl_En_73 ((c_Te_head (d + 0) M p (by omega)).eqr (hh)) (g_hR (by decide)) g_h0 lx_9 rfl rfl (Nat.le_of_ble_eq_true rfl) rfl rfl ?_
    refine ev_aload_n (i := 0) d_En_isSame_52 rfl rfl rfl ?_
    refine ev_getR d_En_isSame_53 rfl lk_En_15 lx_30 rfl ?_
    refine ev_iload_n (i := 2) d_En_isSame_56 rfl rfl rfl ?_
    refine ev_callV (As := [g_i (x : Int)]) d_En_isSame_57 rfl cl_En_73 (c_Te_head (d + 0) M x (by omega)) (g_hR (by decide)) g_h0 lx_9 rfl rfl (Nat.le_of_ble_eq_true rfl) rfl rfl ?_
    refine ev_icmp_ne (tgt := 67) d_En_isSame_60 (by decide) rfl (fun c2 => ?_) (fun c2 => ?_)
    · refine ev_iconst d_En_isSame_67 rfl ⟨by decide, by decide⟩ ?_
      exact ev_retI d_En_isSame_68 (by omega) rfl (Or.inr ⟨rfl, by omega⟩)
    · refine ev_iconst d_En_isSame_63 rfl ⟨by decide, by decide⟩ ?_
      refine ev_goto (tgt := 68) d_En_isSame_64 (by decide) ?_
      exact ev_retI d_En_isSame_68 (by omega) rfl (Or.inr ⟨rfl, by omega⟩)
theorem c_En_isSame_m (d : Nat) (M : g_M) (p x h w : Nat) (pf xf : Nat → Nat) (rf : Nat → Bool) (hp1 : p < 100) (hx1 : x < 100) (hk : M 10 p = 1) (hh : M 11 p = h) (hw : M 12 p = w) (hw3 : w ≤ 3) (hp : ∀ k, k < w → M 13 (3 * p + k) = pf k) (hx : M 10 x = 1 → M 11 x = h → ∀ k, k < w → M 13 (3 * x + k) = xf k) (ih0 : M 10 x = 1 → M 11 x = h → ∀ k, k < w → Con y_En_isSame w_En_isSame (g_rm (d + 0)) LX M [g_r 30, g_i (pf k : Int), g_i (xf k : Int)] LX M (some (g_i (if rf k = true then 1 else 0)))) : Con y_En_isSame w_En_isSame (g_rm (d + 1)) LX M [g_r 30, g_i (p : Int), g_i (x : Int)] LX M (some (g_i (if M 10 x = 1 ∧ M 11 x = h ∧ (List.range w).all rf = true then 1 else 0))) := by
  refine con_of (av := [g_r 30, g_i (p : Int), g_i (x : Int)]) (ls0 := [some (g_r 30), some (g_i (p : Int)), some (g_i (x : Int)), none]) (by decide) rfl (Nat.le_of_ble_eq_true rfl) (g_hls (av := [g_r 30, g_i (p : Int), g_i (x : Int)]) (k := 1)) (fun _ h9 => List.mem_cons_of_mem _ h9) ?_
  refine ev_aload_n (i := 0) d_En_isSame_0 rfl rfl rfl ?_
  refine ev_getR d_En_isSame_1 rfl lk_En_15 lx_30 rfl ?_
  refine ev_iload_n (i := 1) d_En_isSame_4 rfl rfl rfl ?_
  refine ev_callV (As := [g_i (p : Int)]) d_En_isSame_5 rfl cl_En_70 (c_Te_isVariable (d + 0) M p (by omega)) (g_hR (by decide)) g_h0 lx_9 rfl rfl (Nat.le_of_ble_eq_true rfl) rfl rfl ?_
  refine ev_if_ne_f (tgt := 22) d_En_isSame_8 (by decide) rfl (by rw [if_neg (by omega)]) ?_
  refine ev_aload_n (i := 0) d_En_isSame_11 rfl rfl rfl ?_
  refine ev_getR d_En_isSame_12 rfl lk_En_15 lx_30 rfl ?_
  refine ev_iload_n (i := 2) d_En_isSame_15 rfl rfl rfl ?_
  refine ev_callV (As := [g_i (x : Int)]) d_En_isSame_16 rfl cl_En_70 (c_Te_isVariable (d + 0) M x (by omega)) (g_hR (by decide)) g_h0 lx_9 rfl rfl (Nat.le_of_ble_eq_true rfl) rfl rfl ?_
  refine ev_beq (tgt := 69) d_En_isSame_19 (by decide) rfl (fun cx => ?_) (fun cx => ?_)
  · refine ev_aload_n (i := 0) d_En_isSame_69 rfl rfl rfl ?_
    refine ev_getR d_En_isSame_70 rfl lk_En_15 lx_30 rfl ?_
    refine ev_iload_n (i := 2) d_En_isSame_73 rfl rfl rfl ?_
    refine ev_callV (As := [g_i (x : Int)]) d_En_isSame_74 rfl cl_En_76 (c_Te_isMade (d + 0) M x (by omega)) (g_hR (by decide)) g_h0 lx_9 rfl rfl (Nat.le_of_ble_eq_true rfl) rfl rfl ?_
    refine ev_beq (tgt := 99) d_En_isSame_77 (by decide) rfl (fun c1 => ?_) (fun c1 => ?_)
    · refine ev_iconst d_En_isSame_99 rfl ⟨by decide, by decide⟩ ?_
      exact ev_retI d_En_isSame_100 (by first | exact (if_neg (fun h9 => c2 h9.2.1.symm)).symm | exact (if_neg (fun h9 => c1 h9.1)).symm | exact (if_neg (fun h9 => by have := h9.1; omega)).symm) rfl (Or.inr ⟨rfl, by omega⟩)
    · refine ev_aload_n (i := 0) d_En_isSame_80 rfl rfl rfl ?_
      refine ev_getR d_En_isSame_81 rfl lk_En_15 lx_30 rfl ?_
      refine ev_iload_n (i := 1) d_En_isSame_84 rfl rfl rfl ?_
      refine ev_callV (As := [g_i (p : Int)]) d_En_isSame_85 rfl cl_En_73 ((c_Te_head (d + 0) M p (by omega)).eqr (hh)) (g_hR (by decide)) g_h0 lx_9 rfl rfl (Nat.le_of_ble_eq_true rfl) rfl rfl ?_
      refine ev_aload_n (i := 0) d_En_isSame_88 rfl rfl rfl ?_
      refine ev_getR d_En_isSame_89 rfl lk_En_15 lx_30 rfl ?_
      refine ev_iload_n (i := 2) d_En_isSame_92 rfl rfl rfl ?_
      refine ev_callV (As := [g_i (x : Int)]) d_En_isSame_93 rfl cl_En_73 (c_Te_head (d + 0) M x (by omega)) (g_hR (by decide)) g_h0 lx_9 rfl rfl (Nat.le_of_ble_eq_true rfl) rfl rfl ?_
      refine ev_icmp_eq (tgt := 101) d_En_isSame_96 (by decide) rfl (fun c2 => ?_) (fun c2 => ?_)
      · refine ev_iconst d_En_isSame_101 rfl ⟨by decide, by decide⟩ ?_
        refine ev_istore_n (i := 3) d_En_isSame_102 rfl rfl (by decide) rfl ?_
        refine ev_wl (fun n ls1 => ∃ i : Nat, i ≤ w ∧ n = w - i ∧ ls1 = [some (g_r 30), some (g_i (p : Int)), some (g_i (x : Int)), some (g_i (i : Int))] ∧ (List.range i).all rf = true) ?_ (n := w) (⟨0, Nat.zero_le _, rfl, rfl, rfl⟩)
        intro n ls1 hPi ih
        obtain ⟨i, hi, hni, rfl, hvi⟩ := hPi
        refine ev_iload_n (i := 3) d_En_isSame_103 rfl rfl rfl ?_
        refine ev_aload_n (i := 0) d_En_isSame_104 rfl rfl rfl ?_
        refine ev_getR d_En_isSame_105 rfl lk_En_15 lx_30 rfl ?_
        refine ev_iload_n (i := 1) d_En_isSame_108 rfl rfl rfl ?_
        refine ev_callV (As := [g_i (p : Int)]) d_En_isSame_109 rfl cl_En_56 ((c_Te_width (d + 0) M p (by omega)).eqr (hw)) (g_hR (by decide)) g_h0 lx_9 rfl rfl (Nat.le_of_ble_eq_true rfl) rfl rfl ?_
        refine ev_icmp_ge (tgt := 148) d_En_isSame_112 (by decide) rfl (fun hz => ?_) (fun hz => ?_)
        · refine ev_iconst d_En_isSame_148 rfl ⟨by decide, by decide⟩ ?_
          exact ev_retI d_En_isSame_149 (by have e : i = w := (by omega); subst e; rw [if_pos ⟨c1, c2.symm, hvi⟩]) rfl (Or.inr ⟨rfl, by omega⟩)
        · refine ev_aload_n (i := 0) d_En_isSame_115 rfl rfl rfl ?_
          refine ev_aload_n (i := 0) d_En_isSame_116 rfl rfl rfl ?_
          refine ev_getR d_En_isSame_117 rfl lk_En_15 lx_30 rfl ?_
          refine ev_iload_n (i := 1) d_En_isSame_120 rfl rfl rfl ?_
          refine ev_iload_n (i := 3) d_En_isSame_121 rfl rfl rfl ?_
          refine ev_callV (As := [g_i (p : Int), g_i (i : Int)]) d_En_isSame_122 rfl cl_En_59 ((c_Te_part (d + 0) M p i (by omega) (by omega)).eqr (hp i (by omega))) (g_hR (by decide)) g_h0 lx_9 rfl rfl (Nat.le_of_ble_eq_true rfl) rfl rfl ?_
          refine ev_aload_n (i := 0) d_En_isSame_125 rfl rfl rfl ?_
          refine ev_getR d_En_isSame_126 rfl lk_En_15 lx_30 rfl ?_
          refine ev_iload_n (i := 2) d_En_isSame_129 rfl rfl rfl ?_
          refine ev_iload_n (i := 3) d_En_isSame_130 rfl rfl rfl ?_
          refine ev_callV (As := [g_i (x : Int), g_i (i : Int)]) d_En_isSame_131 rfl cl_En_59 ((c_Te_part (d + 0) M x i (by omega) (by omega)).eqr (hx c1 c2.symm i (by omega))) (g_hR (by decide)) g_h0 lx_9 rfl rfl (Nat.le_of_ble_eq_true rfl) rfl rfl ?_
          refine ev_callV (As := [g_i (pf i : Int), g_i (xf i : Int)]) d_En_isSame_134 rfl cl_En_63 (ih0 c1 c2.symm i (by omega)) (g_hR (by decide)) g_h0 lx_30 rfl rfl (Nat.le_of_ble_eq_true rfl) rfl rfl ?_
          refine ev_bne (tgt := 142) d_En_isSame_137 (by decide) rfl (fun c3 => ?_) (fun c3 => ?_)
          · refine ev_iinc (z := (i : Int) + 1) d_En_isSame_142 rfl rfl (by decide) (g_w_id (by unfold g_rg; omega)) rfl ?_
            refine ev_goto (tgt := 103) d_En_isSame_145 (by decide) ?_
            exact ev_le (ih (w - (i + 1)) [some (g_r 30), some (g_i (p : Int)), some (g_i (x : Int)), some (g_i ((i + 1 : Nat) : Int))] (by omega) ⟨i + 1, by omega, rfl, rfl, z_all_y hvi c3⟩) rfl ⟨rfl, rfl, rfl, rfl, trivial⟩
          · refine ev_iconst d_En_isSame_140 rfl ⟨by decide, by decide⟩ ?_
            exact ev_retI d_En_isSame_141 (by rw [if_neg (fun h9 => z_all_n (show i < w by omega) c3 h9.2.2)]) rfl (Or.inr ⟨rfl, by omega⟩)
      · refine ev_iconst d_En_isSame_99 rfl ⟨by decide, by decide⟩ ?_
        exact ev_retI d_En_isSame_100 (by first | exact (if_neg (fun h9 => c2 h9.2.1.symm)).symm | exact (if_neg (fun h9 => c1 h9.1)).symm | exact (if_neg (fun h9 => by have := h9.1; omega)).symm) rfl (Or.inr ⟨rfl, by omega⟩)
  · refine ev_aload_n (i := 0) d_En_isSame_22 rfl rfl rfl ?_
    refine ev_getR d_En_isSame_23 rfl lk_En_15 lx_30 rfl ?_
    refine ev_iload_n (i := 1) d_En_isSame_26 rfl rfl rfl ?_
    refine ev_callV (As := [g_i (p : Int)]) d_En_isSame_27 rfl cl_En_70 (c_Te_isVariable (d + 0) M p (by omega)) (g_hR (by decide)) g_h0 lx_9 rfl rfl (Nat.le_of_ble_eq_true rfl) rfl rfl ?_
    refine ev_if_eq_t (tgt := 67) d_En_isSame_30 (by decide) (by rw [if_neg (by omega)]) ?_
    refine ev_iconst d_En_isSame_67 rfl ⟨by decide, by decide⟩ ?_
    exact ev_retI d_En_isSame_68 (by first | exact (if_neg (fun h9 => c2 h9.2.1.symm)).symm | exact (if_neg (fun h9 => c1 h9.1)).symm | exact (if_neg (fun h9 => by have := h9.1; omega)).symm) rfl (Or.inr ⟨rfl, by omega⟩)
theorem z_any_s (f : Nat → Bool) (i : Nat) : (List.range (i + 1)).any f = ((List.range i).any f || f i) := by
  rw [List.range_succ, List.any_append]
  simp
theorem z_any_n {f : Nat → Bool} {i : Nat} (h : (List.range i).any f = false) (h2 : f i = false) : (List.range (i + 1)).any f = false := by
  rw [z_any_s, h, h2]
  rfl
theorem z_any_y {f : Nat → Bool} {i w : Nat} (hi : i < w) (h : f i = true) : (List.range w).any f = true :=
  List.any_eq_true.mpr ⟨i, List.mem_range.mpr hi, h⟩
theorem c_En_isInside_s (d : Nat) (M : g_M) (p x w : Nat) (pf : Nat → Nat) (ra rb : Nat → Bool) (hp1 : p < 100) (hw : M 12 p = w) (hw3 : w ≤ 3) (hp : ∀ k, k < w → M 13 (3 * p + k) = pf k) (ihs : ∀ k, k < w → Con y_En_isSame w_En_isSame (g_rm (d + 0)) LX M [g_r 30, g_i (pf k : Int), g_i (x : Int)] LX M (some (g_i (if ra k = true then 1 else 0)))) (ih0 : ∀ k, k < w → Con y_En_isInside w_En_isInside (g_rm (d + 0)) LX M [g_r 30, g_i (pf k : Int), g_i (x : Int)] LX M (some (g_i (if rb k = true then 1 else 0)))) : Con y_En_isInside w_En_isInside (g_rm (d + 1)) LX M [g_r 30, g_i (p : Int), g_i (x : Int)] LX M (some (g_i (if (List.range w).any (fun k => ra k || rb k) = true then 1 else 0))) := by
  refine con_of (av := [g_r 30, g_i (p : Int), g_i (x : Int)]) (ls0 := [some (g_r 30), some (g_i (p : Int)), some (g_i (x : Int)), none, none]) (by decide) rfl (Nat.le_of_ble_eq_true rfl) (g_hls (av := [g_r 30, g_i (p : Int), g_i (x : Int)]) (k := 2)) (fun _ h9 => List.mem_cons_of_mem _ h9) ?_
  refine ev_iconst d_En_isInside_0 rfl ⟨by decide, by decide⟩ ?_
  refine ev_istore_n (i := 3) d_En_isInside_1 rfl rfl (by decide) rfl ?_
  refine ev_wl (fun n ls1 => ∃ i : Nat, i ≤ w ∧ n = w - i ∧ ls1 = [some (g_r 30), some (g_i (p : Int)), some (g_i (x : Int)), some (g_i (i : Int)), none] ∧ (List.range i).any (fun k => ra k || rb k) = false) ?_ (n := w) (⟨0, Nat.zero_le _, rfl, rfl, rfl⟩)
  intro n ls1 hPi ih
  obtain ⟨i, hi, hni, rfl, hvi⟩ := hPi
  refine ev_iload_n (i := 3) d_En_isInside_2 rfl rfl rfl ?_
  refine ev_aload_n (i := 0) d_En_isInside_3 rfl rfl rfl ?_
  refine ev_getR d_En_isInside_4 rfl lk_En_15 lx_30 rfl ?_
  refine ev_iload_n (i := 1) d_En_isInside_7 rfl rfl rfl ?_
  refine ev_callV (As := [g_i (p : Int)]) d_En_isInside_8 rfl cl_En_56 ((c_Te_width (d + 0) M p (by omega)).eqr (hw)) (g_hR (by decide)) g_h0 lx_9 rfl rfl (Nat.le_of_ble_eq_true rfl) rfl rfl ?_
  refine ev_icmp_ge (tgt := 53) d_En_isInside_11 (by decide) rfl (fun hz => ?_) (fun hz => ?_)
  · refine ev_iconst d_En_isInside_53 rfl ⟨by decide, by decide⟩ ?_
    exact ev_retI d_En_isInside_54 (by have e : i = w := (by omega); subst e; rw [if_neg (by rw [hvi]; decide)]) rfl (Or.inr ⟨rfl, by omega⟩)
  · refine ev_aload_n (i := 0) d_En_isInside_14 rfl rfl rfl ?_
    refine ev_getR d_En_isInside_15 rfl lk_En_15 lx_30 rfl ?_
    refine ev_iload_n (i := 1) d_En_isInside_18 rfl rfl rfl ?_
    refine ev_iload_n (i := 3) d_En_isInside_19 rfl rfl rfl ?_
    refine ev_callV (As := [g_i (p : Int), g_i (i : Int)]) d_En_isInside_20 rfl cl_En_59 ((c_Te_part (d + 0) M p i (by omega) (by omega)).eqr (hp i (by omega))) (g_hR (by decide)) g_h0 lx_9 rfl rfl (Nat.le_of_ble_eq_true rfl) rfl rfl ?_
    refine ev_istore (i := 4) d_En_isInside_23 rfl (by decide) rfl ?_
    refine ev_aload_n (i := 0) d_En_isInside_25 rfl rfl rfl ?_
    refine ev_iload (i := 4) d_En_isInside_26 rfl rfl ?_
    refine ev_iload_n (i := 2) d_En_isInside_28 rfl rfl rfl ?_
    refine ev_callV (As := [g_i (pf i : Int), g_i (x : Int)]) d_En_isInside_29 rfl cl_En_63 (ihs i (by omega)) (g_hR (by decide)) g_h0 lx_30 rfl rfl (Nat.le_of_ble_eq_true rfl) rfl rfl ?_
    refine ev_bne (tgt := 45) d_En_isInside_32 (by decide) rfl (fun c1 => ?_) (fun c1 => ?_)
    · refine ev_iconst d_En_isInside_45 rfl ⟨by decide, by decide⟩ ?_
      exact ev_retI d_En_isInside_46 (by rw [if_pos (z_any_y (show i < w by omega) (by first | (show (ra i || rb i) = true; rw [c1]; rfl) | (show (ra i || rb i) = true; rw [c2, Bool.or_true])))]) rfl (Or.inr ⟨rfl, by omega⟩)
    · refine ev_aload_n (i := 0) d_En_isInside_35 rfl rfl rfl ?_
      refine ev_iload (i := 4) d_En_isInside_36 rfl rfl ?_
      refine ev_iload_n (i := 2) d_En_isInside_38 rfl rfl rfl ?_
      refine ev_callV (As := [g_i (pf i : Int), g_i (x : Int)]) d_En_isInside_39 rfl cl_En_67 (ih0 i (by omega)) (g_hR (by decide)) g_h0 lx_30 rfl rfl (Nat.le_of_ble_eq_true rfl) rfl rfl ?_
      refine ev_beq (tgt := 47) d_En_isInside_42 (by decide) rfl (fun c2 => ?_) (fun c2 => ?_)
      · refine ev_iinc (z := (i : Int) + 1) d_En_isInside_47 rfl rfl (by decide) (g_w_id (by unfold g_rg; omega)) rfl ?_
        refine ev_goto (tgt := 2) d_En_isInside_50 (by decide) ?_
        exact ev_le (ih (w - (i + 1)) [some (g_r 30), some (g_i (p : Int)), some (g_i (x : Int)), some (g_i ((i + 1 : Nat) : Int)), none] (by omega) ⟨i + 1, by omega, rfl, rfl, z_any_n hvi (by show (ra i || rb i) = false; rw [Bool.eq_false_iff.mpr c1, Bool.eq_false_iff.mpr c2]; rfl)⟩) rfl ⟨rfl, rfl, rfl, rfl, trivial⟩
      · refine ev_iconst d_En_isInside_45 rfl ⟨by decide, by decide⟩ ?_
        exact ev_retI d_En_isInside_46 (by rw [if_pos (z_any_y (show i < w by omega) (by first | (show (ra i || rb i) = true; rw [c1]; rfl) | (show (ra i || rb i) = true; rw [c2, Bool.or_true])))]) rfl (Or.inr ⟨rfl, by omega⟩)
theorem c_En_arcBetween_s (d : Nat) (M : g_M) (p x : Nat) (sa sb : Bool) (hs : Con y_En_isSame w_En_isSame (g_rm (d + 0)) LX M [g_r 30, g_i (p : Int), g_i (x : Int)] LX M (some (g_i (if sa = true then 1 else 0)))) (hi : Con y_En_isInside w_En_isInside (g_rm (d + 0)) LX M [g_r 30, g_i (p : Int), g_i (x : Int)] LX M (some (g_i (if sb = true then 1 else 0)))) : Con y_En_arcBetween w_En_arcBetween (g_rm (d + 1)) LX M [g_r 30, g_i (p : Int), g_i (x : Int)] LX M (some (g_i (if sa = true then 1 else if sb = true then 2 else 0))) := by
  refine con_of (av := [g_r 30, g_i (p : Int), g_i (x : Int)]) (ls0 := [some (g_r 30), some (g_i (p : Int)), some (g_i (x : Int))]) (by decide) rfl (Nat.le_of_ble_eq_true rfl) (g_hls (av := [g_r 30, g_i (p : Int), g_i (x : Int)]) (k := 0)) (fun _ h9 => List.mem_cons_of_mem _ h9) ?_
  refine ev_aload_n (i := 0) d_En_arcBetween_0 rfl rfl rfl ?_
  refine ev_iload_n (i := 1) d_En_arcBetween_1 rfl rfl rfl ?_
  refine ev_iload_n (i := 2) d_En_arcBetween_2 rfl rfl rfl ?_
  refine ev_callV (As := [g_i (p : Int), g_i (x : Int)]) d_En_arcBetween_3 rfl cl_En_63 (hs) (g_hR (by decide)) g_h0 lx_30 rfl rfl (Nat.le_of_ble_eq_true rfl) rfl rfl ?_
  refine ev_beq (tgt := 11) d_En_arcBetween_6 (by decide) rfl (fun c1 => ?_) (fun c1 => ?_)
  · refine ev_aload_n (i := 0) d_En_arcBetween_11 rfl rfl rfl ?_
    refine ev_iload_n (i := 1) d_En_arcBetween_12 rfl rfl rfl ?_
    refine ev_iload_n (i := 2) d_En_arcBetween_13 rfl rfl rfl ?_
    refine ev_callV (As := [g_i (p : Int), g_i (x : Int)]) d_En_arcBetween_14 rfl cl_En_67 (hi) (g_hR (by decide)) g_h0 lx_30 rfl rfl (Nat.le_of_ble_eq_true rfl) rfl rfl ?_
    refine ev_beq (tgt := 24) d_En_arcBetween_17 (by decide) rfl (fun c2 => ?_) (fun c2 => ?_)
    · refine ev_iconst d_En_arcBetween_24 rfl ⟨by decide, by decide⟩ ?_
      exact ev_retI d_En_arcBetween_25 (by first | rw [if_pos c1] | rw [if_neg c1, if_pos c2] | rw [if_neg c1, if_neg c2]) rfl (Or.inl rfl)
    · refine ev_iconst d_En_arcBetween_20 rfl ⟨by decide, by decide⟩ ?_
      refine ev_goto (tgt := 25) d_En_arcBetween_21 (by decide) ?_
      exact ev_retI d_En_arcBetween_25 (by first | rw [if_pos c1] | rw [if_neg c1, if_pos c2] | rw [if_neg c1, if_neg c2]) rfl (Or.inl rfl)
  · refine ev_iconst d_En_arcBetween_9 rfl ⟨by decide, by decide⟩ ?_
    exact ev_retI d_En_arcBetween_10 (by first | rw [if_pos c1] | rw [if_neg c1, if_pos c2] | rw [if_neg c1, if_neg c2]) rfl (Or.inl rfl)
