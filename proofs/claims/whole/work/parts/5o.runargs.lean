theorem c_Fu_areArguments (d : Nat) (M : g_M) (f w : Nat) (x y z : Int) (hP : r_P M) (hf6 : f < 6) (hw7 : M 7 f = w) (hw3 : w ≤ 3) (hpl : ∀ i : Nat, i < w → M 8 (3 * f + i) = M 51 (3 * f + i)) : ConR y_Fu_areArguments w_Fu_areArguments (g_rm (d + 104)) LX M [g_r 0, g_i (f : Int), g_i x, g_i y, g_i z] LX (fun M2 v2 => M2 = M ∧ ∃ r : Int, v2 = some (g_i r) ∧ (r = 0 ∨ r = 1) ∧ (r = 1 ↔ ∀ q : Nat, q < w → z_val M (j_pk x y z q) (M 51 (3 * f + q)))) := by
  refine con_ofR (av := [g_r 0, g_i (f : Int), g_i x, g_i y, g_i z]) (ls0 := [some (g_r 0), some (g_i (f : Int)), some (g_i x), some (g_i y), some (g_i z), none]) (by decide) rfl (Nat.le_of_ble_eq_true rfl) (g_hls (av := [g_r 0, g_i (f : Int), g_i x, g_i y, g_i z]) (k := 1)) (fun _ h9 => List.mem_cons_of_mem _ h9) ?_
  refine ev_iconst d_Fu_areArguments_0 rfl ⟨by decide, by decide⟩ ?_
  refine ev_istore (i := 5) d_Fu_areArguments_1 rfl (by decide) rfl ?_
  refine ev_wl (fun n ls1 => ∃ i : Nat, i ≤ w ∧ n = w - i ∧ ls1 = [some (g_r 0), some (g_i (f : Int)), some (g_i x), some (g_i y), some (g_i z), some (g_i (i : Int))] ∧ ∀ q : Nat, q < i → z_val M (j_pk x y z q) (M 51 (3 * f + q))) ?_ (n := w) (⟨0, Nat.zero_le _, rfl, rfl, fun q hq => by omega⟩)
  intro n ls1 hP0 ih
  obtain ⟨i, hi, hn, rfl, hv⟩ := hP0
  refine ev_iload (i := 5) d_Fu_areArguments_3 rfl rfl ?_
  refine ev_aload_n (i := 0) d_Fu_areArguments_5 rfl rfl rfl ?_
  refine ev_getR d_Fu_areArguments_6 rfl lk_Fu_18 lx_0 rfl ?_
  refine ev_iload_n (i := 1) d_Fu_areArguments_9 rfl rfl rfl ?_
  refine ev_callV (As := [g_i (f : Int)]) d_Fu_areArguments_10 rfl cl_Fu_112 ((c_Sg_width_f (d + 103) M f hf6).eqr (hw7)) (g_hR (by decide)) g_h0 lx_5 rfl rfl (Nat.le_of_ble_eq_true rfl) rfl rfl ?_
  refine ev_icmp_ge (tgt := 50) d_Fu_areArguments_13 (by decide) rfl (fun hz => ?_) (fun hz => ?_)
  · refine ev_iconst d_Fu_areArguments_50 rfl ⟨by decide, by decide⟩ ?_
    exact ev_retIR d_Fu_areArguments_51 (⟨rfl, 1, rfl, Or.inr rfl, ⟨fun _ q hq => hv q (by omega), fun _ => rfl⟩⟩) (Or.inr ⟨rfl, by omega⟩)
  · obtain ⟨r1, hr1, hr2, hr3⟩ := c_Fu_isValue_a d hP (j_pk x y z i) (M 51 (3 * f + i))
    refine ev_aload_n (i := 0) d_Fu_areArguments_16 rfl rfl rfl ?_
    refine ev_iload (i := 5) d_Fu_areArguments_17 rfl rfl ?_
    refine ev_iload_n (i := 2) d_Fu_areArguments_19 rfl rfl rfl ?_
    refine ev_iload_n (i := 3) d_Fu_areArguments_20 rfl rfl rfl ?_
    refine ev_iload (i := 4) d_Fu_areArguments_21 rfl rfl ?_
    refine ev_callS (As := [g_i (i : Int), g_i x, g_i y, g_i z]) d_Fu_areArguments_23 rfl cl_Fu_225 (c_Fu_pickJ (d + 103) M i x y z) (g_hR (by decide)) g_h0 rfl rfl (Nat.le_of_ble_eq_true rfl) rfl rfl ?_
    refine ev_aload_n (i := 0) d_Fu_areArguments_26 rfl rfl rfl ?_
    refine ev_getR d_Fu_areArguments_27 rfl lk_Fu_18 lx_0 rfl ?_
    refine ev_iload_n (i := 1) d_Fu_areArguments_30 rfl rfl rfl ?_
    refine ev_iload (i := 5) d_Fu_areArguments_31 rfl rfl ?_
    refine ev_callV (As := [g_i (f : Int), g_i (i : Int)]) d_Fu_areArguments_33 rfl cl_Fu_228 ((c_Sg_placeType_f (d + 103) M f i hf6 (by omega)).eqr (hpl i (by omega))) (g_hR (by decide)) g_h0 lx_5 rfl rfl (Nat.le_of_ble_eq_true rfl) rfl rfl ?_
    refine ev_callV (As := [g_i (j_pk x y z i), g_i (M 51 (3 * f + i))]) d_Fu_areArguments_36 rfl cl_Fu_231 (hr3) (g_hR (by decide)) g_h0 lx_0 rfl rfl (Nat.le_of_ble_eq_true rfl) rfl rfl ?_
    refine ev_if_ne (tgt := 44) d_Fu_areArguments_39 (by decide) rfl (fun c2 => ?_) (fun c2 => ?_)
    · refine ev_iinc (z := (i : Int) + 1) d_Fu_areArguments_44 rfl rfl (by decide) (g_w_id (by unfold g_rg; omega)) rfl ?_
      refine ev_goto (tgt := 3) d_Fu_areArguments_47 (by decide) ?_
      exact ev_le (ih (w - (i + 1)) [some (g_r 0), some (g_i (f : Int)), some (g_i x), some (g_i y), some (g_i z), some (g_i ((i + 1 : Nat) : Int))] (by omega) ⟨i + 1, by omega, rfl, rfl, fun q hq => by by_cases hqi : q = i; exact hqi ▸ hr2.mp (by omega); exact hv q (by omega)⟩) rfl ⟨rfl, rfl, rfl, rfl, rfl, rfl, trivial⟩
    · refine ev_iconst d_Fu_areArguments_42 rfl ⟨by decide, by decide⟩ ?_
      exact ev_retIR d_Fu_areArguments_43 (⟨rfl, 0, rfl, Or.inl rfl, ⟨fun h9 => absurd h9 (by decide), fun h9 => absurd (hr2.mpr (h9 i (by omega))) (by omega)⟩⟩) (Or.inr ⟨rfl, by omega⟩)
theorem c_Fu_run_x1 (d : Nat) (M : g_M) (f x y z : Int) (hv : M 0 8 = 0) (hf : ¬ (0 ≤ f ∧ f < M 5 4)) : CoX y_Fu_run w_Fu_run (g_ra (d + 6) 1 6) LX M [g_r 0, g_i f, g_i x, g_i y, g_i z] M x_E1 := by
  refine conX_of (av := [g_r 0, g_i f, g_i x, g_i y, g_i z]) (ls0 := [some (g_r 0), some (g_i f), some (g_i x), some (g_i y), some (g_i z)]) (by decide) rfl (Nat.le_of_ble_eq_true rfl) (g_hls (av := [g_r 0, g_i f, g_i x, g_i y, g_i z]) (k := 0)) (fun _ h9 => List.mem_cons_of_mem _ h9) rfl ⟨by show 6 ≤ d + 6; omega, by show 90 ≤ 40 * (d + 6); omega⟩ ⟨Nat.le_refl _, Nat.le_refl _⟩ ?_
  refine ev_aload_n (i := 0) d_Fu_run_0 rfl rfl rfl ?_
  refine ev_getI (z := 0) d_Fu_run_1 rfl lk_Fu_69 lx_0 rfl (hv) ?_
  refine ev_if_eq_t (tgt := 17) d_Fu_run_4 (by decide) (by decide) ?_
  refine ev_aload_n (i := 0) d_Fu_run_17 rfl rfl rfl ?_
  refine ev_getR d_Fu_run_18 rfl lk_Fu_18 lx_0 rfl ?_
  refine ev_iload_n (i := 1) d_Fu_run_21 rfl rfl rfl ?_
  refine ev_callV (As := [g_i f]) d_Fu_run_22 rfl cl_Fu_108 (c_Sg_has_f (d + 5) M f) (g_hR (by decide)) ⟨Nat.zero_le _, Nat.zero_le _⟩ lx_5 rfl rfl (Nat.le_of_ble_eq_true rfl) rfl rfl ?_
  refine ev_if_eq_t (tgt := 40) d_Fu_run_25 (by decide) (by rw [if_neg hf]) ?_
  exact ev_done ⟨rfl, rfl, rfl, rfl, rfl, 77, 186, 81, _, x_ex1, List.mem_of_getElem? (i := 13) rfl, d_Fu_run_40, d_Fu_run_43, d_Fu_run_44, d_Fu_run_46, d_Fu_run_49⟩
theorem c_Fu_run_x2 (d : Nat) (M : g_M) (f w : Nat) (x y z : Int) (hv : M 0 8 = 0) (hP : r_P M) (hf6 : f < 6) (hf : (f : Int) < M 5 4) (hw7 : M 7 f = w) (hw3 : w ≤ 3) (hpl : ∀ i : Nat, i < w → M 8 (3 * f + i) = M 51 (3 * f + i)) (hno : ¬ ∀ q : Nat, q < w → z_val M (j_pk x y z q) (M 51 (3 * f + q))) : CoX y_Fu_run w_Fu_run (g_ra (d + 105) 1 6) LX M [g_r 0, g_i (f : Int), g_i x, g_i y, g_i z] M x_E1 := by
  refine conX_of (av := [g_r 0, g_i (f : Int), g_i x, g_i y, g_i z]) (ls0 := [some (g_r 0), some (g_i (f : Int)), some (g_i x), some (g_i y), some (g_i z)]) (by decide) rfl (Nat.le_of_ble_eq_true rfl) (g_hls (av := [g_r 0, g_i (f : Int), g_i x, g_i y, g_i z]) (k := 0)) (fun _ h9 => List.mem_cons_of_mem _ h9) rfl ⟨by show 6 ≤ d + 105; omega, by show 90 ≤ 40 * (d + 105); omega⟩ ⟨Nat.le_refl _, Nat.le_refl _⟩ ?_
  refine ev_aload_n (i := 0) d_Fu_run_0 rfl rfl rfl ?_
  refine ev_getI (z := 0) d_Fu_run_1 rfl lk_Fu_69 lx_0 rfl (hv) ?_
  refine ev_if_eq_t (tgt := 17) d_Fu_run_4 (by decide) (by decide) ?_
  refine ev_aload_n (i := 0) d_Fu_run_17 rfl rfl rfl ?_
  refine ev_getR d_Fu_run_18 rfl lk_Fu_18 lx_0 rfl ?_
  refine ev_iload_n (i := 1) d_Fu_run_21 rfl rfl rfl ?_
  refine ev_callV (As := [g_i (f : Int)]) d_Fu_run_22 rfl cl_Fu_108 (c_Sg_has_f (d + 104) M (f : Int)) (g_hR (by decide)) ⟨Nat.zero_le _, Nat.zero_le _⟩ lx_5 rfl rfl (Nat.le_of_ble_eq_true rfl) rfl rfl ?_
  refine ev_if_eq_f (tgt := 40) d_Fu_run_25 (by decide) rfl (by rw [if_pos ⟨by omega, hf⟩]; decide) ?_
  refine ev_aload_n (i := 0) d_Fu_run_28 rfl rfl rfl ?_
  refine ev_iload_n (i := 1) d_Fu_run_29 rfl rfl rfl ?_
  refine ev_iload_n (i := 2) d_Fu_run_30 rfl rfl rfl ?_
  refine ev_iload_n (i := 3) d_Fu_run_31 rfl rfl rfl ?_
  refine ev_iload (i := 4) d_Fu_run_32 rfl rfl ?_
  refine ev_callVR (As := [g_i (f : Int), g_i x, g_i y, g_i z]) d_Fu_run_34 rfl cl_Fu_183 (c_Fu_areArguments (d + 0) M f w x y z hP hf6 hw7 hw3 hpl) (g_hR (by decide)) ⟨Nat.zero_le _, Nat.zero_le _⟩ lx_0 rfl rfl (Nat.le_of_ble_eq_true rfl) rfl rfl (fun M9 v9 g9 => ?_)
  obtain ⟨e9, r9, rfl, hr9, hr8⟩ := g9
  rw [e9]
  refine ev_if_ne_f (tgt := 50) d_Fu_run_37 (by decide) rfl (by rcases hr9 with h9 | h9; exact h9; exact absurd (hr8.mp h9) hno) ?_
  exact ev_done ⟨rfl, rfl, rfl, rfl, rfl, 77, 186, 81, _, x_ex1, List.mem_of_getElem? (i := 13) rfl, d_Fu_run_40, d_Fu_run_43, d_Fu_run_44, d_Fu_run_46, d_Fu_run_49⟩
