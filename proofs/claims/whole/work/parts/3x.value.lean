theorem q_tf_q {M M1 : g_M} (h : q_eq M M1) : ∀ f x y, q_tf M1 f x y = q_tf M f x y := by
  have e (k : Nat) (h1 : k ≠ 62) (h2 : k ≠ 63) (h3 : k ≠ 45) : M1 k = M k := h.fn h1 h2 h3
  intro f
  induction f with
  | zero => intro x y; rfl
  | succ f ih =>
    intro x y
    simp only [q_tf, q_hy, q_py, q_w_eq h, ih, e 52 (by decide) (by decide) (by decide), e 65 (by decide) (by decide) (by decide), e 46 (by decide) (by decide) (by decide), e 49 (by decide) (by decide) (by decide), e 48 (by decide) (by decide) (by decide), e 51 (by decide) (by decide) (by decide), e 53 (by decide) (by decide) (by decide)]
theorem q_t_q {M M1 : g_M} (h : q_eq M M1) (x : Nat) (y : Int) : q_t M1 x y = q_t M x y := q_tf_q h (x + 1) x y
theorem q_T_0 {M : g_M} (hT : q_T M) (z : Int) : q_T (g_up M 45 44 z) := hT
theorem c_Mo_isValue (d : Nat) (M : g_M) (t : Nat) (y : Int) (hT : q_T M) (ht : (t : Int) < M 45 8) (hy : 0 ≤ y ∧ y < 3) : ConR y_Mo_isValue w_Mo_isValue (g_rm (d + 3)) LX M [g_r 45, g_i (t : Int), g_i y] LX (fun M2 v2 => v2 = some (g_i (if (q_pl (g_up M 45 44 0) t).all (fun x => decide (8 ≤ (g_up M 45 44 0) 52 x ∧ (g_up M 45 44 0) 52 x < 16)) = true ∧ q_t (g_up M 45 44 0) t y = true then 1 else 0)) ∧ q_eq (g_up M 45 44 0) M2) := by
  refine con_ofR (av := [g_r 45, g_i (t : Int), g_i y]) (ls0 := [some (g_r 45), some (g_i (t : Int)), some (g_i y)]) (by decide) rfl (Nat.le_of_ble_eq_true rfl) (g_hls (av := [g_r 45, g_i (t : Int), g_i y]) (k := 0)) (fun _ h9 => List.mem_cons_of_mem _ h9) ?_
  refine ev_aload_n (i := 0) d_Mo_isValue_0 rfl rfl rfl ?_
  refine ev_iconst d_Mo_isValue_1 rfl ⟨by decide, by decide⟩ ?_
  refine ev_putI d_Mo_isValue_2 rfl lk_Mo_104 fp_Mo_44 (Or.inl rfl) lx_45 rfl ?_
  refine ev_aload_n (i := 0) d_Mo_isValue_5 rfl rfl rfl ?_
  refine ev_iload_n (i := 1) d_Mo_isValue_6 rfl rfl rfl ?_
  refine ev_callV (As := [g_i (t : Int)]) d_Mo_isValue_7 rfl cl_Mo_133 (c_Mo_isTerm (d + 2) (g_up M 45 44 0) (t : Int)) (g_hR (by decide)) g_h0 lx_45 rfl rfl (Nat.le_of_ble_eq_true rfl) rfl rfl ?_
  refine ev_if_eq_f (tgt := 43) d_Mo_isValue_10 (by decide) rfl (by rw [if_pos ⟨by omega, ht⟩]; decide) ?_
  refine ev_iload_n (i := 2) d_Mo_isValue_13 rfl rfl rfl ?_
  refine ev_iconst d_Mo_isValue_14 rfl ⟨by decide, by decide⟩ ?_
  refine ev_callS (As := [g_i y, g_i 2]) d_Mo_isValue_15 rfl cl_Mo_108 (c_Mo_outside (d + 2) (g_up M 45 44 0) y 2) (g_hR (by decide)) g_h0 rfl rfl (Nat.le_of_ble_eq_true rfl) rfl rfl ?_
  refine ev_if_ne_f (tgt := 43) d_Mo_isValue_18 (by decide) rfl (by rw [if_neg (by omega)]) ?_
  refine ev_aload_n (i := 0) d_Mo_isValue_21 rfl rfl rfl ?_
  refine ev_iload_n (i := 1) d_Mo_isValue_22 rfl rfl rfl ?_
  refine ev_callVR (As := [g_i (t : Int)]) d_Mo_isValue_23 rfl cl_Mo_228 (c_Mo_isClosed (d + 0) (g_up M 45 44 0) t (q_T_0 hT 0) ht) (g_hR (by decide)) g_h0 lx_45 rfl rfl (Nat.le_of_ble_eq_true rfl) rfl rfl (fun M1 v9 g9 => ?_)
  obtain ⟨rfl, hq1⟩ := g9
  refine ev_beq (tgt := 43) d_Mo_isValue_26 (by decide) rfl (fun c1 => ?_) (fun c1 => ?_)
  · refine ev_iconst d_Mo_isValue_43 rfl ⟨by decide, by decide⟩ ?_
    exact ev_retIR d_Mo_isValue_44 (⟨by rw [if_neg (fun h9 => c1 h9.1)], hq1⟩) (Or.inr ⟨rfl, by omega⟩)
  · refine ev_aload_n (i := 0) d_Mo_isValue_29 rfl rfl rfl ?_
    refine ev_iload_n (i := 1) d_Mo_isValue_30 rfl rfl rfl ?_
    refine ev_iload_n (i := 2) d_Mo_isValue_31 rfl rfl rfl ?_
    refine ev_iconst d_Mo_isValue_32 rfl ⟨by decide, by decide⟩ ?_
    refine ev_callVR (As := [g_i (t : Int), g_i y, g_i 0]) d_Mo_isValue_33 rfl cl_Mo_169 (c_Mo_isTyped_0 (d + 0) M1 t y (q_T_e4 hq1.e4 (q_T_0 hT 0)) (by rw [hq1 45 8 (by decide) (by decide) (by decide)]; exact ht)) (g_hR (by decide)) g_h0 lx_45 rfl rfl (Nat.le_of_ble_eq_true rfl) rfl rfl (fun M3 v9 g9 => ?_)
    obtain ⟨rfl, hq3⟩ := g9
    refine ev_beq (tgt := 43) d_Mo_isValue_36 (by decide) rfl (fun c2 => ?_) (fun c2 => ?_)
    · refine ev_iconst d_Mo_isValue_43 rfl ⟨by decide, by decide⟩ ?_
      exact ev_retIR d_Mo_isValue_44 (⟨by rw [if_neg (fun h9 => c2 (by rw [q_t_q hq1]; exact h9.2))], hq1.tr hq3⟩) (Or.inr ⟨rfl, by omega⟩)
    · refine ev_iconst d_Mo_isValue_39 rfl ⟨by decide, by decide⟩ ?_
      refine ev_goto (tgt := 44) d_Mo_isValue_40 (by decide) ?_
      exact ev_retIR d_Mo_isValue_44 (⟨by rw [if_pos ⟨c1, by rw [← q_t_q hq1]; exact c2⟩], hq1.tr hq3⟩) (Or.inr ⟨rfl, by omega⟩)
