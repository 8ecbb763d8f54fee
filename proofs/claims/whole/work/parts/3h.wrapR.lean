theorem cw_clause_R (d : Nat) (M : g_M) (p0 p1 p2 p3 p4 : Int) (G : g_M → Option g_v → Prop) (hG : ∀ (M1 : g_M) (v : Option g_v), G M1 v → ∃ r : Int, v = some (g_i r)) (h : ConR y_Fu_clause w_Fu_clause (g_rm d) LX M [g_r 0, g_i p0, g_i p1, g_i p2, g_i p3, g_i p4] LX G) : ConLR y_La_clause ww_La_clause (g_rm (d + 1)) LX M [g_r 0, g_i p0, g_i p1, g_i p2, g_i p3, g_i p4, g_r 77] LX (fun M2 v => ∃ (M1 : g_M) (r : Int), G M1 (some (g_i r)) ∧ M2 = g_up M1 77 0 r ∧ v = some (g_i 0)) := by
  refine conW_ofR (av := [g_r 0, g_i p0, g_i p1, g_i p2, g_i p3, g_i p4, g_r 77]) (ls0 := [some (g_r 0), some (g_i p0), some (g_i p1), some (g_i p2), some (g_i p3), some (g_i p4), some (g_r 77), none]) (by decide) rfl (Nat.le_of_ble_eq_true rfl) (g_hls (av := [g_r 0, g_i p0, g_i p1, g_i p2, g_i p3, g_i p4, g_r 77]) (k := 1)) (fun _ h9 => List.mem_cons_of_mem _ h9) ?_
  refine ev_aload (i := 6) d_La_clause_0 rfl rfl ?_
  refine ev_iconst d_La_clause_2 rfl ⟨by decide, by decide⟩ ?_
  refine ev_aload_n (i := 0) d_La_clause_3 rfl rfl rfl ?_
  refine ev_iload_n (i := 1) d_La_clause_4 rfl rfl rfl ?_
  refine ev_iload_n (i := 2) d_La_clause_5 rfl rfl rfl ?_
  refine ev_iload_n (i := 3) d_La_clause_6 rfl rfl rfl ?_
  refine ev_iload (i := 4) d_La_clause_7 rfl rfl ?_
  refine ev_iload (i := 5) d_La_clause_9 rfl rfl ?_
  refine ev_callVR (As := [g_i p0, g_i p1, g_i p2, g_i p3, g_i p4]) d_La_clause_11 rfl cl_La_30 h (g_hR (by decide)) g_h0 lx_0 rfl rfl (by decide) rfl rfl (fun M1 v1 g1 => ?_)
  obtain ⟨r, rfl⟩ := hG M1 v1 g1
  refine ev_i2l d_La_clause_14 rfl ?_
  refine ev_lastore d_La_clause_15 rfl lx_77 (by decide) (by decide) ?_
  refine ev_goto (tgt := 27) d_La_clause_16 (by decide) ?_
  refine ev_iconst d_La_clause_27 rfl ⟨by decide, by decide⟩ ?_
  exact ev_retIR d_La_clause_28 ⟨M1, r, g1, rfl, rfl⟩ (Or.inl rfl)
theorem cw_arc_R (d : Nat) (M : g_M) (p0 p1 p2 p3 : Int) (G : g_M → Option g_v → Prop) (hG : ∀ (M1 : g_M) (v : Option g_v), G M1 v → ∃ r : Int, v = some (g_i r)) (h : ConR y_Fu_arc w_Fu_arc (g_rm d) LX M [g_r 0, g_i p0, g_i p1, g_i p2, g_i p3] LX G) : ConLR y_La_arc ww_La_arc (g_rm (d + 1)) LX M [g_r 0, g_i p0, g_i p1, g_i p2, g_i p3, g_r 77] LX (fun M2 v => ∃ (M1 : g_M) (r : Int), G M1 (some (g_i r)) ∧ M2 = g_up M1 77 0 r ∧ v = some (g_i 0)) := by
  refine conW_ofR (av := [g_r 0, g_i p0, g_i p1, g_i p2, g_i p3, g_r 77]) (ls0 := [some (g_r 0), some (g_i p0), some (g_i p1), some (g_i p2), some (g_i p3), some (g_r 77), none]) (by decide) rfl (Nat.le_of_ble_eq_true rfl) (g_hls (av := [g_r 0, g_i p0, g_i p1, g_i p2, g_i p3, g_r 77]) (k := 1)) (fun _ h9 => List.mem_cons_of_mem _ h9) ?_
  refine ev_aload (i := 5) d_La_arc_0 rfl rfl ?_
  refine ev_iconst d_La_arc_2 rfl ⟨by decide, by decide⟩ ?_
  refine ev_aload_n (i := 0) d_La_arc_3 rfl rfl rfl ?_
  refine ev_iload_n (i := 1) d_La_arc_4 rfl rfl rfl ?_
  refine ev_iload_n (i := 2) d_La_arc_5 rfl rfl rfl ?_
  refine ev_iload_n (i := 3) d_La_arc_6 rfl rfl rfl ?_
  refine ev_iload (i := 4) d_La_arc_7 rfl rfl ?_
  refine ev_callVR (As := [g_i p0, g_i p1, g_i p2, g_i p3]) d_La_arc_9 rfl cl_La_34 h (g_hR (by decide)) g_h0 lx_0 rfl rfl (by decide) rfl rfl (fun M1 v1 g1 => ?_)
  obtain ⟨r, rfl⟩ := hG M1 v1 g1
  refine ev_i2l d_La_arc_12 rfl ?_
  refine ev_lastore d_La_arc_13 rfl lx_77 (by decide) (by decide) ?_
  refine ev_goto (tgt := 21) d_La_arc_14 (by decide) ?_
  refine ev_iconst d_La_arc_21 rfl ⟨by decide, by decide⟩ ?_
  exact ev_retIR d_La_arc_22 ⟨M1, r, g1, rfl, rfl⟩ (Or.inl rfl)
theorem cw_run_R (d : Nat) (M : g_M) (p0 p1 p2 p3 : Int) (G : g_M → Option g_v → Prop) (hG : ∀ (M1 : g_M) (v : Option g_v), G M1 v → ∃ r : Int, v = some (g_i r)) (h : ConR y_Fu_run w_Fu_run (g_rm d) LX M [g_r 0, g_i p0, g_i p1, g_i p2, g_i p3] LX G) : ConLR y_La_run ww_La_run (g_rm (d + 1)) LX M [g_r 0, g_i p0, g_i p1, g_i p2, g_i p3, g_r 77] LX (fun M2 v => ∃ (M1 : g_M) (r : Int), G M1 (some (g_i r)) ∧ M2 = g_up M1 77 0 r ∧ v = some (g_i 0)) := by
  refine conW_ofR (av := [g_r 0, g_i p0, g_i p1, g_i p2, g_i p3, g_r 77]) (ls0 := [some (g_r 0), some (g_i p0), some (g_i p1), some (g_i p2), some (g_i p3), some (g_r 77), none]) (by decide) rfl (Nat.le_of_ble_eq_true rfl) (g_hls (av := [g_r 0, g_i p0, g_i p1, g_i p2, g_i p3, g_r 77]) (k := 1)) (fun _ h9 => List.mem_cons_of_mem _ h9) ?_
  refine ev_aload (i := 5) d_La_run_0 rfl rfl ?_
  refine ev_iconst d_La_run_2 rfl ⟨by decide, by decide⟩ ?_
  refine ev_aload_n (i := 0) d_La_run_3 rfl rfl rfl ?_
  refine ev_iload_n (i := 1) d_La_run_4 rfl rfl rfl ?_
  refine ev_iload_n (i := 2) d_La_run_5 rfl rfl rfl ?_
  refine ev_iload_n (i := 3) d_La_run_6 rfl rfl rfl ?_
  refine ev_iload (i := 4) d_La_run_7 rfl rfl ?_
  refine ev_callVR (As := [g_i p0, g_i p1, g_i p2, g_i p3]) d_La_run_9 rfl cl_La_37 h (g_hR (by decide)) g_h0 lx_0 rfl rfl (by decide) rfl rfl (fun M1 v1 g1 => ?_)
  obtain ⟨r, rfl⟩ := hG M1 v1 g1
  refine ev_i2l d_La_run_12 rfl ?_
  refine ev_lastore d_La_run_13 rfl lx_77 (by decide) (by decide) ?_
  refine ev_goto (tgt := 25) d_La_run_14 (by decide) ?_
  refine ev_iconst d_La_run_25 rfl ⟨by decide, by decide⟩ ?_
  exact ev_retIR d_La_run_26 ⟨M1, r, g1, rfl, rfl⟩ (Or.inl rfl)
