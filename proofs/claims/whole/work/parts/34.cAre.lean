theorem c_Fu_areTypes (d : Nat) (M : g_M) (t a b c : Int)  : Con y_Fu_areTypes w_Fu_areTypes (g_rm (d + 1)) LX M [g_i t, g_i a, g_i b, g_i c] LX M (some (g_i (if s_ok t a b c then 1 else 0))) := by
  refine con_of (av := [g_i t, g_i a, g_i b, g_i c]) (ls0 := [some (g_i t), some (g_i a), some (g_i b), some (g_i c), none]) (by decide) rfl (Nat.le_of_ble_eq_true rfl) (g_hls (av := [g_i t, g_i a, g_i b, g_i c]) (k := 1)) (fun _ h9 => List.mem_cons_of_mem _ h9) ?_
  refine ev_iload_n (i := 0) d_Fu_areTypes_0 rfl rfl rfl ?_
  refine ev_callS (As := [g_i t]) d_Fu_areTypes_1 rfl cl_Fu_173 (c_Fu_isType (d + 0) M t) (g_hR (by decide)) g_h0 rfl rfl (Nat.le_of_ble_eq_true rfl) rfl rfl ?_
  refine ev_bne (tgt := 9) d_Fu_areTypes_4 (by decide) rfl (fun h1 => ?_) (fun h1 => ?_)
  · refine ev_iconst d_Fu_areTypes_9 rfl ⟨by decide, by decide⟩ ?_
    refine ev_istore (i := 4) d_Fu_areTypes_10 rfl (by decide) rfl ?_
    refine ev_iload (i := 4) d_Fu_areTypes_12 rfl rfl ?_
    refine ev_iload_n (i := 1) d_Fu_areTypes_14 rfl rfl rfl ?_
    refine ev_iload_n (i := 2) d_Fu_areTypes_15 rfl rfl rfl ?_
    refine ev_iload_n (i := 3) d_Fu_areTypes_16 rfl rfl rfl ?_
    refine ev_callS (As := [g_i a, g_i b, g_i c]) d_Fu_areTypes_17 rfl cl_Fu_234 (c_Fu_leadingPlaces (d + 0) M a b c) (g_hR (by decide)) g_h0 rfl rfl (Nat.le_of_ble_eq_true rfl) rfl rfl ?_
    refine ev_icmp_ge (tgt := 45) d_Fu_areTypes_20 (by decide) rfl (fun h2 => ?_) (fun h2 => ?_)
    · refine ev_iconst d_Fu_areTypes_45 rfl ⟨by decide, by decide⟩ ?_
      exact ev_retI d_Fu_areTypes_46 (by first | rfl | omega | simp_all) rfl (Or.inr ⟨rfl, by omega⟩)
    · refine ev_iload (i := 4) d_Fu_areTypes_23 rfl rfl ?_
      refine ev_iload_n (i := 1) d_Fu_areTypes_25 rfl rfl rfl ?_
      refine ev_iload_n (i := 2) d_Fu_areTypes_26 rfl rfl rfl ?_
      refine ev_iload_n (i := 3) d_Fu_areTypes_27 rfl rfl rfl ?_
      refine ev_callS (As := [g_i 0, g_i a, g_i b, g_i c]) d_Fu_areTypes_28 rfl cl_Fu_225 (c_Fu_pick (d + 0) M 0 a b c) (g_hR (by decide)) g_h0 rfl rfl (Nat.le_of_ble_eq_true rfl) rfl rfl ?_
      refine ev_callS (As := [g_i (if 0 = 0 then a else if 0 = 1 then b else c)]) d_Fu_areTypes_31 rfl cl_Fu_173 (c_Fu_isType (d + 0) M ((if 0 = 0 then a else if 0 = 1 then b else c))) (g_hR (by decide)) g_h0 rfl rfl (Nat.le_of_ble_eq_true rfl) rfl rfl ?_
      refine ev_bne (tgt := 39) d_Fu_areTypes_34 (by decide) rfl (fun h3 => ?_) (fun h3 => ?_)
      · refine ev_iinc (z := 1) d_Fu_areTypes_39 rfl rfl (by decide) (by decide +kernel) rfl ?_
        refine ev_goto (tgt := 12) d_Fu_areTypes_42 (by decide) ?_
        refine ev_iload (i := 4) d_Fu_areTypes_12 rfl rfl ?_
        refine ev_iload_n (i := 1) d_Fu_areTypes_14 rfl rfl rfl ?_
        refine ev_iload_n (i := 2) d_Fu_areTypes_15 rfl rfl rfl ?_
        refine ev_iload_n (i := 3) d_Fu_areTypes_16 rfl rfl rfl ?_
        refine ev_callS (As := [g_i a, g_i b, g_i c]) d_Fu_areTypes_17 rfl cl_Fu_234 (c_Fu_leadingPlaces (d + 0) M a b c) (g_hR (by decide)) g_h0 rfl rfl (Nat.le_of_ble_eq_true rfl) rfl rfl ?_
        refine ev_icmp_ge (tgt := 45) d_Fu_areTypes_20 (by decide) rfl (fun h4 => ?_) (fun h4 => ?_)
        · refine ev_iconst d_Fu_areTypes_45 rfl ⟨by decide, by decide⟩ ?_
          exact ev_retI d_Fu_areTypes_46 (by first | rfl | omega | simp_all) rfl (Or.inr ⟨rfl, by omega⟩)
        · refine ev_iload (i := 4) d_Fu_areTypes_23 rfl rfl ?_
          refine ev_iload_n (i := 1) d_Fu_areTypes_25 rfl rfl rfl ?_
          refine ev_iload_n (i := 2) d_Fu_areTypes_26 rfl rfl rfl ?_
          refine ev_iload_n (i := 3) d_Fu_areTypes_27 rfl rfl rfl ?_
          refine ev_callS (As := [g_i 1, g_i a, g_i b, g_i c]) d_Fu_areTypes_28 rfl cl_Fu_225 (c_Fu_pick (d + 0) M 1 a b c) (g_hR (by decide)) g_h0 rfl rfl (Nat.le_of_ble_eq_true rfl) rfl rfl ?_
          refine ev_callS (As := [g_i (if 1 = 0 then a else if 1 = 1 then b else c)]) d_Fu_areTypes_31 rfl cl_Fu_173 (c_Fu_isType (d + 0) M ((if 1 = 0 then a else if 1 = 1 then b else c))) (g_hR (by decide)) g_h0 rfl rfl (Nat.le_of_ble_eq_true rfl) rfl rfl ?_
          refine ev_bne (tgt := 39) d_Fu_areTypes_34 (by decide) rfl (fun h5 => ?_) (fun h5 => ?_)
          · refine ev_iinc (z := 2) d_Fu_areTypes_39 rfl rfl (by decide) (by decide +kernel) rfl ?_
            refine ev_goto (tgt := 12) d_Fu_areTypes_42 (by decide) ?_
            refine ev_iload (i := 4) d_Fu_areTypes_12 rfl rfl ?_
            refine ev_iload_n (i := 1) d_Fu_areTypes_14 rfl rfl rfl ?_
            refine ev_iload_n (i := 2) d_Fu_areTypes_15 rfl rfl rfl ?_
            refine ev_iload_n (i := 3) d_Fu_areTypes_16 rfl rfl rfl ?_
            refine ev_callS (As := [g_i a, g_i b, g_i c]) d_Fu_areTypes_17 rfl cl_Fu_234 (c_Fu_leadingPlaces (d + 0) M a b c) (g_hR (by decide)) g_h0 rfl rfl (Nat.le_of_ble_eq_true rfl) rfl rfl ?_
            refine ev_icmp_ge (tgt := 45) d_Fu_areTypes_20 (by decide) rfl (fun h6 => ?_) (fun h6 => ?_)
            · refine ev_iconst d_Fu_areTypes_45 rfl ⟨by decide, by decide⟩ ?_
              exact ev_retI d_Fu_areTypes_46 (by first | rfl | omega | simp_all) rfl (Or.inr ⟨rfl, by omega⟩)
            · refine ev_iload (i := 4) d_Fu_areTypes_23 rfl rfl ?_
              refine ev_iload_n (i := 1) d_Fu_areTypes_25 rfl rfl rfl ?_
              refine ev_iload_n (i := 2) d_Fu_areTypes_26 rfl rfl rfl ?_
              refine ev_iload_n (i := 3) d_Fu_areTypes_27 rfl rfl rfl ?_
              refine ev_callS (As := [g_i 2, g_i a, g_i b, g_i c]) d_Fu_areTypes_28 rfl cl_Fu_225 (c_Fu_pick (d + 0) M 2 a b c) (g_hR (by decide)) g_h0 rfl rfl (Nat.le_of_ble_eq_true rfl) rfl rfl ?_
              refine ev_callS (As := [g_i (if 2 = 0 then a else if 2 = 1 then b else c)]) d_Fu_areTypes_31 rfl cl_Fu_173 (c_Fu_isType (d + 0) M ((if 2 = 0 then a else if 2 = 1 then b else c))) (g_hR (by decide)) g_h0 rfl rfl (Nat.le_of_ble_eq_true rfl) rfl rfl ?_
              refine ev_bne (tgt := 39) d_Fu_areTypes_34 (by decide) rfl (fun h7 => ?_) (fun h7 => ?_)
              · refine ev_iinc (z := 3) d_Fu_areTypes_39 rfl rfl (by decide) (by decide +kernel) rfl ?_
                refine ev_goto (tgt := 12) d_Fu_areTypes_42 (by decide) ?_
                refine ev_iload (i := 4) d_Fu_areTypes_12 rfl rfl ?_
                refine ev_iload_n (i := 1) d_Fu_areTypes_14 rfl rfl rfl ?_
                refine ev_iload_n (i := 2) d_Fu_areTypes_15 rfl rfl rfl ?_
                refine ev_iload_n (i := 3) d_Fu_areTypes_16 rfl rfl rfl ?_
                refine ev_callS (As := [g_i a, g_i b, g_i c]) d_Fu_areTypes_17 rfl cl_Fu_234 (c_Fu_leadingPlaces (d + 0) M a b c) (g_hR (by decide)) g_h0 rfl rfl (Nat.le_of_ble_eq_true rfl) rfl rfl ?_
                refine ev_icmp_ge_t (tgt := 45) d_Fu_areTypes_20 (by decide) (by omega) ?_
                refine ev_iconst d_Fu_areTypes_45 rfl ⟨by decide, by decide⟩ ?_
                exact ev_retI d_Fu_areTypes_46 (by first | rfl | omega | simp_all) rfl (Or.inr ⟨rfl, by omega⟩)
              · refine ev_iconst d_Fu_areTypes_37 rfl ⟨by decide, by decide⟩ ?_
                exact ev_retI d_Fu_areTypes_38 (by first | rfl | omega | simp_all) rfl (Or.inr ⟨rfl, by omega⟩)
          · refine ev_iconst d_Fu_areTypes_37 rfl ⟨by decide, by decide⟩ ?_
            exact ev_retI d_Fu_areTypes_38 (by first | rfl | omega | simp_all) rfl (Or.inr ⟨rfl, by omega⟩)
      · refine ev_iconst d_Fu_areTypes_37 rfl ⟨by decide, by decide⟩ ?_
        exact ev_retI d_Fu_areTypes_38 (by first | rfl | omega | simp_all) rfl (Or.inr ⟨rfl, by omega⟩)
  · refine ev_iconst d_Fu_areTypes_7 rfl ⟨by decide, by decide⟩ ?_
    exact ev_retI d_Fu_areTypes_8 (by first | rfl | omega | simp_all) rfl (Or.inr ⟨rfl, by omega⟩)
