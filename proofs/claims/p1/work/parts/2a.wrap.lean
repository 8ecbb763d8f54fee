/-! the law's own methods that catch -/
abbrev ww_La_constructor : List Cond := Cond.codeWith y_La_constructor b_La_constructor 7 (some .int) [(0, 14, 17, 13), (0, 14, 21, 15)] :: gw
theorem gh_La_constructor : (Cond.codeWith y_La_constructor b_La_constructor 7 (some .int) [(0, 14, 17, 13), (0, 14, 21, 15)] : Cond) ∈ gw := gw_of (List.mem_append_right _ (List.mem_append_right _ (List.mem_append_left _ (List.mem_of_getElem? (i := 88) (by decide +kernel))))) rfl
theorem cl_La_49 : g_CW R_La 49 y_La_constructor ww_La_constructor 6 7 := ⟨⟨_, _, _, _, rfl⟩, g_gd (g_cons gh_La_constructor), ⟨by decide +kernel, by decide +kernel, by decide +kernel⟩, gm_458, gm_0, gm_457⟩
theorem cw_constructor_r (d : Nat) (M M' : g_M) (p0 p1 p2 p3 r : Int) (h : Con y_Fu_constructor w_Fu_constructor (g_rm d) LX M [g_r 0, g_i p0, g_i p1, g_i p2, g_i p3] LX M' (some (g_i r))) : ConL y_La_constructor ww_La_constructor (g_rm (d + 1)) LX M [g_r 0, g_i p0, g_i p1, g_i p2, g_i p3, g_r 77] LX (g_up M' 77 0 r) (some (g_i 0)) := by
  refine conW_of (av := [g_r 0, g_i p0, g_i p1, g_i p2, g_i p3, g_r 77]) (ls0 := [some (g_r 0), some (g_i p0), some (g_i p1), some (g_i p2), some (g_i p3), some (g_r 77), none]) (by decide) rfl (Nat.le_of_ble_eq_true rfl) (g_hls (av := [g_r 0, g_i p0, g_i p1, g_i p2, g_i p3, g_r 77]) (k := 1)) (fun _ h9 => List.mem_cons_of_mem _ h9) ?_
  refine ev_aload (i := 5) d_La_constructor_0 rfl rfl ?_
  refine ev_iconst d_La_constructor_2 rfl ⟨by decide, by decide⟩ ?_
  refine ev_aload_n (i := 0) d_La_constructor_3 rfl rfl rfl ?_
  refine ev_iload_n (i := 1) d_La_constructor_4 rfl rfl rfl ?_
  refine ev_iload_n (i := 2) d_La_constructor_5 rfl rfl rfl ?_
  refine ev_iload_n (i := 3) d_La_constructor_6 rfl rfl rfl ?_
  refine ev_iload (i := 4) d_La_constructor_7 rfl rfl ?_
  refine ev_callV (As := [g_i p0, g_i p1, g_i p2, g_i p3]) d_La_constructor_9 rfl cl_La_7 h (g_hR (by decide)) g_h0 lx_0 rfl rfl (by decide) rfl rfl ?_
  refine ev_i2l d_La_constructor_12 rfl ?_
  refine ev_lastore d_La_constructor_13 rfl lx_77 (by decide) (by decide) ?_
  refine ev_goto (tgt := 25) d_La_constructor_14 (by decide) ?_
  refine ev_iconst d_La_constructor_25 rfl ⟨by decide, by decide⟩ ?_
  exact ev_retI d_La_constructor_26 rfl rfl (Or.inl rfl)
theorem cw_constructor_1 (d : Nat) (M M' : g_M) (p0 p1 p2 p3 : Int) (h : CoX y_Fu_constructor w_Fu_constructor (g_ra d 1 6) LX M [g_r 0, g_i p0, g_i p1, g_i p2, g_i p3] M' x_E1) : ConL y_La_constructor ww_La_constructor (g_ra (d + 1) 1 6) LX M [g_r 0, g_i p0, g_i p1, g_i p2, g_i p3, g_r 77] LX M' (some (g_i 1)) := by
  refine conW_of (av := [g_r 0, g_i p0, g_i p1, g_i p2, g_i p3, g_r 77]) (ls0 := [some (g_r 0), some (g_i p0), some (g_i p1), some (g_i p2), some (g_i p3), some (g_r 77), none]) (by decide) rfl (Nat.le_of_ble_eq_true rfl) (g_hls (av := [g_r 0, g_i p0, g_i p1, g_i p2, g_i p3, g_r 77]) (k := 1)) (fun _ h9 => List.mem_cons_of_mem _ h9) ?_
  refine ev_aload (i := 5) d_La_constructor_0 rfl rfl ?_
  refine ev_iconst d_La_constructor_2 rfl ⟨by decide, by decide⟩ ?_
  refine ev_aload_n (i := 0) d_La_constructor_3 rfl rfl rfl ?_
  refine ev_iload_n (i := 1) d_La_constructor_4 rfl rfl rfl ?_
  refine ev_iload_n (i := 2) d_La_constructor_5 rfl rfl rfl ?_
  refine ev_iload_n (i := 3) d_La_constructor_6 rfl rfl rfl ?_
  refine ev_iload (i := 4) d_La_constructor_7 rfl rfl ?_
  refine ev_callVX (As := [g_i p0, g_i p1, g_i p2, g_i p3]) d_La_constructor_9 rfl (Or.inl ⟨0, 14, 13, _, rfl, by decide, by decide, by decide, gm_459, by decide +kernel⟩) cl_La_7 h (g_hR (by decide)) ⟨Nat.le_refl _, Nat.le_refl _⟩ lx_0 rfl rfl (by decide) (fun x => ?_)
  refine ev_astoreO (i := 6) d_La_constructor_17 rfl (by decide) rfl ?_
  refine ev_iconst d_La_constructor_19 rfl ⟨by decide, by decide⟩ ?_
  exact ev_retI d_La_constructor_20 rfl rfl (Or.inl rfl)
theorem cw_constructor_2 (d : Nat) (M M' : g_M) (p0 p1 p2 p3 : Int) (h : CoX y_Fu_constructor w_Fu_constructor (g_ra d 1 6) LX M [g_r 0, g_i p0, g_i p1, g_i p2, g_i p3] M' x_E2) : ConL y_La_constructor ww_La_constructor (g_ra (d + 1) 1 6) LX M [g_r 0, g_i p0, g_i p1, g_i p2, g_i p3, g_r 77] LX M' (some (g_i 2)) := by
  refine conW_of (av := [g_r 0, g_i p0, g_i p1, g_i p2, g_i p3, g_r 77]) (ls0 := [some (g_r 0), some (g_i p0), some (g_i p1), some (g_i p2), some (g_i p3), some (g_r 77), none]) (by decide) rfl (Nat.le_of_ble_eq_true rfl) (g_hls (av := [g_r 0, g_i p0, g_i p1, g_i p2, g_i p3, g_r 77]) (k := 1)) (fun _ h9 => List.mem_cons_of_mem _ h9) ?_
  refine ev_aload (i := 5) d_La_constructor_0 rfl rfl ?_
  refine ev_iconst d_La_constructor_2 rfl ⟨by decide, by decide⟩ ?_
  refine ev_aload_n (i := 0) d_La_constructor_3 rfl rfl rfl ?_
  refine ev_iload_n (i := 1) d_La_constructor_4 rfl rfl rfl ?_
  refine ev_iload_n (i := 2) d_La_constructor_5 rfl rfl rfl ?_
  refine ev_iload_n (i := 3) d_La_constructor_6 rfl rfl rfl ?_
  refine ev_iload (i := 4) d_La_constructor_7 rfl rfl ?_
  refine ev_callVX (As := [g_i p0, g_i p1, g_i p2, g_i p3]) d_La_constructor_9 rfl (Or.inr ⟨0, 14, 15, 0, 14, 17, 13, x_E1, _, rfl, ⟨by decide, by decide, by decide, gm_460, by decide +kernel⟩, by decide, by decide, by decide, gm_459, by decide +kernel⟩) cl_La_7 h (g_hR (by decide)) ⟨Nat.le_refl _, Nat.le_refl _⟩ lx_0 rfl rfl (by decide) (fun x => ?_)
  refine ev_astoreO (i := 6) d_La_constructor_21 rfl (by decide) rfl ?_
  refine ev_iconst d_La_constructor_23 rfl ⟨by decide, by decide⟩ ?_
  exact ev_retI d_La_constructor_24 rfl rfl (Or.inl rfl)
abbrev ww_La_function : List Cond := Cond.codeWith y_La_function b_La_function 7 (some .int) [(0, 14, 17, 13), (0, 14, 21, 15)] :: gw
theorem gh_La_function : (Cond.codeWith y_La_function b_La_function 7 (some .int) [(0, 14, 17, 13), (0, 14, 21, 15)] : Cond) ∈ gw := gw_of (List.mem_append_right _ (List.mem_append_right _ (List.mem_append_left _ (List.mem_of_getElem? (i := 200) (by decide +kernel))))) rfl
theorem cl_La_59 : g_CW R_La 59 y_La_function ww_La_function 6 7 := ⟨⟨_, _, _, _, rfl⟩, g_gd (g_cons gh_La_function), ⟨by decide +kernel, by decide +kernel, by decide +kernel⟩, gm_485, gm_0, gm_484⟩
theorem cw_function_r (d : Nat) (M M' : g_M) (p0 p1 p2 p3 r : Int) (h : Con y_Fu_function w_Fu_function (g_rm d) LX M [g_r 0, g_i p0, g_i p1, g_i p2, g_i p3] LX M' (some (g_i r))) : ConL y_La_function ww_La_function (g_rm (d + 1)) LX M [g_r 0, g_i p0, g_i p1, g_i p2, g_i p3, g_r 77] LX (g_up M' 77 0 r) (some (g_i 0)) := by
  refine conW_of (av := [g_r 0, g_i p0, g_i p1, g_i p2, g_i p3, g_r 77]) (ls0 := [some (g_r 0), some (g_i p0), some (g_i p1), some (g_i p2), some (g_i p3), some (g_r 77), none]) (by decide) rfl (Nat.le_of_ble_eq_true rfl) (g_hls (av := [g_r 0, g_i p0, g_i p1, g_i p2, g_i p3, g_r 77]) (k := 1)) (fun _ h9 => List.mem_cons_of_mem _ h9) ?_
  refine ev_aload (i := 5) d_La_function_0 rfl rfl ?_
  refine ev_iconst d_La_function_2 rfl ⟨by decide, by decide⟩ ?_
  refine ev_aload_n (i := 0) d_La_function_3 rfl rfl rfl ?_
  refine ev_iload_n (i := 1) d_La_function_4 rfl rfl rfl ?_
  refine ev_iload_n (i := 2) d_La_function_5 rfl rfl rfl ?_
  refine ev_iload_n (i := 3) d_La_function_6 rfl rfl rfl ?_
  refine ev_iload (i := 4) d_La_function_7 rfl rfl ?_
  refine ev_callV (As := [g_i p0, g_i p1, g_i p2, g_i p3]) d_La_function_9 rfl cl_La_17 h (g_hR (by decide)) g_h0 lx_0 rfl rfl (by decide) rfl rfl ?_
  refine ev_i2l d_La_function_12 rfl ?_
  refine ev_lastore d_La_function_13 rfl lx_77 (by decide) (by decide) ?_
  refine ev_goto (tgt := 25) d_La_function_14 (by decide) ?_
  refine ev_iconst d_La_function_25 rfl ⟨by decide, by decide⟩ ?_
  exact ev_retI d_La_function_26 rfl rfl (Or.inl rfl)
theorem cw_function_1 (d : Nat) (M M' : g_M) (p0 p1 p2 p3 : Int) (h : CoX y_Fu_function w_Fu_function (g_ra d 1 6) LX M [g_r 0, g_i p0, g_i p1, g_i p2, g_i p3] M' x_E1) : ConL y_La_function ww_La_function (g_ra (d + 1) 1 6) LX M [g_r 0, g_i p0, g_i p1, g_i p2, g_i p3, g_r 77] LX M' (some (g_i 1)) := by
  refine conW_of (av := [g_r 0, g_i p0, g_i p1, g_i p2, g_i p3, g_r 77]) (ls0 := [some (g_r 0), some (g_i p0), some (g_i p1), some (g_i p2), some (g_i p3), some (g_r 77), none]) (by decide) rfl (Nat.le_of_ble_eq_true rfl) (g_hls (av := [g_r 0, g_i p0, g_i p1, g_i p2, g_i p3, g_r 77]) (k := 1)) (fun _ h9 => List.mem_cons_of_mem _ h9) ?_
  refine ev_aload (i := 5) d_La_function_0 rfl rfl ?_
  refine ev_iconst d_La_function_2 rfl ⟨by decide, by decide⟩ ?_
  refine ev_aload_n (i := 0) d_La_function_3 rfl rfl rfl ?_
  refine ev_iload_n (i := 1) d_La_function_4 rfl rfl rfl ?_
  refine ev_iload_n (i := 2) d_La_function_5 rfl rfl rfl ?_
  refine ev_iload_n (i := 3) d_La_function_6 rfl rfl rfl ?_
  refine ev_iload (i := 4) d_La_function_7 rfl rfl ?_
  refine ev_callVX (As := [g_i p0, g_i p1, g_i p2, g_i p3]) d_La_function_9 rfl (Or.inl ⟨0, 14, 13, _, rfl, by decide, by decide, by decide, gm_459, by decide +kernel⟩) cl_La_17 h (g_hR (by decide)) ⟨Nat.le_refl _, Nat.le_refl _⟩ lx_0 rfl rfl (by decide) (fun x => ?_)
  refine ev_astoreO (i := 6) d_La_function_17 rfl (by decide) rfl ?_
  refine ev_iconst d_La_function_19 rfl ⟨by decide, by decide⟩ ?_
  exact ev_retI d_La_function_20 rfl rfl (Or.inl rfl)
theorem cw_function_2 (d : Nat) (M M' : g_M) (p0 p1 p2 p3 : Int) (h : CoX y_Fu_function w_Fu_function (g_ra d 1 6) LX M [g_r 0, g_i p0, g_i p1, g_i p2, g_i p3] M' x_E2) : ConL y_La_function ww_La_function (g_ra (d + 1) 1 6) LX M [g_r 0, g_i p0, g_i p1, g_i p2, g_i p3, g_r 77] LX M' (some (g_i 2)) := by
  refine conW_of (av := [g_r 0, g_i p0, g_i p1, g_i p2, g_i p3, g_r 77]) (ls0 := [some (g_r 0), some (g_i p0), some (g_i p1), some (g_i p2), some (g_i p3), some (g_r 77), none]) (by decide) rfl (Nat.le_of_ble_eq_true rfl) (g_hls (av := [g_r 0, g_i p0, g_i p1, g_i p2, g_i p3, g_r 77]) (k := 1)) (fun _ h9 => List.mem_cons_of_mem _ h9) ?_
  refine ev_aload (i := 5) d_La_function_0 rfl rfl ?_
  refine ev_iconst d_La_function_2 rfl ⟨by decide, by decide⟩ ?_
  refine ev_aload_n (i := 0) d_La_function_3 rfl rfl rfl ?_
  refine ev_iload_n (i := 1) d_La_function_4 rfl rfl rfl ?_
  refine ev_iload_n (i := 2) d_La_function_5 rfl rfl rfl ?_
  refine ev_iload_n (i := 3) d_La_function_6 rfl rfl rfl ?_
  refine ev_iload (i := 4) d_La_function_7 rfl rfl ?_
  refine ev_callVX (As := [g_i p0, g_i p1, g_i p2, g_i p3]) d_La_function_9 rfl (Or.inr ⟨0, 14, 15, 0, 14, 17, 13, x_E1, _, rfl, ⟨by decide, by decide, by decide, gm_460, by decide +kernel⟩, by decide, by decide, by decide, gm_459, by decide +kernel⟩) cl_La_17 h (g_hR (by decide)) ⟨Nat.le_refl _, Nat.le_refl _⟩ lx_0 rfl rfl (by decide) (fun x => ?_)
  refine ev_astoreO (i := 6) d_La_function_21 rfl (by decide) rfl ?_
  refine ev_iconst d_La_function_23 rfl ⟨by decide, by decide⟩ ?_
  exact ev_retI d_La_function_24 rfl rfl (Or.inl rfl)
abbrev ww_La_variable : List Cond := Cond.codeWith y_La_variable b_La_variable 4 (some .int) [(0, 9, 12, 13), (0, 9, 15, 15)] :: gw
theorem gh_La_variable : (Cond.codeWith y_La_variable b_La_variable 4 (some .int) [(0, 9, 12, 13), (0, 9, 15, 15)] : Cond) ∈ gw := gw_of (List.mem_append_right _ (List.mem_append_right _ (List.mem_append_left _ (List.mem_of_getElem? (i := 208) (by decide +kernel))))) rfl
theorem cl_La_62 : g_CW R_La 62 y_La_variable ww_La_variable 3 4 := ⟨⟨_, _, _, _, rfl⟩, g_gd (g_cons gh_La_variable), ⟨by decide +kernel, by decide +kernel, by decide +kernel⟩, gm_491, gm_0, gm_490⟩
theorem cw_variable_r (d : Nat) (M M' : g_M) (p0 r : Int) (h : Con y_Fu_variable w_Fu_variable (g_rm d) LX M [g_r 0, g_i p0] LX M' (some (g_i r))) : ConL y_La_variable ww_La_variable (g_rm (d + 1)) LX M [g_r 0, g_i p0, g_r 77] LX (g_up M' 77 0 r) (some (g_i 0)) := by
  refine conW_of (av := [g_r 0, g_i p0, g_r 77]) (ls0 := [some (g_r 0), some (g_i p0), some (g_r 77), none]) (by decide) rfl (Nat.le_of_ble_eq_true rfl) (g_hls (av := [g_r 0, g_i p0, g_r 77]) (k := 1)) (fun _ h9 => List.mem_cons_of_mem _ h9) ?_
  refine ev_aload_n (i := 2) d_La_variable_0 rfl rfl rfl ?_
  refine ev_iconst d_La_variable_1 rfl ⟨by decide, by decide⟩ ?_
  refine ev_aload_n (i := 0) d_La_variable_2 rfl rfl rfl ?_
  refine ev_iload_n (i := 1) d_La_variable_3 rfl rfl rfl ?_
  refine ev_callV (As := [g_i p0]) d_La_variable_4 rfl cl_La_20 h (g_hR (by decide)) g_h0 lx_0 rfl rfl (by decide) rfl rfl ?_
  refine ev_i2l d_La_variable_7 rfl ?_
  refine ev_lastore d_La_variable_8 rfl lx_77 (by decide) (by decide) ?_
  refine ev_goto (tgt := 18) d_La_variable_9 (by decide) ?_
  refine ev_iconst d_La_variable_18 rfl ⟨by decide, by decide⟩ ?_
  exact ev_retI d_La_variable_19 rfl rfl (Or.inl rfl)
theorem cw_variable_1 (d : Nat) (M M' : g_M) (p0 : Int) (h : CoX y_Fu_variable w_Fu_variable (g_ra d 1 6) LX M [g_r 0, g_i p0] M' x_E1) : ConL y_La_variable ww_La_variable (g_ra (d + 1) 1 6) LX M [g_r 0, g_i p0, g_r 77] LX M' (some (g_i 1)) := by
  refine conW_of (av := [g_r 0, g_i p0, g_r 77]) (ls0 := [some (g_r 0), some (g_i p0), some (g_r 77), none]) (by decide) rfl (Nat.le_of_ble_eq_true rfl) (g_hls (av := [g_r 0, g_i p0, g_r 77]) (k := 1)) (fun _ h9 => List.mem_cons_of_mem _ h9) ?_
  refine ev_aload_n (i := 2) d_La_variable_0 rfl rfl rfl ?_
  refine ev_iconst d_La_variable_1 rfl ⟨by decide, by decide⟩ ?_
  refine ev_aload_n (i := 0) d_La_variable_2 rfl rfl rfl ?_
  refine ev_iload_n (i := 1) d_La_variable_3 rfl rfl rfl ?_
  refine ev_callVX (As := [g_i p0]) d_La_variable_4 rfl (Or.inl ⟨0, 9, 13, _, rfl, by decide, by decide, by decide, gm_459, by decide +kernel⟩) cl_La_20 h (g_hR (by decide)) ⟨Nat.le_refl _, Nat.le_refl _⟩ lx_0 rfl rfl (by decide) (fun x => ?_)
  refine ev_astore_nO (i := 3) d_La_variable_12 rfl rfl (by decide) rfl ?_
  refine ev_iconst d_La_variable_13 rfl ⟨by decide, by decide⟩ ?_
  exact ev_retI d_La_variable_14 rfl rfl (Or.inl rfl)
theorem cw_variable_2 (d : Nat) (M M' : g_M) (p0 : Int) (h : CoX y_Fu_variable w_Fu_variable (g_ra d 1 6) LX M [g_r 0, g_i p0] M' x_E2) : ConL y_La_variable ww_La_variable (g_ra (d + 1) 1 6) LX M [g_r 0, g_i p0, g_r 77] LX M' (some (g_i 2)) := by
  refine conW_of (av := [g_r 0, g_i p0, g_r 77]) (ls0 := [some (g_r 0), some (g_i p0), some (g_r 77), none]) (by decide) rfl (Nat.le_of_ble_eq_true rfl) (g_hls (av := [g_r 0, g_i p0, g_r 77]) (k := 1)) (fun _ h9 => List.mem_cons_of_mem _ h9) ?_
  refine ev_aload_n (i := 2) d_La_variable_0 rfl rfl rfl ?_
  refine ev_iconst d_La_variable_1 rfl ⟨by decide, by decide⟩ ?_
  refine ev_aload_n (i := 0) d_La_variable_2 rfl rfl rfl ?_
  refine ev_iload_n (i := 1) d_La_variable_3 rfl rfl rfl ?_
  refine ev_callVX (As := [g_i p0]) d_La_variable_4 rfl (Or.inr ⟨0, 9, 15, 0, 9, 12, 13, x_E1, _, rfl, ⟨by decide, by decide, by decide, gm_460, by decide +kernel⟩, by decide, by decide, by decide, gm_459, by decide +kernel⟩) cl_La_20 h (g_hR (by decide)) ⟨Nat.le_refl _, Nat.le_refl _⟩ lx_0 rfl rfl (by decide) (fun x => ?_)
  refine ev_astore_nO (i := 3) d_La_variable_15 rfl rfl (by decide) rfl ?_
  refine ev_iconst d_La_variable_16 rfl ⟨by decide, by decide⟩ ?_
  exact ev_retI d_La_variable_17 rfl rfl (Or.inl rfl)
abbrev ww_La_make : List Cond := Cond.codeWith y_La_make b_La_make 7 (some .int) [(0, 14, 17, 13), (0, 14, 21, 15)] :: gw
theorem gh_La_make : (Cond.codeWith y_La_make b_La_make 7 (some .int) [(0, 14, 17, 13), (0, 14, 21, 15)] : Cond) ∈ gw := gw_of (List.mem_append_right _ (List.mem_append_right _ (List.mem_append_left _ (List.mem_of_getElem? (i := 225) (by decide +kernel))))) rfl
theorem cl_La_66 : g_CW R_La 66 y_La_make ww_La_make 6 7 := ⟨⟨_, _, _, _, rfl⟩, g_gd (g_cons gh_La_make), ⟨by decide +kernel, by decide +kernel, by decide +kernel⟩, gm_505, gm_0, gm_504⟩
theorem cw_make_r (d : Nat) (M M' : g_M) (p0 p1 p2 p3 r : Int) (h : Con y_Fu_make w_Fu_make (g_rm d) LX M [g_r 0, g_i p0, g_i p1, g_i p2, g_i p3] LX M' (some (g_i r))) : ConL y_La_make ww_La_make (g_rm (d + 1)) LX M [g_r 0, g_i p0, g_i p1, g_i p2, g_i p3, g_r 77] LX (g_up M' 77 0 r) (some (g_i 0)) := by
  refine conW_of (av := [g_r 0, g_i p0, g_i p1, g_i p2, g_i p3, g_r 77]) (ls0 := [some (g_r 0), some (g_i p0), some (g_i p1), some (g_i p2), some (g_i p3), some (g_r 77), none]) (by decide) rfl (Nat.le_of_ble_eq_true rfl) (g_hls (av := [g_r 0, g_i p0, g_i p1, g_i p2, g_i p3, g_r 77]) (k := 1)) (fun _ h9 => List.mem_cons_of_mem _ h9) ?_
  refine ev_aload (i := 5) d_La_make_0 rfl rfl ?_
  refine ev_iconst d_La_make_2 rfl ⟨by decide, by decide⟩ ?_
  refine ev_aload_n (i := 0) d_La_make_3 rfl rfl rfl ?_
  refine ev_iload_n (i := 1) d_La_make_4 rfl rfl rfl ?_
  refine ev_iload_n (i := 2) d_La_make_5 rfl rfl rfl ?_
  refine ev_iload_n (i := 3) d_La_make_6 rfl rfl rfl ?_
  refine ev_iload (i := 4) d_La_make_7 rfl rfl ?_
  refine ev_callV (As := [g_i p0, g_i p1, g_i p2, g_i p3]) d_La_make_9 rfl cl_La_24 h (g_hR (by decide)) g_h0 lx_0 rfl rfl (by decide) rfl rfl ?_
  refine ev_i2l d_La_make_12 rfl ?_
  refine ev_lastore d_La_make_13 rfl lx_77 (by decide) (by decide) ?_
  refine ev_goto (tgt := 25) d_La_make_14 (by decide) ?_
  refine ev_iconst d_La_make_25 rfl ⟨by decide, by decide⟩ ?_
  exact ev_retI d_La_make_26 rfl rfl (Or.inl rfl)
theorem cw_make_1 (d : Nat) (M M' : g_M) (p0 p1 p2 p3 : Int) (h : CoX y_Fu_make w_Fu_make (g_ra d 1 6) LX M [g_r 0, g_i p0, g_i p1, g_i p2, g_i p3] M' x_E1) : ConL y_La_make ww_La_make (g_ra (d + 1) 1 6) LX M [g_r 0, g_i p0, g_i p1, g_i p2, g_i p3, g_r 77] LX M' (some (g_i 1)) := by
  refine conW_of (av := [g_r 0, g_i p0, g_i p1, g_i p2, g_i p3, g_r 77]) (ls0 := [some (g_r 0), some (g_i p0), some (g_i p1), some (g_i p2), some (g_i p3), some (g_r 77), none]) (by decide) rfl (Nat.le_of_ble_eq_true rfl) (g_hls (av := [g_r 0, g_i p0, g_i p1, g_i p2, g_i p3, g_r 77]) (k := 1)) (fun _ h9 => List.mem_cons_of_mem _ h9) ?_
  refine ev_aload (i := 5) d_La_make_0 rfl rfl ?_
  refine ev_iconst d_La_make_2 rfl ⟨by decide, by decide⟩ ?_
  refine ev_aload_n (i := 0) d_La_make_3 rfl rfl rfl ?_
  refine ev_iload_n (i := 1) d_La_make_4 rfl rfl rfl ?_
  refine ev_iload_n (i := 2) d_La_make_5 rfl rfl rfl ?_
  refine ev_iload_n (i := 3) d_La_make_6 rfl rfl rfl ?_
  refine ev_iload (i := 4) d_La_make_7 rfl rfl ?_
  refine ev_callVX (As := [g_i p0, g_i p1, g_i p2, g_i p3]) d_La_make_9 rfl (Or.inl ⟨0, 14, 13, _, rfl, by decide, by decide, by decide, gm_459, by decide +kernel⟩) cl_La_24 h (g_hR (by decide)) ⟨Nat.le_refl _, Nat.le_refl _⟩ lx_0 rfl rfl (by decide) (fun x => ?_)
  refine ev_astoreO (i := 6) d_La_make_17 rfl (by decide) rfl ?_
  refine ev_iconst d_La_make_19 rfl ⟨by decide, by decide⟩ ?_
  exact ev_retI d_La_make_20 rfl rfl (Or.inl rfl)
theorem cw_make_2 (d : Nat) (M M' : g_M) (p0 p1 p2 p3 : Int) (h : CoX y_Fu_make w_Fu_make (g_ra d 1 6) LX M [g_r 0, g_i p0, g_i p1, g_i p2, g_i p3] M' x_E2) : ConL y_La_make ww_La_make (g_ra (d + 1) 1 6) LX M [g_r 0, g_i p0, g_i p1, g_i p2, g_i p3, g_r 77] LX M' (some (g_i 2)) := by
  refine conW_of (av := [g_r 0, g_i p0, g_i p1, g_i p2, g_i p3, g_r 77]) (ls0 := [some (g_r 0), some (g_i p0), some (g_i p1), some (g_i p2), some (g_i p3), some (g_r 77), none]) (by decide) rfl (Nat.le_of_ble_eq_true rfl) (g_hls (av := [g_r 0, g_i p0, g_i p1, g_i p2, g_i p3, g_r 77]) (k := 1)) (fun _ h9 => List.mem_cons_of_mem _ h9) ?_
  refine ev_aload (i := 5) d_La_make_0 rfl rfl ?_
  refine ev_iconst d_La_make_2 rfl ⟨by decide, by decide⟩ ?_
  refine ev_aload_n (i := 0) d_La_make_3 rfl rfl rfl ?_
  refine ev_iload_n (i := 1) d_La_make_4 rfl rfl rfl ?_
  refine ev_iload_n (i := 2) d_La_make_5 rfl rfl rfl ?_
  refine ev_iload_n (i := 3) d_La_make_6 rfl rfl rfl ?_
  refine ev_iload (i := 4) d_La_make_7 rfl rfl ?_
  refine ev_callVX (As := [g_i p0, g_i p1, g_i p2, g_i p3]) d_La_make_9 rfl (Or.inr ⟨0, 14, 15, 0, 14, 17, 13, x_E1, _, rfl, ⟨by decide, by decide, by decide, gm_460, by decide +kernel⟩, by decide, by decide, by decide, gm_459, by decide +kernel⟩) cl_La_24 h (g_hR (by decide)) ⟨Nat.le_refl _, Nat.le_refl _⟩ lx_0 rfl rfl (by decide) (fun x => ?_)
  refine ev_astoreO (i := 6) d_La_make_21 rfl (by decide) rfl ?_
  refine ev_iconst d_La_make_23 rfl ⟨by decide, by decide⟩ ?_
  exact ev_retI d_La_make_24 rfl rfl (Or.inl rfl)
abbrev ww_La_call : List Cond := Cond.codeWith y_La_call b_La_call 7 (some .int) [(0, 14, 17, 13), (0, 14, 21, 15)] :: gw
theorem gh_La_call : (Cond.codeWith y_La_call b_La_call 7 (some .int) [(0, 14, 17, 13), (0, 14, 21, 15)] : Cond) ∈ gw := gw_of (List.mem_append_right _ (List.mem_append_right _ (List.mem_append_right _ (List.mem_append_left _ (List.mem_of_getElem? (i := 15) (by decide +kernel)))))) rfl
theorem cl_La_69 : g_CW R_La 69 y_La_call ww_La_call 6 7 := ⟨⟨_, _, _, _, rfl⟩, g_gd (g_cons gh_La_call), ⟨by decide +kernel, by decide +kernel, by decide +kernel⟩, gm_531, gm_0, gm_530⟩
theorem cw_call_r (d : Nat) (M M' : g_M) (p0 p1 p2 p3 r : Int) (h : Con y_Fu_call w_Fu_call (g_rm d) LX M [g_r 0, g_i p0, g_i p1, g_i p2, g_i p3] LX M' (some (g_i r))) : ConL y_La_call ww_La_call (g_rm (d + 1)) LX M [g_r 0, g_i p0, g_i p1, g_i p2, g_i p3, g_r 77] LX (g_up M' 77 0 r) (some (g_i 0)) := by
  refine conW_of (av := [g_r 0, g_i p0, g_i p1, g_i p2, g_i p3, g_r 77]) (ls0 := [some (g_r 0), some (g_i p0), some (g_i p1), some (g_i p2), some (g_i p3), some (g_r 77), none]) (by decide) rfl (Nat.le_of_ble_eq_true rfl) (g_hls (av := [g_r 0, g_i p0, g_i p1, g_i p2, g_i p3, g_r 77]) (k := 1)) (fun _ h9 => List.mem_cons_of_mem _ h9) ?_
  refine ev_aload (i := 5) d_La_call_0 rfl rfl ?_
  refine ev_iconst d_La_call_2 rfl ⟨by decide, by decide⟩ ?_
  refine ev_aload_n (i := 0) d_La_call_3 rfl rfl rfl ?_
  refine ev_iload_n (i := 1) d_La_call_4 rfl rfl rfl ?_
  refine ev_iload_n (i := 2) d_La_call_5 rfl rfl rfl ?_
  refine ev_iload_n (i := 3) d_La_call_6 rfl rfl rfl ?_
  refine ev_iload (i := 4) d_La_call_7 rfl rfl ?_
  refine ev_callV (As := [g_i p0, g_i p1, g_i p2, g_i p3]) d_La_call_9 rfl cl_La_27 h (g_hR (by decide)) g_h0 lx_0 rfl rfl (by decide) rfl rfl ?_
  refine ev_i2l d_La_call_12 rfl ?_
  refine ev_lastore d_La_call_13 rfl lx_77 (by decide) (by decide) ?_
  refine ev_goto (tgt := 25) d_La_call_14 (by decide) ?_
  refine ev_iconst d_La_call_25 rfl ⟨by decide, by decide⟩ ?_
  exact ev_retI d_La_call_26 rfl rfl (Or.inl rfl)
theorem cw_call_1 (d : Nat) (M M' : g_M) (p0 p1 p2 p3 : Int) (h : CoX y_Fu_call w_Fu_call (g_ra d 1 6) LX M [g_r 0, g_i p0, g_i p1, g_i p2, g_i p3] M' x_E1) : ConL y_La_call ww_La_call (g_ra (d + 1) 1 6) LX M [g_r 0, g_i p0, g_i p1, g_i p2, g_i p3, g_r 77] LX M' (some (g_i 1)) := by
  refine conW_of (av := [g_r 0, g_i p0, g_i p1, g_i p2, g_i p3, g_r 77]) (ls0 := [some (g_r 0), some (g_i p0), some (g_i p1), some (g_i p2), some (g_i p3), some (g_r 77), none]) (by decide) rfl (Nat.le_of_ble_eq_true rfl) (g_hls (av := [g_r 0, g_i p0, g_i p1, g_i p2, g_i p3, g_r 77]) (k := 1)) (fun _ h9 => List.mem_cons_of_mem _ h9) ?_
  refine ev_aload (i := 5) d_La_call_0 rfl rfl ?_
  refine ev_iconst d_La_call_2 rfl ⟨by decide, by decide⟩ ?_
  refine ev_aload_n (i := 0) d_La_call_3 rfl rfl rfl ?_
  refine ev_iload_n (i := 1) d_La_call_4 rfl rfl rfl ?_
  refine ev_iload_n (i := 2) d_La_call_5 rfl rfl rfl ?_
  refine ev_iload_n (i := 3) d_La_call_6 rfl rfl rfl ?_
  refine ev_iload (i := 4) d_La_call_7 rfl rfl ?_
  refine ev_callVX (As := [g_i p0, g_i p1, g_i p2, g_i p3]) d_La_call_9 rfl (Or.inl ⟨0, 14, 13, _, rfl, by decide, by decide, by decide, gm_459, by decide +kernel⟩) cl_La_27 h (g_hR (by decide)) ⟨Nat.le_refl _, Nat.le_refl _⟩ lx_0 rfl rfl (by decide) (fun x => ?_)
  refine ev_astoreO (i := 6) d_La_call_17 rfl (by decide) rfl ?_
  refine ev_iconst d_La_call_19 rfl ⟨by decide, by decide⟩ ?_
  exact ev_retI d_La_call_20 rfl rfl (Or.inl rfl)
theorem cw_call_2 (d : Nat) (M M' : g_M) (p0 p1 p2 p3 : Int) (h : CoX y_Fu_call w_Fu_call (g_ra d 1 6) LX M [g_r 0, g_i p0, g_i p1, g_i p2, g_i p3] M' x_E2) : ConL y_La_call ww_La_call (g_ra (d + 1) 1 6) LX M [g_r 0, g_i p0, g_i p1, g_i p2, g_i p3, g_r 77] LX M' (some (g_i 2)) := by
  refine conW_of (av := [g_r 0, g_i p0, g_i p1, g_i p2, g_i p3, g_r 77]) (ls0 := [some (g_r 0), some (g_i p0), some (g_i p1), some (g_i p2), some (g_i p3), some (g_r 77), none]) (by decide) rfl (Nat.le_of_ble_eq_true rfl) (g_hls (av := [g_r 0, g_i p0, g_i p1, g_i p2, g_i p3, g_r 77]) (k := 1)) (fun _ h9 => List.mem_cons_of_mem _ h9) ?_
  refine ev_aload (i := 5) d_La_call_0 rfl rfl ?_
  refine ev_iconst d_La_call_2 rfl ⟨by decide, by decide⟩ ?_
  refine ev_aload_n (i := 0) d_La_call_3 rfl rfl rfl ?_
  refine ev_iload_n (i := 1) d_La_call_4 rfl rfl rfl ?_
  refine ev_iload_n (i := 2) d_La_call_5 rfl rfl rfl ?_
  refine ev_iload_n (i := 3) d_La_call_6 rfl rfl rfl ?_
  refine ev_iload (i := 4) d_La_call_7 rfl rfl ?_
  refine ev_callVX (As := [g_i p0, g_i p1, g_i p2, g_i p3]) d_La_call_9 rfl (Or.inr ⟨0, 14, 15, 0, 14, 17, 13, x_E1, _, rfl, ⟨by decide, by decide, by decide, gm_460, by decide +kernel⟩, by decide, by decide, by decide, gm_459, by decide +kernel⟩) cl_La_27 h (g_hR (by decide)) ⟨Nat.le_refl _, Nat.le_refl _⟩ lx_0 rfl rfl (by decide) (fun x => ?_)
  refine ev_astoreO (i := 6) d_La_call_21 rfl (by decide) rfl ?_
  refine ev_iconst d_La_call_23 rfl ⟨by decide, by decide⟩ ?_
  exact ev_retI d_La_call_24 rfl rfl (Or.inl rfl)
abbrev ww_La_clause : List Cond := Cond.codeWith y_La_clause b_La_clause 8 (some .int) [(0, 16, 19, 13), (0, 16, 23, 15)] :: gw
theorem gh_La_clause : (Cond.codeWith y_La_clause b_La_clause 8 (some .int) [(0, 16, 19, 13), (0, 16, 23, 15)] : Cond) ∈ gw := gw_of (List.mem_append_right _ (List.mem_append_right _ (List.mem_append_right _ (List.mem_append_left _ (List.mem_of_getElem? (i := 27) (by decide +kernel)))))) rfl
theorem cl_La_72 : g_CW R_La 72 y_La_clause ww_La_clause 7 8 := ⟨⟨_, _, _, _, rfl⟩, g_gd (g_cons gh_La_clause), ⟨by decide +kernel, by decide +kernel, by decide +kernel⟩, gm_541, gm_0, gm_540⟩
theorem cw_clause_r (d : Nat) (M M' : g_M) (p0 p1 p2 p3 p4 r : Int) (h : Con y_Fu_clause w_Fu_clause (g_rm d) LX M [g_r 0, g_i p0, g_i p1, g_i p2, g_i p3, g_i p4] LX M' (some (g_i r))) : ConL y_La_clause ww_La_clause (g_rm (d + 1)) LX M [g_r 0, g_i p0, g_i p1, g_i p2, g_i p3, g_i p4, g_r 77] LX (g_up M' 77 0 r) (some (g_i 0)) := by
  refine conW_of (av := [g_r 0, g_i p0, g_i p1, g_i p2, g_i p3, g_i p4, g_r 77]) (ls0 := [some (g_r 0), some (g_i p0), some (g_i p1), some (g_i p2), some (g_i p3), some (g_i p4), some (g_r 77), none]) (by decide) rfl (Nat.le_of_ble_eq_true rfl) (g_hls (av := [g_r 0, g_i p0, g_i p1, g_i p2, g_i p3, g_i p4, g_r 77]) (k := 1)) (fun _ h9 => List.mem_cons_of_mem _ h9) ?_
  refine ev_aload (i := 6) d_La_clause_0 rfl rfl ?_
  refine ev_iconst d_La_clause_2 rfl ⟨by decide, by decide⟩ ?_
  refine ev_aload_n (i := 0) d_La_clause_3 rfl rfl rfl ?_
  refine ev_iload_n (i := 1) d_La_clause_4 rfl rfl rfl ?_
  refine ev_iload_n (i := 2) d_La_clause_5 rfl rfl rfl ?_
  refine ev_iload_n (i := 3) d_La_clause_6 rfl rfl rfl ?_
  refine ev_iload (i := 4) d_La_clause_7 rfl rfl ?_
  refine ev_iload (i := 5) d_La_clause_9 rfl rfl ?_
  refine ev_callV (As := [g_i p0, g_i p1, g_i p2, g_i p3, g_i p4]) d_La_clause_11 rfl cl_La_30 h (g_hR (by decide)) g_h0 lx_0 rfl rfl (by decide) rfl rfl ?_
  refine ev_i2l d_La_clause_14 rfl ?_
  refine ev_lastore d_La_clause_15 rfl lx_77 (by decide) (by decide) ?_
  refine ev_goto (tgt := 27) d_La_clause_16 (by decide) ?_
  refine ev_iconst d_La_clause_27 rfl ⟨by decide, by decide⟩ ?_
  exact ev_retI d_La_clause_28 rfl rfl (Or.inl rfl)
theorem cw_clause_1 (d : Nat) (M M' : g_M) (p0 p1 p2 p3 p4 : Int) (h : CoX y_Fu_clause w_Fu_clause (g_ra d 1 6) LX M [g_r 0, g_i p0, g_i p1, g_i p2, g_i p3, g_i p4] M' x_E1) : ConL y_La_clause ww_La_clause (g_ra (d + 1) 1 6) LX M [g_r 0, g_i p0, g_i p1, g_i p2, g_i p3, g_i p4, g_r 77] LX M' (some (g_i 1)) := by
  refine conW_of (av := [g_r 0, g_i p0, g_i p1, g_i p2, g_i p3, g_i p4, g_r 77]) (ls0 := [some (g_r 0), some (g_i p0), some (g_i p1), some (g_i p2), some (g_i p3), some (g_i p4), some (g_r 77), none]) (by decide) rfl (Nat.le_of_ble_eq_true rfl) (g_hls (av := [g_r 0, g_i p0, g_i p1, g_i p2, g_i p3, g_i p4, g_r 77]) (k := 1)) (fun _ h9 => List.mem_cons_of_mem _ h9) ?_
  refine ev_aload (i := 6) d_La_clause_0 rfl rfl ?_
  refine ev_iconst d_La_clause_2 rfl ⟨by decide, by decide⟩ ?_
  refine ev_aload_n (i := 0) d_La_clause_3 rfl rfl rfl ?_
  refine ev_iload_n (i := 1) d_La_clause_4 rfl rfl rfl ?_
  refine ev_iload_n (i := 2) d_La_clause_5 rfl rfl rfl ?_
  refine ev_iload_n (i := 3) d_La_clause_6 rfl rfl rfl ?_
  refine ev_iload (i := 4) d_La_clause_7 rfl rfl ?_
  refine ev_iload (i := 5) d_La_clause_9 rfl rfl ?_
  refine ev_callVX (As := [g_i p0, g_i p1, g_i p2, g_i p3, g_i p4]) d_La_clause_11 rfl (Or.inl ⟨0, 16, 13, _, rfl, by decide, by decide, by decide, gm_459, by decide +kernel⟩) cl_La_30 h (g_hR (by decide)) ⟨Nat.le_refl _, Nat.le_refl _⟩ lx_0 rfl rfl (by decide) (fun x => ?_)
  refine ev_astoreO (i := 7) d_La_clause_19 rfl (by decide) rfl ?_
  refine ev_iconst d_La_clause_21 rfl ⟨by decide, by decide⟩ ?_
  exact ev_retI d_La_clause_22 rfl rfl (Or.inl rfl)
theorem cw_clause_2 (d : Nat) (M M' : g_M) (p0 p1 p2 p3 p4 : Int) (h : CoX y_Fu_clause w_Fu_clause (g_ra d 1 6) LX M [g_r 0, g_i p0, g_i p1, g_i p2, g_i p3, g_i p4] M' x_E2) : ConL y_La_clause ww_La_clause (g_ra (d + 1) 1 6) LX M [g_r 0, g_i p0, g_i p1, g_i p2, g_i p3, g_i p4, g_r 77] LX M' (some (g_i 2)) := by
  refine conW_of (av := [g_r 0, g_i p0, g_i p1, g_i p2, g_i p3, g_i p4, g_r 77]) (ls0 := [some (g_r 0), some (g_i p0), some (g_i p1), some (g_i p2), some (g_i p3), some (g_i p4), some (g_r 77), none]) (by decide) rfl (Nat.le_of_ble_eq_true rfl) (g_hls (av := [g_r 0, g_i p0, g_i p1, g_i p2, g_i p3, g_i p4, g_r 77]) (k := 1)) (fun _ h9 => List.mem_cons_of_mem _ h9) ?_
  refine ev_aload (i := 6) d_La_clause_0 rfl rfl ?_
  refine ev_iconst d_La_clause_2 rfl ⟨by decide, by decide⟩ ?_
  refine ev_aload_n (i := 0) d_La_clause_3 rfl rfl rfl ?_
  refine ev_iload_n (i := 1) d_La_clause_4 rfl rfl rfl ?_
  refine ev_iload_n (i := 2) d_La_clause_5 rfl rfl rfl ?_
  refine ev_iload_n (i := 3) d_La_clause_6 rfl rfl rfl ?_
  refine ev_iload (i := 4) d_La_clause_7 rfl rfl ?_
  refine ev_iload (i := 5) d_La_clause_9 rfl rfl ?_
  refine ev_callVX (As := [g_i p0, g_i p1, g_i p2, g_i p3, g_i p4]) d_La_clause_11 rfl (Or.inr ⟨0, 16, 15, 0, 16, 19, 13, x_E1, _, rfl, ⟨by decide, by decide, by decide, gm_460, by decide +kernel⟩, by decide, by decide, by decide, gm_459, by decide +kernel⟩) cl_La_30 h (g_hR (by decide)) ⟨Nat.le_refl _, Nat.le_refl _⟩ lx_0 rfl rfl (by decide) (fun x => ?_)
  refine ev_astoreO (i := 7) d_La_clause_23 rfl (by decide) rfl ?_
  refine ev_iconst d_La_clause_25 rfl ⟨by decide, by decide⟩ ?_
  exact ev_retI d_La_clause_26 rfl rfl (Or.inl rfl)
abbrev ww_La_arc : List Cond := Cond.codeWith y_La_arc b_La_arc 7 (some .int) [(0, 14, 17, 13)] :: gw
theorem gh_La_arc : (Cond.codeWith y_La_arc b_La_arc 7 (some .int) [(0, 14, 17, 13)] : Cond) ∈ gw := gw_of (List.mem_append_right _ (List.mem_append_right _ (List.mem_append_right _ (List.mem_append_left _ (List.mem_of_getElem? (i := 59) (by decide +kernel)))))) rfl
theorem cl_La_84 : g_CW R_La 84 y_La_arc ww_La_arc 6 7 := ⟨⟨_, _, _, _, rfl⟩, g_gd (g_cons gh_La_arc), ⟨by decide +kernel, by decide +kernel, by decide +kernel⟩, gm_569, gm_0, gm_568⟩
theorem cw_arc_r (d : Nat) (M M' : g_M) (p0 p1 p2 p3 r : Int) (h : Con y_Fu_arc w_Fu_arc (g_rm d) LX M [g_r 0, g_i p0, g_i p1, g_i p2, g_i p3] LX M' (some (g_i r))) : ConL y_La_arc ww_La_arc (g_rm (d + 1)) LX M [g_r 0, g_i p0, g_i p1, g_i p2, g_i p3, g_r 77] LX (g_up M' 77 0 r) (some (g_i 0)) := by
  refine conW_of (av := [g_r 0, g_i p0, g_i p1, g_i p2, g_i p3, g_r 77]) (ls0 := [some (g_r 0), some (g_i p0), some (g_i p1), some (g_i p2), some (g_i p3), some (g_r 77), none]) (by decide) rfl (Nat.le_of_ble_eq_true rfl) (g_hls (av := [g_r 0, g_i p0, g_i p1, g_i p2, g_i p3, g_r 77]) (k := 1)) (fun _ h9 => List.mem_cons_of_mem _ h9) ?_
  refine ev_aload (i := 5) d_La_arc_0 rfl rfl ?_
  refine ev_iconst d_La_arc_2 rfl ⟨by decide, by decide⟩ ?_
  refine ev_aload_n (i := 0) d_La_arc_3 rfl rfl rfl ?_
  refine ev_iload_n (i := 1) d_La_arc_4 rfl rfl rfl ?_
  refine ev_iload_n (i := 2) d_La_arc_5 rfl rfl rfl ?_
  refine ev_iload_n (i := 3) d_La_arc_6 rfl rfl rfl ?_
  refine ev_iload (i := 4) d_La_arc_7 rfl rfl ?_
  refine ev_callV (As := [g_i p0, g_i p1, g_i p2, g_i p3]) d_La_arc_9 rfl cl_La_34 h (g_hR (by decide)) g_h0 lx_0 rfl rfl (by decide) rfl rfl ?_
  refine ev_i2l d_La_arc_12 rfl ?_
  refine ev_lastore d_La_arc_13 rfl lx_77 (by decide) (by decide) ?_
  refine ev_goto (tgt := 21) d_La_arc_14 (by decide) ?_
  refine ev_iconst d_La_arc_21 rfl ⟨by decide, by decide⟩ ?_
  exact ev_retI d_La_arc_22 rfl rfl (Or.inl rfl)
theorem cw_arc_1 (d : Nat) (M M' : g_M) (p0 p1 p2 p3 : Int) (h : CoX y_Fu_arc w_Fu_arc (g_ra d 1 6) LX M [g_r 0, g_i p0, g_i p1, g_i p2, g_i p3] M' x_E1) : ConL y_La_arc ww_La_arc (g_ra (d + 1) 1 6) LX M [g_r 0, g_i p0, g_i p1, g_i p2, g_i p3, g_r 77] LX M' (some (g_i 1)) := by
  refine conW_of (av := [g_r 0, g_i p0, g_i p1, g_i p2, g_i p3, g_r 77]) (ls0 := [some (g_r 0), some (g_i p0), some (g_i p1), some (g_i p2), some (g_i p3), some (g_r 77), none]) (by decide) rfl (Nat.le_of_ble_eq_true rfl) (g_hls (av := [g_r 0, g_i p0, g_i p1, g_i p2, g_i p3, g_r 77]) (k := 1)) (fun _ h9 => List.mem_cons_of_mem _ h9) ?_
  refine ev_aload (i := 5) d_La_arc_0 rfl rfl ?_
  refine ev_iconst d_La_arc_2 rfl ⟨by decide, by decide⟩ ?_
  refine ev_aload_n (i := 0) d_La_arc_3 rfl rfl rfl ?_
  refine ev_iload_n (i := 1) d_La_arc_4 rfl rfl rfl ?_
  refine ev_iload_n (i := 2) d_La_arc_5 rfl rfl rfl ?_
  refine ev_iload_n (i := 3) d_La_arc_6 rfl rfl rfl ?_
  refine ev_iload (i := 4) d_La_arc_7 rfl rfl ?_
  refine ev_callVX (As := [g_i p0, g_i p1, g_i p2, g_i p3]) d_La_arc_9 rfl (Or.inl ⟨0, 14, 13, _, rfl, by decide, by decide, by decide, gm_459, by decide +kernel⟩) cl_La_34 h (g_hR (by decide)) ⟨Nat.le_refl _, Nat.le_refl _⟩ lx_0 rfl rfl (by decide) (fun x => ?_)
  refine ev_astoreO (i := 6) d_La_arc_17 rfl (by decide) rfl ?_
  refine ev_iconst d_La_arc_19 rfl ⟨by decide, by decide⟩ ?_
  exact ev_retI d_La_arc_20 rfl rfl (Or.inl rfl)
abbrev ww_La_run : List Cond := Cond.codeWith y_La_run b_La_run 7 (some .int) [(0, 14, 17, 15), (0, 14, 21, 13)] :: gw
theorem gh_La_run : (Cond.codeWith y_La_run b_La_run 7 (some .int) [(0, 14, 17, 15), (0, 14, 21, 13)] : Cond) ∈ gw := gw_of (List.mem_append_right _ (List.mem_append_right _ (List.mem_append_right _ (List.mem_append_left _ (List.mem_of_getElem? (i := 82) (by decide +kernel)))))) rfl
theorem cl_La_92 : g_CW R_La 92 y_La_run ww_La_run 6 7 := ⟨⟨_, _, _, _, rfl⟩, g_gd (g_cons gh_La_run), ⟨by decide +kernel, by decide +kernel, by decide +kernel⟩, gm_588, gm_0, gm_587⟩
theorem cw_run_r (d : Nat) (M M' : g_M) (p0 p1 p2 p3 r : Int) (h : Con y_Fu_run w_Fu_run (g_rm d) LX M [g_r 0, g_i p0, g_i p1, g_i p2, g_i p3] LX M' (some (g_i r))) : ConL y_La_run ww_La_run (g_rm (d + 1)) LX M [g_r 0, g_i p0, g_i p1, g_i p2, g_i p3, g_r 77] LX (g_up M' 77 0 r) (some (g_i 0)) := by
  refine conW_of (av := [g_r 0, g_i p0, g_i p1, g_i p2, g_i p3, g_r 77]) (ls0 := [some (g_r 0), some (g_i p0), some (g_i p1), some (g_i p2), some (g_i p3), some (g_r 77), none]) (by decide) rfl (Nat.le_of_ble_eq_true rfl) (g_hls (av := [g_r 0, g_i p0, g_i p1, g_i p2, g_i p3, g_r 77]) (k := 1)) (fun _ h9 => List.mem_cons_of_mem _ h9) ?_
  refine ev_aload (i := 5) d_La_run_0 rfl rfl ?_
  refine ev_iconst d_La_run_2 rfl ⟨by decide, by decide⟩ ?_
  refine ev_aload_n (i := 0) d_La_run_3 rfl rfl rfl ?_
  refine ev_iload_n (i := 1) d_La_run_4 rfl rfl rfl ?_
  refine ev_iload_n (i := 2) d_La_run_5 rfl rfl rfl ?_
  refine ev_iload_n (i := 3) d_La_run_6 rfl rfl rfl ?_
  refine ev_iload (i := 4) d_La_run_7 rfl rfl ?_
  refine ev_callV (As := [g_i p0, g_i p1, g_i p2, g_i p3]) d_La_run_9 rfl cl_La_37 h (g_hR (by decide)) g_h0 lx_0 rfl rfl (by decide) rfl rfl ?_
  refine ev_i2l d_La_run_12 rfl ?_
  refine ev_lastore d_La_run_13 rfl lx_77 (by decide) (by decide) ?_
  refine ev_goto (tgt := 25) d_La_run_14 (by decide) ?_
  refine ev_iconst d_La_run_25 rfl ⟨by decide, by decide⟩ ?_
  exact ev_retI d_La_run_26 rfl rfl (Or.inl rfl)
theorem cw_run_1 (d : Nat) (M M' : g_M) (p0 p1 p2 p3 : Int) (h : CoX y_Fu_run w_Fu_run (g_ra d 1 6) LX M [g_r 0, g_i p0, g_i p1, g_i p2, g_i p3] M' x_E2) : ConL y_La_run ww_La_run (g_ra (d + 1) 1 6) LX M [g_r 0, g_i p0, g_i p1, g_i p2, g_i p3, g_r 77] LX M' (some (g_i 1)) := by
  refine conW_of (av := [g_r 0, g_i p0, g_i p1, g_i p2, g_i p3, g_r 77]) (ls0 := [some (g_r 0), some (g_i p0), some (g_i p1), some (g_i p2), some (g_i p3), some (g_r 77), none]) (by decide) rfl (Nat.le_of_ble_eq_true rfl) (g_hls (av := [g_r 0, g_i p0, g_i p1, g_i p2, g_i p3, g_r 77]) (k := 1)) (fun _ h9 => List.mem_cons_of_mem _ h9) ?_
  refine ev_aload (i := 5) d_La_run_0 rfl rfl ?_
  refine ev_iconst d_La_run_2 rfl ⟨by decide, by decide⟩ ?_
  refine ev_aload_n (i := 0) d_La_run_3 rfl rfl rfl ?_
  refine ev_iload_n (i := 1) d_La_run_4 rfl rfl rfl ?_
  refine ev_iload_n (i := 2) d_La_run_5 rfl rfl rfl ?_
  refine ev_iload_n (i := 3) d_La_run_6 rfl rfl rfl ?_
  refine ev_iload (i := 4) d_La_run_7 rfl rfl ?_
  refine ev_callVX (As := [g_i p0, g_i p1, g_i p2, g_i p3]) d_La_run_9 rfl (Or.inl ⟨0, 14, 15, _, rfl, by decide, by decide, by decide, gm_460, by decide +kernel⟩) cl_La_37 h (g_hR (by decide)) ⟨Nat.le_refl _, Nat.le_refl _⟩ lx_0 rfl rfl (by decide) (fun x => ?_)
  refine ev_astoreO (i := 6) d_La_run_17 rfl (by decide) rfl ?_
  refine ev_iconst d_La_run_19 rfl ⟨by decide, by decide⟩ ?_
  exact ev_retI d_La_run_20 rfl rfl (Or.inl rfl)
theorem cw_run_2 (d : Nat) (M M' : g_M) (p0 p1 p2 p3 : Int) (h : CoX y_Fu_run w_Fu_run (g_ra d 1 6) LX M [g_r 0, g_i p0, g_i p1, g_i p2, g_i p3] M' x_E1) : ConL y_La_run ww_La_run (g_ra (d + 1) 1 6) LX M [g_r 0, g_i p0, g_i p1, g_i p2, g_i p3, g_r 77] LX M' (some (g_i 2)) := by
  refine conW_of (av := [g_r 0, g_i p0, g_i p1, g_i p2, g_i p3, g_r 77]) (ls0 := [some (g_r 0), some (g_i p0), some (g_i p1), some (g_i p2), some (g_i p3), some (g_r 77), none]) (by decide) rfl (Nat.le_of_ble_eq_true rfl) (g_hls (av := [g_r 0, g_i p0, g_i p1, g_i p2, g_i p3, g_r 77]) (k := 1)) (fun _ h9 => List.mem_cons_of_mem _ h9) ?_
  refine ev_aload (i := 5) d_La_run_0 rfl rfl ?_
  refine ev_iconst d_La_run_2 rfl ⟨by decide, by decide⟩ ?_
  refine ev_aload_n (i := 0) d_La_run_3 rfl rfl rfl ?_
  refine ev_iload_n (i := 1) d_La_run_4 rfl rfl rfl ?_
  refine ev_iload_n (i := 2) d_La_run_5 rfl rfl rfl ?_
  refine ev_iload_n (i := 3) d_La_run_6 rfl rfl rfl ?_
  refine ev_iload (i := 4) d_La_run_7 rfl rfl ?_
  refine ev_callVX (As := [g_i p0, g_i p1, g_i p2, g_i p3]) d_La_run_9 rfl (Or.inr ⟨0, 14, 13, 0, 14, 17, 15, x_E2, _, rfl, ⟨by decide, by decide, by decide, gm_459, by decide +kernel⟩, by decide, by decide, by decide, gm_460, by decide +kernel⟩) cl_La_37 h (g_hR (by decide)) ⟨Nat.le_refl _, Nat.le_refl _⟩ lx_0 rfl rfl (by decide) (fun x => ?_)
  refine ev_astoreO (i := 6) d_La_run_21 rfl (by decide) rfl ?_
  refine ev_iconst d_La_run_23 rfl ⟨by decide, by decide⟩ ?_
  exact ev_retI d_La_run_24 rfl rfl (Or.inl rfl)
abbrev ww_La_answer : List Cond := Cond.codeWith y_La_answer b_La_answer 4 (some .int) [(0, 9, 12, 43)] :: gw
theorem gh_La_answer : (Cond.codeWith y_La_answer b_La_answer 4 (some .int) [(0, 9, 12, 43)] : Cond) ∈ gw := gw_of (List.mem_append_right _ (List.mem_append_right _ (List.mem_append_right _ (List.mem_append_left _ (List.mem_of_getElem? (i := 181) (by decide +kernel)))))) rfl
theorem cl_La_95 : g_CW R_La 95 y_La_answer ww_La_answer 3 4 := ⟨⟨_, _, _, _, rfl⟩, g_gd (g_cons gh_La_answer), ⟨by decide +kernel, by decide +kernel, by decide +kernel⟩, gm_674, gm_0, gm_673⟩
theorem cw_answer_r (d : Nat) (M M' : g_M) (p0 r : Int) (h : Con y_Fu_answer w_Fu_answer (g_rm d) LX M [g_r 0, g_i p0] LX M' (some (g_i r))) : ConL y_La_answer ww_La_answer (g_rm (d + 1)) LX M [g_r 0, g_i p0, g_r 77] LX (g_up M' 77 0 r) (some (g_i 0)) := by
  refine conW_of (av := [g_r 0, g_i p0, g_r 77]) (ls0 := [some (g_r 0), some (g_i p0), some (g_r 77), none]) (by decide) rfl (Nat.le_of_ble_eq_true rfl) (g_hls (av := [g_r 0, g_i p0, g_r 77]) (k := 1)) (fun _ h9 => List.mem_cons_of_mem _ h9) ?_
  refine ev_aload_n (i := 2) d_La_answer_0 rfl rfl rfl ?_
  refine ev_iconst d_La_answer_1 rfl ⟨by decide, by decide⟩ ?_
  refine ev_aload_n (i := 0) d_La_answer_2 rfl rfl rfl ?_
  refine ev_iload_n (i := 1) d_La_answer_3 rfl rfl rfl ?_
  refine ev_callV (As := [g_i p0]) d_La_answer_4 rfl cl_La_40 h (g_hR (by decide)) g_h0 lx_0 rfl rfl (by decide) rfl rfl ?_
  refine ev_i2l d_La_answer_7 rfl ?_
  refine ev_lastore d_La_answer_8 rfl lx_77 (by decide) (by decide) ?_
  refine ev_goto (tgt := 15) d_La_answer_9 (by decide) ?_
  refine ev_iconst d_La_answer_15 rfl ⟨by decide, by decide⟩ ?_
  exact ev_retI d_La_answer_16 rfl rfl (Or.inl rfl)
theorem cw_answer_1 (d : Nat) (M M' : g_M) (p0 : Int) (h : CoX y_Fu_answer w_Fu_answer (g_ra d 1 6) LX M [g_r 0, g_i p0] M' x_E3) : ConL y_La_answer ww_La_answer (g_ra (d + 1) 1 6) LX M [g_r 0, g_i p0, g_r 77] LX M' (some (g_i 1)) := by
  refine conW_of (av := [g_r 0, g_i p0, g_r 77]) (ls0 := [some (g_r 0), some (g_i p0), some (g_r 77), none]) (by decide) rfl (Nat.le_of_ble_eq_true rfl) (g_hls (av := [g_r 0, g_i p0, g_r 77]) (k := 1)) (fun _ h9 => List.mem_cons_of_mem _ h9) ?_
  refine ev_aload_n (i := 2) d_La_answer_0 rfl rfl rfl ?_
  refine ev_iconst d_La_answer_1 rfl ⟨by decide, by decide⟩ ?_
  refine ev_aload_n (i := 0) d_La_answer_2 rfl rfl rfl ?_
  refine ev_iload_n (i := 1) d_La_answer_3 rfl rfl rfl ?_
  refine ev_callVX (As := [g_i p0]) d_La_answer_4 rfl (Or.inl ⟨0, 9, 43, _, rfl, by decide, by decide, by decide, gm_675, by decide +kernel⟩) cl_La_40 h (g_hR (by decide)) ⟨Nat.le_refl _, Nat.le_refl _⟩ lx_0 rfl rfl (by decide) (fun x => ?_)
  refine ev_astore_nO (i := 3) d_La_answer_12 rfl rfl (by decide) rfl ?_
  refine ev_iconst d_La_answer_13 rfl ⟨by decide, by decide⟩ ?_
  exact ev_retI d_La_answer_14 rfl rfl (Or.inl rfl)
