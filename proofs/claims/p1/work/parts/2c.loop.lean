theorem nl_La_8 : g_Nl R_La 8 0 R_Fu T_Fu 10 [some none, some none, some none, some none, some none, some none, some none, some none, none, none] := ⟨rfl, uw_Fu, gm_12, gm_13, gm_1, rfl, t_Fu, t_Fu_ok, by decide +kernel⟩
theorem nl_La_46 : g_Nl R_La 46 9 R_Mo T_Mo 45 [none, some none, some none, some none, none, some none, some none, some none, none, some none, some none, some none, some none, none, some none, some none, some none, none, none, some none, some none, some none, none, some none, some none, some none, some none, some none, some none, none, some none, some none, some none, none, none, none, some none, some none, none, some none, some none, some none, none, some none, none] := ⟨rfl, uw_Mo, gm_689, gm_690, gm_10, rfl, t_Mo, t_Mo_ok, by decide +kernel⟩
/-- one turn: the call numbered op with these numbers leads from the memory M to M', and the two answers agree -/
def l_S (op a1 a2 a3 a4 a5 : Int) (M M' : g_M) (c s : Nat) : Prop := (op = 0 ∧ ∃ (M1 : g_M) (k r : Int), (ConL y_La_constructor ww_La_constructor (g_ra 2047 c s) LX M [g_r 0, g_i a1, g_i a2, g_i a3, g_i a4, g_r 77] LX M1 (some (g_i k))) ∧ (Con y_Mo_constructor w_Mo_constructor (g_rm 2047) LX M1 [g_r 45, g_i a1, g_i a2, g_i a3, g_i a4] LX M' (some (g_i r))) ∧ ((M' 45 44) = k) ∧ (k = 0 → M' 77 0 = r)) ∨ (op = 1 ∧ ∃ (M1 : g_M) (k r : Int), (ConL y_La_function ww_La_function (g_ra 2047 c s) LX M [g_r 0, g_i a1, g_i a2, g_i a3, g_i a4, g_r 77] LX M1 (some (g_i k))) ∧ (Con y_Mo_function w_Mo_function (g_rm 2047) LX M1 [g_r 45, g_i a1, g_i a2, g_i a3, g_i a4] LX M' (some (g_i r))) ∧ ((M' 45 44) = k) ∧ (k = 0 → M' 77 0 = r)) ∨ (op = 2 ∧ ∃ (M1 : g_M) (k r : Int), (ConL y_La_variable ww_La_variable (g_ra 2047 c s) LX M [g_r 0, g_i a1, g_r 77] LX M1 (some (g_i k))) ∧ (Con y_Mo_variable w_Mo_variable (g_rm 2047) LX M1 [g_r 45, g_i a1] LX M' (some (g_i r))) ∧ ((M' 45 44) = k) ∧ (k = 0 → M' 77 0 = r)) ∨ (op = 3 ∧ ∃ (M1 : g_M) (k r : Int), (ConL y_La_make ww_La_make (g_ra 2047 c s) LX M [g_r 0, g_i a1, g_i a2, g_i a3, g_i a4, g_r 77] LX M1 (some (g_i k))) ∧ (Con y_Mo_make w_Mo_make (g_rm 2047) LX M1 [g_r 45, g_i a1, g_i a2, g_i a3, g_i a4] LX M' (some (g_i r))) ∧ ((M' 45 44) = k) ∧ (k = 0 → M' 77 0 = r)) ∨ (op = 4 ∧ ∃ (M1 : g_M) (k r : Int), (ConL y_La_call ww_La_call (g_ra 2047 c s) LX M [g_r 0, g_i a1, g_i a2, g_i a3, g_i a4, g_r 77] LX M1 (some (g_i k))) ∧ (Con y_Mo_call w_Mo_call (g_rm 2047) LX M1 [g_r 45, g_i a1, g_i a2, g_i a3, g_i a4] LX M' (some (g_i r))) ∧ ((M' 45 44) = k) ∧ (k = 0 → M' 77 0 = r)) ∨ (op = 5 ∧ ∃ (M1 : g_M) (k r : Int), (ConL y_La_clause ww_La_clause (g_ra 2047 c s) LX M [g_r 0, g_i a1, g_i a2, g_i a3, g_i a4, g_i a5, g_r 77] LX M1 (some (g_i k))) ∧ (Con y_Mo_clause w_Mo_clause (g_rm 2047) LX M1 [g_r 45, g_i a1, g_i a2, g_i a3, g_i a4, g_i a5] LX M' (some (g_i r))) ∧ ((M' 45 44) = k) ∧ (k = 0 → M' 77 0 = r)) ∨ (op = 6 ∧ (c = 0 ∧ s = 0) ∧ ∃ (M1 : g_M) (k r : Int), (Con y_Fu_check w_Fu_check (g_rm 2047) LX M [g_r 0] LX M1 (some (g_i k))) ∧ (Con y_Mo_check w_Mo_check (g_rm 2047) LX M1 [g_r 45] LX M' (some (g_i r))) ∧ (k = r)) ∨ (op = 7 ∧ (c = 0 ∧ s = 0) ∧ ∃ (M1 : g_M) (k r : Int), (Con y_Fu_graphs w_Fu_graphs (g_rm 2047) LX M [g_r 0] LX M1 (some (g_i k))) ∧ (Con y_Mo_graphs w_Mo_graphs (g_rm 2047) LX M1 [g_r 45] LX M' (some (g_i r))) ∧ (k = r)) ∨ (op = 8 ∧ ∃ (M1 : g_M) (k r : Int), (ConL y_La_arc ww_La_arc (g_ra 2047 c s) LX M [g_r 0, g_i a1, g_i a2, g_i a3, g_i a4, g_r 77] LX M1 (some (g_i k))) ∧ (Con y_Mo_arc w_Mo_arc (g_rm 2047) LX M1 [g_r 45, g_i a1, g_i a2, g_i a3, g_i a4] LX M' (some (g_i r))) ∧ ((M' 45 44) = k) ∧ (k = 0 → M' 77 0 = r)) ∨ (op = 9 ∧ (c = 0 ∧ s = 0) ∧ ∃ (M1 : g_M) (k r : Int), (Con y_Fu_isValue w_Fu_isValue (g_rm 2047) LX M [g_r 0, g_i a1, g_i a2] LX M1 (some (g_i k))) ∧ (Con y_Mo_isValue w_Mo_isValue (g_rm 2047) LX M1 [g_r 45, g_i a1, g_i a2] LX M' (some (g_i r))) ∧ (k = r)) ∨ (op = 10 ∧ ∃ (M1 : g_M) (k r : Int), (ConL y_La_run ww_La_run (g_ra 2047 c s) LX M [g_r 0, g_i a1, g_i a2, g_i a3, g_i a4, g_r 77] LX M1 (some (g_i k))) ∧ (Con y_Mo_run w_Mo_run (g_rm 2047) LX M1 [g_r 45, g_i a1, g_i a2, g_i a3, g_i a4] LX M' (some (g_i r))) ∧ ((M' 45 44) = k) ∧ (k = 0 → M' 77 0 = r)) ∨ (op = 11 ∧ ∃ (M1 : g_M) (k r : Int), (ConL y_La_answer ww_La_answer (g_ra 2047 c s) LX M [g_r 0, g_i a1, g_r 77] LX M1 (some (g_i k))) ∧ (Con y_Mo_answer w_Mo_answer (g_rm 2047) LX M1 [g_r 45, g_i a1] LX M' (some (g_i r))) ∧ ((M' 45 44) = k) ∧ (k = 0 → M' 77 0 = r)) ∨ (op = 12 ∧ (c = 0 ∧ s = 0) ∧ ∃ (M1 : g_M) (k r : Int), (Con y_Fu_count w_Fu_count (g_rm 2047) LX M [g_r 0, g_i a1] LX M1 (some (g_i k))) ∧ (Con y_Mo_count w_Mo_count (g_rm 2047) LX M1 [g_r 45, g_i a1] LX M' (some (g_i r))) ∧ (k = r)) ∨ (12 < op ∧ c = 0 ∧ s = 0 ∧ M' = M)
theorem l_and (x : Int32) : ∃ j : Nat, j < 16 ∧ g_b (fun a b => a &&& b) x.toInt 15 = (j : Int) := by
  obtain ⟨j, hj, e⟩ := pk_andE x (m := 15) 4 (by decide +kernel)
  refine ⟨j, hj, ?_⟩
  unfold g_b
  rw [Int32.ofInt_toInt]
  show (x &&& 15).toInt = _
  rw [e]
  exact nI_toInt (by omega)
theorem l_turn {b N : Nat} {xs : Nat → Int32} {Fi : g_Fin} {nc ns c s : Nat} {M M' : g_M} (i : Nat) (hi : i + 6 ≤ N) (hN : N ≤ 3072) (hnc : nc + c ≤ 600002) (hns : ns + s ≤ 7302232)
    (h : l_S (g_b (fun a b => a &&& b) (xs i).toInt 15) (xs (i + 1)).toInt (xs (i + 2)).toInt (xs (i + 3)).toInt (xs (i + 4)).toInt (xs (i + 5)).toInt M M' c s) (kk : Ev (e_law b N xs) room_1 Fi 964 (l_ls b i) [] LX M' (nc + c) (ns + s)) : Ev (e_law b N xs) room_1 Fi 33 (l_ls b i) [] LX M nc ns := by
  obtain ⟨j, hj, hop⟩ := l_and (xs i)
  refine ev_aload_nO (i := 0) d_law_33 rfl rfl rfl ?_
  refine ev_iload (i := 4) d_law_34 rfl rfl ?_
  refine ev_sldN i x_lawS d_law_36 rfl rfl (by omega) ?_
  refine ev_bipush d_law_37 rfl (by decide +kernel) ⟨by decide, by decide⟩ ?_
  refine ev_iand (z := (j : Int)) d_law_39 rfl hop ?_
  rw [hop] at h
  unfold l_S at h
  rcases h with h | h | h | h | h | h | h | h | h | h | h | h | h | h
  · obtain ⟨ho, M1, k, r, h1, h2, h3, h4⟩ := h
    refine ev_tsIn (tgt := 108) d_law_40 (by omega) (by omega) (by rw [show ((j : Int) - 0).toNat = 0 by omega]; rfl) rfl ?_
    exact l_case0 i hi hN M M1 M' k r c s h1 h2 h3 h4 hnc hns kk
  · obtain ⟨ho, M1, k, r, h1, h2, h3, h4⟩ := h
    refine ev_tsIn (tgt := 200) d_law_40 (by omega) (by omega) (by rw [show ((j : Int) - 0).toNat = 1 by omega]; rfl) rfl ?_
    exact l_case1 i hi hN M M1 M' k r c s h1 h2 h3 h4 hnc hns kk
  · obtain ⟨ho, M1, k, r, h1, h2, h3, h4⟩ := h
    refine ev_tsIn (tgt := 292) d_law_40 (by omega) (by omega) (by rw [show ((j : Int) - 0).toNat = 2 by omega]; rfl) rfl ?_
    exact l_case2 i hi hN M M1 M' k r c s h1 h2 h3 h4 hnc hns kk
  · obtain ⟨ho, M1, k, r, h1, h2, h3, h4⟩ := h
    refine ev_tsIn (tgt := 348) d_law_40 (by omega) (by omega) (by rw [show ((j : Int) - 0).toNat = 3 by omega]; rfl) rfl ?_
    exact l_case3 i hi hN M M1 M' k r c s h1 h2 h3 h4 hnc hns kk
  · obtain ⟨ho, M1, k, r, h1, h2, h3, h4⟩ := h
    refine ev_tsIn (tgt := 440) d_law_40 (by omega) (by omega) (by rw [show ((j : Int) - 0).toNat = 4 by omega]; rfl) rfl ?_
    exact l_case4 i hi hN M M1 M' k r c s h1 h2 h3 h4 hnc hns kk
  · obtain ⟨ho, M1, k, r, h1, h2, h3, h4⟩ := h
    refine ev_tsIn (tgt := 532) d_law_40 (by omega) (by omega) (by rw [show ((j : Int) - 0).toNat = 5 by omega]; rfl) rfl ?_
    exact l_case5 i hi hN M M1 M' k r c s h1 h2 h3 h4 hnc hns kk
  · obtain ⟨ho, ⟨rfl, rfl⟩, M1, k, r, h1, h2, h3⟩ := h
    refine ev_tsIn (tgt := 636) d_law_40 (by omega) (by omega) (by rw [show ((j : Int) - 0).toNat = 6 by omega]; rfl) rfl ?_
    exact l_case6 i hi hN M M1 M' k r h1 h2 h3 hnc hns kk
  · obtain ⟨ho, ⟨rfl, rfl⟩, M1, k, r, h1, h2, h3⟩ := h
    refine ev_tsIn (tgt := 649) d_law_40 (by omega) (by omega) (by rw [show ((j : Int) - 0).toNat = 7 by omega]; rfl) rfl ?_
    exact l_case7 i hi hN M M1 M' k r h1 h2 h3 hnc hns kk
  · obtain ⟨ho, M1, k, r, h1, h2, h3, h4⟩ := h
    refine ev_tsIn (tgt := 662) d_law_40 (by omega) (by omega) (by rw [show ((j : Int) - 0).toNat = 8 by omega]; rfl) rfl ?_
    exact l_case8 i hi hN M M1 M' k r c s h1 h2 h3 h4 hnc hns kk
  · obtain ⟨ho, ⟨rfl, rfl⟩, M1, k, r, h1, h2, h3⟩ := h
    refine ev_tsIn (tgt := 754) d_law_40 (by omega) (by omega) (by rw [show ((j : Int) - 0).toNat = 9 by omega]; rfl) rfl ?_
    exact l_case9 i hi hN M M1 M' k r h1 h2 h3 hnc hns kk
  · obtain ⟨ho, M1, k, r, h1, h2, h3, h4⟩ := h
    refine ev_tsIn (tgt := 791) d_law_40 (by omega) (by omega) (by rw [show ((j : Int) - 0).toNat = 10 by omega]; rfl) rfl ?_
    exact l_case10 i hi hN M M1 M' k r c s h1 h2 h3 h4 hnc hns kk
  · obtain ⟨ho, M1, k, r, h1, h2, h3, h4⟩ := h
    refine ev_tsIn (tgt := 883) d_law_40 (by omega) (by omega) (by rw [show ((j : Int) - 0).toNat = 11 by omega]; rfl) rfl ?_
    exact l_case11 i hi hN M M1 M' k r c s h1 h2 h3 h4 hnc hns kk
  · obtain ⟨ho, ⟨rfl, rfl⟩, M1, k, r, h1, h2, h3⟩ := h
    refine ev_tsIn (tgt := 939) d_law_40 (by omega) (by omega) (by rw [show ((j : Int) - 0).toNat = 12 by omega]; rfl) rfl ?_
    exact l_case12 i hi hN M M1 M' k r h1 h2 h3 hnc hns kk
  · obtain ⟨ho, rfl, rfl, rfl⟩ := h
    refine ev_tsOut (tgt := 964) d_law_40 (Or.inr ho) rfl ?_
    exact kk
theorem l_loop {b N : Nat} {xs : Nat → Int32} (hN : N ≤ 3072) (Inv : Nat → g_M → Prop)
    (hs : ∀ (t : Nat) (M : g_M), Inv t M → 6 * t + 6 ≤ N → ∃ (M' : g_M) (c s : Nat), c ≤ 1 ∧ s ≤ 6 ∧ l_S (g_b (fun a b => a &&& b) (xs (6 * t)).toInt 15) (xs (6 * t + 1)).toInt (xs (6 * t + 2)).toInt (xs (6 * t + 3)).toInt (xs (6 * t + 4)).toInt (xs (6 * t + 5)).toInt M M' c s ∧ Inv (t + 1) M') :
    ∀ (n t : Nat) (M : g_M) (nc ns : Nat), N < 6 * t + 6 * n + 6 → 6 * t ≤ N + 6 → Inv t M → nc ≤ 100 + t → ns ≤ 31000 + 6 * t → Ev (e_law b N xs) room_1 x_finL 23 (l_ls b (6 * t : Nat)) [] LX M nc ns := by
  intro n
  induction n with
  | zero =>
    intro t M nc ns h1 h2 h3 h4 h5
    refine ev_iload (i := 4) d_law_23 rfl rfl ?_
    refine ev_aload_nO (i := 0) d_law_25 rfl rfl rfl ?_
    refine ev_slen x_lawS (by omega) d_law_26 rfl ?_
    refine ev_bipush d_law_27 rfl (by decide +kernel) ⟨by decide, by decide⟩ ?_
    refine ev_isub (z := (N : Int) - 6) d_law_29 rfl (g_w_id (by unfold g_rg; omega)) ?_
    refine ev_icmp_gt_t (tgt := 970) d_law_30 (by decide) (by omega) ?_
    refine ev_iconst d_law_970 rfl ⟨by decide, by decide⟩ ?_
    exact ev_done ⟨d_law_971, rfl, by omega, by omega⟩
  | succ n ih =>
    intro t M nc ns h1 h2 h3 h4 h5
    refine ev_iload (i := 4) d_law_23 rfl rfl ?_
    refine ev_aload_nO (i := 0) d_law_25 rfl rfl rfl ?_
    refine ev_slen x_lawS (by omega) d_law_26 rfl ?_
    refine ev_bipush d_law_27 rfl (by decide +kernel) ⟨by decide, by decide⟩ ?_
    refine ev_isub (z := (N : Int) - 6) d_law_29 rfl (g_w_id (by unfold g_rg; omega)) ?_
    refine ev_icmp_gt (tgt := 970) d_law_30 (by decide) rfl (fun h6 => ?_) (fun h6 => ?_)
    · refine ev_iconst d_law_970 rfl ⟨by decide, by decide⟩ ?_
      exact ev_done ⟨d_law_971, rfl, by omega, by omega⟩
    · obtain ⟨M', c, s, hc, hs', hS, hI⟩ := hs t M h3 (by omega)
      refine l_turn (6 * t) (by omega) hN (by omega) (by omega) hS ?_
      refine ev_iinc (z := ((6 * (t + 1) : Nat) : Int)) d_law_964 rfl rfl (Nat.le_of_ble_eq_true rfl) (by rw [g_w_id (by unfold g_rg; omega)]; omega) rfl ?_
      refine ev_goto (tgt := 23) d_law_967 (by decide) ?_
      exact ih (t + 1) M' (nc + c) (ns + s) (by omega) (by omega) hI (by omega) (by omega)
set_option maxRecDepth 100000 in
theorem l_start {b N : Nat} {xs : Nat → Int32} (hN : N ≤ 3072) (h : Ev (e_law b N xs) room_1 x_finL 23 (l_ls b (6 * 0 : Nat)) [] LX mm_3 78 30234) : Ev (e_law b N xs) room_1 x_finL 0 [some (g_o b), none, none, none, none, none, none] [] [] (fun _ _ => 0) 0 0 := by
  change Ev _ _ _ _ _ _ la_0 mm_0 _ _
  refine ev_cNew (k0 := 0) (L' := la_1) d_law_0 rfl nl_La_8 rfl (fun _ => rfl) rfl ⟨by decide +kernel, by decide +kernel⟩ (nc' := 1) (ns' := 10) rfl rfl ?_
  refine ev_dup d_law_3 rfl rfl ?_
  refine ev_callI (As := []) d_law_4 rfl cl_La_45 (c_Fu_init_0 2044) (x_roomR (by decide) (by decide)) ⟨by decide +kernel, by decide +kernel⟩ rfl rfl (by decide) (nc' := 45) (ns' := 11923) rfl rfl ?_
  refine ev_astore_n (i := 1) d_law_7 rfl rfl (Nat.le_of_ble_eq_true rfl) rfl ?_
  refine ev_cNew (k0 := 45) (L' := la_108) d_law_8 rfl nl_La_46 rfl (fun _ => rfl) rfl ⟨by decide +kernel, by decide +kernel⟩ (nc' := 46) (ns' := 11968) rfl rfl ?_
  refine ev_dup d_law_11 rfl rfl ?_
  refine ev_callI (As := []) d_law_12 rfl cl_La_48 (c_Mo_init_45 2046) (x_roomR (by decide) (by decide)) ⟨by decide +kernel, by decide +kernel⟩ rfl rfl (by decide) (nc' := 77) (ns' := 30233) rfl rfl ?_
  refine ev_astore_n (i := 2) d_law_15 rfl rfl (Nat.le_of_ble_eq_true rfl) rfl ?_
  refine ev_iconst d_law_16 rfl ⟨by decide, by decide⟩ ?_
  refine ev_cArr2 (m := 1) (k0 := 77) (L' := la_171) d_law_17 rfl gm_953 rfl (by decide) rfl (fun _ => rfl) rfl ⟨by decide +kernel, by decide +kernel⟩ (nc' := 78) (ns' := 30234) rfl rfl ?_
  refine ev_astore_n (i := 3) d_law_19 rfl rfl (Nat.le_of_ble_eq_true rfl) rfl ?_
  refine ev_iconst d_law_20 rfl ⟨by decide, by decide⟩ ?_
  refine ev_istore (i := 4) d_law_21 rfl (Nat.le_of_ble_eq_true rfl) rfl ?_
  rw [la_last]
  exact h
