theorem g_up_01 {M : g_M} {n : Nat} (h : ∀ t, M 17 t = 0 ∨ M 17 t = 1) (t : Nat) : g_up M 17 n 1 17 t = 0 ∨ g_up M 17 n 1 17 t = 1 := by
  simp only [g_up]
  split
  · exact Or.inr rfl
  · exact h t
theorem c_Te_addMade (d : Nat) (M : g_M) (n w : Nat) (h x y z : Int) (hB : j_B (M 9 9) (M 14) (M 15)) (hok : j_ok (M 9 9) x y z w) (hw : w ≤ 3) (hn : M 9 9 = n) (hl : n < 100) (hc : M 17 n = 0) (hd : M 18 n = 0) (hv : M 16 n = 0) (h17 : ∀ t, M 17 t = 0 ∨ M 17 t = 1) : Con y_Te_addMade w_Te_addMade (g_rm (d + 2)) LX M [g_r 9, g_i h, g_i (w : Int), g_i x, g_i y, g_i z] LX (g_up (g_up (g_up (g_up (j_M (g_up (g_up M 10 n 1) 11 n h) n 0 x y z w) 12 n w) 14 n (j_h (M 14) x y z w + 1)) 15 n (j_s (M 15) x y z w)) 9 9 ((n : Int) + 1)) (some (g_i (n : Int))) := by
  refine con_of (av := [g_r 9, g_i h, g_i (w : Int), g_i x, g_i y, g_i z]) (ls0 := [some (g_r 9), some (g_i h), some (g_i (w : Int)), some (g_i x), some (g_i y), some (g_i z)]) (by decide) rfl (Nat.le_of_ble_eq_true rfl) (g_hls (av := [g_r 9, g_i h, g_i (w : Int), g_i x, g_i y, g_i z]) (k := 0)) (fun _ h9 => List.mem_cons_of_mem _ h9) ?_
  refine ev_aload_n (i := 0) d_Te_addMade_0 rfl rfl rfl ?_
  refine ev_getR d_Te_addMade_1 rfl lk_Te_9 lx_9 rfl ?_
  refine ev_aload_n (i := 0) d_Te_addMade_4 rfl rfl rfl ?_
  refine ev_getI (z := (n : Int)) d_Te_addMade_5 rfl lk_Te_40 lx_9 rfl (by simp [g_up, hn]) ?_
  refine ev_iconst d_Te_addMade_8 rfl ⟨by decide, by decide⟩ ?_
  refine ev_iastore d_Te_addMade_9 rfl lx_10 (by omega) (by omega) ?_
  rw [show Int.toNat (((n : Int))) = n by rfl]
  refine ev_aload_n (i := 0) d_Te_addMade_10 rfl rfl rfl ?_
  refine ev_getR d_Te_addMade_11 rfl lk_Te_15 lx_9 rfl ?_
  refine ev_aload_n (i := 0) d_Te_addMade_14 rfl rfl rfl ?_
  refine ev_getI (z := (n : Int)) d_Te_addMade_15 rfl lk_Te_40 lx_9 rfl (by simp [g_up, hn]) ?_
  refine ev_iload_n (i := 1) d_Te_addMade_18 rfl rfl rfl ?_
  refine ev_iastore d_Te_addMade_19 rfl lx_11 (by omega) (by omega) ?_
  rw [show Int.toNat (((n : Int))) = n by rfl]
  refine ev_aload_n (i := 0) d_Te_addMade_20 rfl rfl rfl ?_
  refine ev_iload_n (i := 2) d_Te_addMade_21 rfl rfl rfl ?_
  refine ev_iload_n (i := 3) d_Te_addMade_22 rfl rfl rfl ?_
  refine ev_iload (i := 4) d_Te_addMade_23 rfl rfl ?_
  refine ev_iload (i := 5) d_Te_addMade_25 rfl rfl ?_
  refine ev_callV (As := [g_i (w : Int), g_i x, g_i y, g_i z]) d_Te_addMade_27 rfl cl_Te_58 (c_Te_join (d + 0) (g_up (g_up M 10 n 1) 11 n h) n w 0 x y z hB hok hw hn hl hc (by decide) hd hv h17) (g_hR (by decide)) g_h0 lx_9 rfl rfl (Nat.le_of_ble_eq_true rfl) rfl rfl ?_
  exact ev_retI d_Te_addMade_30 (by first | rfl | omega | simp_all) rfl (Or.inl rfl)
theorem c_Te_addCalled (d : Nat) (M : g_M) (n w : Nat) (h x y z : Int) (hB : j_B (M 9 9) (M 14) (M 15)) (hok : j_ok (M 9 9) x y z w) (hw : w ≤ 3) (hn : M 9 9 = n) (hl : n < 100) (hd : M 18 n = 0) (hv : M 16 n = 0) (h17 : ∀ t, M 17 t = 0 ∨ M 17 t = 1) : Con y_Te_addCalled w_Te_addCalled (g_rm (d + 2)) LX M [g_r 9, g_i h, g_i (w : Int), g_i x, g_i y, g_i z] LX (g_up (g_up (g_up (g_up (j_M (g_up (g_up (g_up M 10 n 2) 11 n h) 17 n 1) n 1 x y z w) 12 n w) 14 n (j_h (M 14) x y z w + 1)) 15 n (j_s (M 15) x y z w)) 9 9 ((n : Int) + 1)) (some (g_i (n : Int))) := by
  refine con_of (av := [g_r 9, g_i h, g_i (w : Int), g_i x, g_i y, g_i z]) (ls0 := [some (g_r 9), some (g_i h), some (g_i (w : Int)), some (g_i x), some (g_i y), some (g_i z)]) (by decide) rfl (Nat.le_of_ble_eq_true rfl) (g_hls (av := [g_r 9, g_i h, g_i (w : Int), g_i x, g_i y, g_i z]) (k := 0)) (fun _ h9 => List.mem_cons_of_mem _ h9) ?_
  refine ev_aload_n (i := 0) d_Te_addCalled_0 rfl rfl rfl ?_
  refine ev_getR d_Te_addCalled_1 rfl lk_Te_9 lx_9 rfl ?_
  refine ev_aload_n (i := 0) d_Te_addCalled_4 rfl rfl rfl ?_
  refine ev_getI (z := (n : Int)) d_Te_addCalled_5 rfl lk_Te_40 lx_9 rfl (by simp [g_up, hn]) ?_
  refine ev_iconst d_Te_addCalled_8 rfl ⟨by decide, by decide⟩ ?_
  refine ev_iastore d_Te_addCalled_9 rfl lx_10 (by omega) (by omega) ?_
  rw [show Int.toNat (((n : Int))) = n by rfl]
  refine ev_aload_n (i := 0) d_Te_addCalled_10 rfl rfl rfl ?_
  refine ev_getR d_Te_addCalled_11 rfl lk_Te_15 lx_9 rfl ?_
  refine ev_aload_n (i := 0) d_Te_addCalled_14 rfl rfl rfl ?_
  refine ev_getI (z := (n : Int)) d_Te_addCalled_15 rfl lk_Te_40 lx_9 rfl (by simp [g_up, hn]) ?_
  refine ev_iload_n (i := 1) d_Te_addCalled_18 rfl rfl rfl ?_
  refine ev_iastore d_Te_addCalled_19 rfl lx_11 (by omega) (by omega) ?_
  rw [show Int.toNat (((n : Int))) = n by rfl]
  refine ev_aload_n (i := 0) d_Te_addCalled_20 rfl rfl rfl ?_
  refine ev_getR d_Te_addCalled_21 rfl lk_Te_33 lx_9 rfl ?_
  refine ev_aload_n (i := 0) d_Te_addCalled_24 rfl rfl rfl ?_
  refine ev_getI (z := (n : Int)) d_Te_addCalled_25 rfl lk_Te_40 lx_9 rfl (by simp [g_up, hn]) ?_
  refine ev_iconst d_Te_addCalled_28 rfl ⟨by decide, by decide⟩ ?_
  refine ev_bastore d_Te_addCalled_29 rfl lx_17 (by omega) (by omega) (by omega) ?_
  rw [show Int.toNat (((n : Int))) = n by rfl]
  refine ev_aload_n (i := 0) d_Te_addCalled_30 rfl rfl rfl ?_
  refine ev_iload_n (i := 2) d_Te_addCalled_31 rfl rfl rfl ?_
  refine ev_iload_n (i := 3) d_Te_addCalled_32 rfl rfl rfl ?_
  refine ev_iload (i := 4) d_Te_addCalled_33 rfl rfl ?_
  refine ev_iload (i := 5) d_Te_addCalled_35 rfl rfl ?_
  refine ev_callV (As := [g_i (w : Int), g_i x, g_i y, g_i z]) d_Te_addCalled_37 rfl cl_Te_58 (c_Te_join (d + 0) (g_up (g_up (g_up M 10 n 2) 11 n h) 17 n 1) n w 1 x y z hB hok hw hn hl (by simp [g_up]) (by decide) hd hv (g_up_01 h17)) (g_hR (by decide)) g_h0 lx_9 rfl rfl (Nat.le_of_ble_eq_true rfl) rfl rfl ?_
  exact ev_retI d_Te_addCalled_40 (by first | rfl | omega | simp_all) rfl (Or.inl rfl)
theorem c_Sg_width_c_w (d : Nat) (M : g_M) (h w : Nat) (hh : h < 8) (hw : M 3 h = w) : Con y_Sg_width w_Sg_width (g_rm d) LX M [g_r 1, g_i (h : Int)] LX M (some (g_i (w : Int))) := hw ▸ c_Sg_width_c d M h hh
theorem c_Fu_make (d : Nat) (M : g_M) (h w n : Nat) (x y z : Int) (hh : h < 8) (hm : (h : Int) < M 1 4) (hw : M 3 h = w) (hw3 : w ≤ 3) (hB : j_B (M 9 9) (M 14) (M 15)) (hf : j_fit (M 9 9) (M 14) (M 15) x y z w) (hn : M 9 9 = n) (hl : n < 100) (hc : M 17 n = 0) (hd : M 18 n = 0) (hv : M 16 n = 0) (h17 : ∀ t, M 17 t = 0 ∨ M 17 t = 1) : Con y_Fu_make w_Fu_make (g_rm (d + 3)) LX M [g_r 0, g_i (h : Int), g_i x, g_i y, g_i z] LX (g_up (g_up (g_up (g_up (j_M (g_up (g_up M 10 n 1) 11 n (h : Int)) n 0 x y z w) 12 n w) 14 n (j_h (M 14) x y z w + 1)) 15 n (j_s (M 15) x y z w)) 9 9 ((n : Int) + 1)) (some (g_i (n : Int))) := by
  refine con_of (av := [g_r 0, g_i (h : Int), g_i x, g_i y, g_i z]) (ls0 := [some (g_r 0), some (g_i (h : Int)), some (g_i x), some (g_i y), some (g_i z)]) (by decide) rfl (Nat.le_of_ble_eq_true rfl) (g_hls (av := [g_r 0, g_i (h : Int), g_i x, g_i y, g_i z]) (k := 0)) (fun _ h9 => List.mem_cons_of_mem _ h9) ?_
  refine ev_aload_n (i := 0) d_Fu_make_0 rfl rfl rfl ?_
  refine ev_getR d_Fu_make_1 rfl lk_Fu_14 lx_0 rfl ?_
  refine ev_iload_n (i := 1) d_Fu_make_4 rfl rfl rfl ?_
  refine ev_callV (As := [g_i (h : Int)]) d_Fu_make_5 rfl cl_Fu_108 (c_Sg_has_c (d + 2) M (h : Int)) (g_hR (by decide)) g_h0 lx_1 rfl rfl (Nat.le_of_ble_eq_true rfl) rfl rfl ?_
  refine ev_if_eq_f (tgt := 33) d_Fu_make_8 (by decide) rfl (by rw [if_pos ⟨by omega, hm⟩]; decide) ?_
  refine ev_aload_n (i := 0) d_Fu_make_11 rfl rfl rfl ?_
  refine ev_getR d_Fu_make_12 rfl lk_Fu_24 lx_0 rfl ?_
  refine ev_aload_n (i := 0) d_Fu_make_15 rfl rfl rfl ?_
  refine ev_getR d_Fu_make_16 rfl lk_Fu_14 lx_0 rfl ?_
  refine ev_iload_n (i := 1) d_Fu_make_19 rfl rfl rfl ?_
  refine ev_callV (As := [g_i (h : Int)]) d_Fu_make_20 rfl cl_Fu_112 (c_Sg_width_c_w (d + 2) M h w hh hw) (g_hR (by decide)) g_h0 lx_1 rfl rfl (Nat.le_of_ble_eq_true rfl) rfl rfl ?_
  refine ev_iload_n (i := 2) d_Fu_make_23 rfl rfl rfl ?_
  refine ev_iload_n (i := 3) d_Fu_make_24 rfl rfl rfl ?_
  refine ev_iload (i := 4) d_Fu_make_25 rfl rfl ?_
  refine ev_callV (As := [g_i (w : Int), g_i x, g_i y, g_i z]) d_Fu_make_27 rfl cl_Fu_115 (c_Te_canJoin (d + 1) M w hw3 x y z hB) (g_hR (by decide)) g_h0 lx_9 rfl rfl (Nat.le_of_ble_eq_true rfl) rfl rfl ?_
  refine ev_if_ne_t (tgt := 43) d_Fu_make_30 (by decide) (by rw [if_pos hf]; decide) ?_
  refine ev_aload_n (i := 0) d_Fu_make_43 rfl rfl rfl ?_
  refine ev_getR d_Fu_make_44 rfl lk_Fu_24 lx_0 rfl ?_
  refine ev_callV (As := []) d_Fu_make_47 rfl cl_Fu_101 (c_Te_isFull (d + 2) M) (g_hR (by decide)) g_h0 lx_9 rfl rfl (Nat.le_of_ble_eq_true rfl) rfl rfl ?_
  refine ev_if_eq_t (tgt := 63) d_Fu_make_50 (by decide) (by rw [if_neg (by omega)]) ?_
  refine ev_aload_n (i := 0) d_Fu_make_63 rfl rfl rfl ?_
  refine ev_getR d_Fu_make_64 rfl lk_Fu_24 lx_0 rfl ?_
  refine ev_iload_n (i := 1) d_Fu_make_67 rfl rfl rfl ?_
  refine ev_aload_n (i := 0) d_Fu_make_68 rfl rfl rfl ?_
  refine ev_getR d_Fu_make_69 rfl lk_Fu_14 lx_0 rfl ?_
  refine ev_iload_n (i := 1) d_Fu_make_72 rfl rfl rfl ?_
  refine ev_callV (As := [g_i (h : Int)]) d_Fu_make_73 rfl cl_Fu_112 (c_Sg_width_c_w (d + 2) M h w hh hw) (g_hR (by decide)) g_h0 lx_1 rfl rfl (Nat.le_of_ble_eq_true rfl) rfl rfl ?_
  refine ev_iload_n (i := 2) d_Fu_make_76 rfl rfl rfl ?_
  refine ev_iload_n (i := 3) d_Fu_make_77 rfl rfl rfl ?_
  refine ev_iload (i := 4) d_Fu_make_78 rfl rfl ?_
  refine ev_callV (As := [g_i (h : Int), g_i (w : Int), g_i x, g_i y, g_i z]) d_Fu_make_80 rfl cl_Fu_120 (c_Te_addMade (d + 0) M n w h x y z hB hf.1 hw3 hn hl hc hd hv h17) (g_hR (by decide)) g_h0 lx_9 rfl rfl (Nat.le_of_ble_eq_true rfl) rfl rfl ?_
  exact ev_retI d_Fu_make_83 (by first | rfl | omega | simp_all) rfl (Or.inl rfl)
theorem c_Fu_make_x1 (d : Nat) (M : g_M) (h w : Nat) (x y z : Int) (hh : h < 8) (hm : (h : Int) < M 1 4) (hw : M 3 h = w) (hw3 : w ≤ 3) (hB : j_B (M 9 9) (M 14) (M 15)) (hf : ¬ j_fit (M 9 9) (M 14) (M 15) x y z w) : CoX y_Fu_make w_Fu_make (g_ra (d + 6) 1 6) LX M [g_r 0, g_i (h : Int), g_i x, g_i y, g_i z] M x_E1 := by
  refine conX_of (av := [g_r 0, g_i (h : Int), g_i x, g_i y, g_i z]) (ls0 := [some (g_r 0), some (g_i (h : Int)), some (g_i x), some (g_i y), some (g_i z)]) (by decide) rfl (Nat.le_of_ble_eq_true rfl) (g_hls (av := [g_r 0, g_i (h : Int), g_i x, g_i y, g_i z]) (k := 0)) (fun _ h9 => List.mem_cons_of_mem _ h9) rfl ⟨by show 6 ≤ d + 6; omega, by show 90 ≤ 40 * (d + 6); omega⟩ ⟨Nat.le_refl _, Nat.le_refl _⟩ ?_
  refine ev_aload_n (i := 0) d_Fu_make_0 rfl rfl rfl ?_
  refine ev_getR d_Fu_make_1 rfl lk_Fu_14 lx_0 rfl ?_
  refine ev_iload_n (i := 1) d_Fu_make_4 rfl rfl rfl ?_
  refine ev_callV (As := [g_i (h : Int)]) d_Fu_make_5 rfl cl_Fu_108 (c_Sg_has_c (d + 5) M (h : Int)) (g_hR (by decide)) ⟨Nat.zero_le _, Nat.zero_le _⟩ lx_1 rfl rfl (Nat.le_of_ble_eq_true rfl) rfl rfl ?_
  refine ev_if_eq_f (tgt := 33) d_Fu_make_8 (by decide) rfl (by rw [if_pos ⟨by omega, hm⟩]; decide) ?_
  refine ev_aload_n (i := 0) d_Fu_make_11 rfl rfl rfl ?_
  refine ev_getR d_Fu_make_12 rfl lk_Fu_24 lx_0 rfl ?_
  refine ev_aload_n (i := 0) d_Fu_make_15 rfl rfl rfl ?_
  refine ev_getR d_Fu_make_16 rfl lk_Fu_14 lx_0 rfl ?_
  refine ev_iload_n (i := 1) d_Fu_make_19 rfl rfl rfl ?_
  refine ev_callV (As := [g_i (h : Int)]) d_Fu_make_20 rfl cl_Fu_112 (c_Sg_width_c_w (d + 5) M h w hh hw) (g_hR (by decide)) ⟨Nat.zero_le _, Nat.zero_le _⟩ lx_1 rfl rfl (Nat.le_of_ble_eq_true rfl) rfl rfl ?_
  refine ev_iload_n (i := 2) d_Fu_make_23 rfl rfl rfl ?_
  refine ev_iload_n (i := 3) d_Fu_make_24 rfl rfl rfl ?_
  refine ev_iload (i := 4) d_Fu_make_25 rfl rfl ?_
  refine ev_callV (As := [g_i (w : Int), g_i x, g_i y, g_i z]) d_Fu_make_27 rfl cl_Fu_115 (c_Te_canJoin (d + 4) M w hw3 x y z hB) (g_hR (by decide)) ⟨Nat.zero_le _, Nat.zero_le _⟩ lx_9 rfl rfl (Nat.le_of_ble_eq_true rfl) rfl rfl ?_
  refine ev_if_ne_f (tgt := 43) d_Fu_make_30 (by decide) rfl (by rw [if_neg hf]) ?_
  exact ev_done ⟨rfl, rfl, rfl, rfl, rfl, 77, 118, 81, _, x_ex1, List.mem_of_getElem? (i := 5) rfl, d_Fu_make_33, d_Fu_make_36, d_Fu_make_37, d_Fu_make_39, d_Fu_make_42⟩
theorem c_Fu_make_x2 (d : Nat) (M : g_M) (h w : Nat) (x y z : Int) (hh : h < 8) (hm : (h : Int) < M 1 4) (hw : M 3 h = w) (hw3 : w ≤ 3) (hB : j_B (M 9 9) (M 14) (M 15)) (hf : j_fit (M 9 9) (M 14) (M 15) x y z w) (hl : 100 ≤ M 9 9) : CoX y_Fu_make w_Fu_make (g_ra (d + 6) 1 6) LX M [g_r 0, g_i (h : Int), g_i x, g_i y, g_i z] M x_E2 := by
  refine conX_of (av := [g_r 0, g_i (h : Int), g_i x, g_i y, g_i z]) (ls0 := [some (g_r 0), some (g_i (h : Int)), some (g_i x), some (g_i y), some (g_i z)]) (by decide) rfl (Nat.le_of_ble_eq_true rfl) (g_hls (av := [g_r 0, g_i (h : Int), g_i x, g_i y, g_i z]) (k := 0)) (fun _ h9 => List.mem_cons_of_mem _ h9) rfl ⟨by show 6 ≤ d + 6; omega, by show 90 ≤ 40 * (d + 6); omega⟩ ⟨Nat.le_refl _, Nat.le_refl _⟩ ?_
  refine ev_aload_n (i := 0) d_Fu_make_0 rfl rfl rfl ?_
  refine ev_getR d_Fu_make_1 rfl lk_Fu_14 lx_0 rfl ?_
  refine ev_iload_n (i := 1) d_Fu_make_4 rfl rfl rfl ?_
  refine ev_callV (As := [g_i (h : Int)]) d_Fu_make_5 rfl cl_Fu_108 (c_Sg_has_c (d + 5) M (h : Int)) (g_hR (by decide)) ⟨Nat.zero_le _, Nat.zero_le _⟩ lx_1 rfl rfl (Nat.le_of_ble_eq_true rfl) rfl rfl ?_
  refine ev_if_eq_f (tgt := 33) d_Fu_make_8 (by decide) rfl (by rw [if_pos ⟨by omega, hm⟩]; decide) ?_
  refine ev_aload_n (i := 0) d_Fu_make_11 rfl rfl rfl ?_
  refine ev_getR d_Fu_make_12 rfl lk_Fu_24 lx_0 rfl ?_
  refine ev_aload_n (i := 0) d_Fu_make_15 rfl rfl rfl ?_
  refine ev_getR d_Fu_make_16 rfl lk_Fu_14 lx_0 rfl ?_
  refine ev_iload_n (i := 1) d_Fu_make_19 rfl rfl rfl ?_
  refine ev_callV (As := [g_i (h : Int)]) d_Fu_make_20 rfl cl_Fu_112 (c_Sg_width_c_w (d + 5) M h w hh hw) (g_hR (by decide)) ⟨Nat.zero_le _, Nat.zero_le _⟩ lx_1 rfl rfl (Nat.le_of_ble_eq_true rfl) rfl rfl ?_
  refine ev_iload_n (i := 2) d_Fu_make_23 rfl rfl rfl ?_
  refine ev_iload_n (i := 3) d_Fu_make_24 rfl rfl rfl ?_
  refine ev_iload (i := 4) d_Fu_make_25 rfl rfl ?_
  refine ev_callV (As := [g_i (w : Int), g_i x, g_i y, g_i z]) d_Fu_make_27 rfl cl_Fu_115 (c_Te_canJoin (d + 4) M w hw3 x y z hB) (g_hR (by decide)) ⟨Nat.zero_le _, Nat.zero_le _⟩ lx_9 rfl rfl (Nat.le_of_ble_eq_true rfl) rfl rfl ?_
  refine ev_if_ne_t (tgt := 43) d_Fu_make_30 (by decide) (by rw [if_pos hf]; decide) ?_
  refine ev_aload_n (i := 0) d_Fu_make_43 rfl rfl rfl ?_
  refine ev_getR d_Fu_make_44 rfl lk_Fu_24 lx_0 rfl ?_
  refine ev_callV (As := []) d_Fu_make_47 rfl cl_Fu_101 (c_Te_isFull (d + 5) M) (g_hR (by decide)) ⟨Nat.zero_le _, Nat.zero_le _⟩ lx_9 rfl rfl (Nat.le_of_ble_eq_true rfl) rfl rfl ?_
  refine ev_if_eq_f (tgt := 63) d_Fu_make_50 (by decide) rfl (by rw [if_pos hl]; decide) ?_
  exact ev_done ⟨rfl, rfl, rfl, rfl, rfl, 88, 102, 92, _, x_ex2, List.mem_of_getElem? (i := 4) rfl, d_Fu_make_53, d_Fu_make_56, d_Fu_make_57, d_Fu_make_59, d_Fu_make_62⟩
theorem c_Mo_make (d : Nat) (M : g_M) (h w n : Nat) (x y z : Int) (hh : h < 8) (hm : (h : Int) < M 45 0) (hw : M 47 h = w) (hw3 : w ≤ 3) (hB : j_B (M 45 8) (M 54) (M 55)) (hf : j_fit (M 45 8) (M 54) (M 55) x y z w) (hn : M 45 8 = n) (hl : n < 100) : Con y_Mo_make w_Mo_make (g_rm (d + 2)) LX M [g_r 45, g_i (h : Int), g_i x, g_i y, g_i z] LX (g_up (g_up (g_up (g_up (g_up (g_up (g_up (g_up (g_up M 45 44 0) 45 44 0) 52 n (8 + (h : Int))) 53 (3 * n) x) 53 (3 * n + 1) y) 53 (3 * n + 2) z) 54 n (j_h (M 54) x y z w + 1)) 55 n (j_s (M 55) x y z w)) 45 8 ((n : Int) + 1)) (some (g_i (n : Int))) := by
  refine con_of (av := [g_r 45, g_i (h : Int), g_i x, g_i y, g_i z]) (ls0 := [some (g_r 45), some (g_i (h : Int)), some (g_i x), some (g_i y), some (g_i z)]) (by decide) rfl (Nat.le_of_ble_eq_true rfl) (g_hls (av := [g_r 45, g_i (h : Int), g_i x, g_i y, g_i z]) (k := 0)) (fun _ h9 => List.mem_cons_of_mem _ h9) ?_
  refine ev_aload_n (i := 0) d_Mo_make_0 rfl rfl rfl ?_
  refine ev_iload_n (i := 1) d_Mo_make_1 rfl rfl rfl ?_
  refine ev_if_lt_f (tgt := 13) d_Mo_make_2 (by decide) rfl (by omega) ?_
  refine ev_iload_n (i := 1) d_Mo_make_5 rfl rfl rfl ?_
  refine ev_aload_n (i := 0) d_Mo_make_6 rfl rfl rfl ?_
  refine ev_getI (z := M 45 0) d_Mo_make_7 rfl lk_Mo_116 lx_45 rfl (rfl) ?_
  refine ev_icmp_lt_t (tgt := 17) d_Mo_make_10 (by decide) (hm) ?_
  refine ev_iconst d_Mo_make_17 rfl ⟨by decide, by decide⟩ ?_
  refine ev_putI d_Mo_make_18 rfl lk_Mo_104 fp_Mo_44 (Or.inl rfl) lx_45 rfl ?_
  refine ev_aload_n (i := 0) d_Mo_make_21 rfl rfl rfl ?_
  refine ev_getI (z := 0) d_Mo_make_22 rfl lk_Mo_104 lx_45 rfl (by simp [g_up]) ?_
  refine ev_if_eq_t (tgt := 32) d_Mo_make_25 (by decide) (by decide) ?_
  refine ev_aload_n (i := 0) d_Mo_make_32 rfl rfl rfl ?_
  refine ev_bipush d_Mo_make_33 rfl (by decide +kernel) ⟨by decide, by decide⟩ ?_
  refine ev_iload_n (i := 1) d_Mo_make_35 rfl rfl rfl ?_
  refine ev_iadd (z := 8 + (h : Int)) d_Mo_make_36 rfl (g_w_id (by unfold g_rg; omega)) ?_
  refine ev_aload_n (i := 0) d_Mo_make_37 rfl rfl rfl ?_
  refine ev_getR d_Mo_make_38 rfl lk_Mo_13 lx_45 rfl ?_
  refine ev_iload_n (i := 1) d_Mo_make_41 rfl rfl rfl ?_
  refine ev_iaload (z := (w : Int)) d_Mo_make_42 rfl lx_47 (by omega) (by omega) (by simp [g_up, hw]) ?_
  refine ev_iload_n (i := 2) d_Mo_make_43 rfl rfl rfl ?_
  refine ev_iload_n (i := 3) d_Mo_make_44 rfl rfl rfl ?_
  refine ev_iload (i := 4) d_Mo_make_45 rfl rfl ?_
  refine ev_callV (As := [g_i (8 + (h : Int)), g_i ((w : Int)), g_i x, g_i y, g_i z]) d_Mo_make_47 rfl cl_Mo_137 (c_Mo_build (d + 0) (g_up M 45 44 0) w n (8 + (h : Int)) x y z hw3 hB hf hn hl) (g_hR (by decide)) g_h0 lx_45 rfl rfl (Nat.le_of_ble_eq_true rfl) rfl rfl ?_
  exact ev_retI d_Mo_make_50 (by first | rfl | omega | simp_all) rfl (Or.inl rfl)
theorem c_Mo_make_x1 (d : Nat) (M : g_M) (h w : Nat) (x y z : Int) (hh : h < 8) (hm : (h : Int) < M 45 0) (hw : M 47 h = w) (hw3 : w ≤ 3) (hB : j_B (M 45 8) (M 54) (M 55)) (hf : ¬ j_fit (M 45 8) (M 54) (M 55) x y z w) : Con y_Mo_make w_Mo_make (g_rm (d + 2)) LX M [g_r 45, g_i (h : Int), g_i x, g_i y, g_i z] LX (g_up (g_up M 45 44 0) 45 44 1) (some (g_i 0)) := by
  refine con_of (av := [g_r 45, g_i (h : Int), g_i x, g_i y, g_i z]) (ls0 := [some (g_r 45), some (g_i (h : Int)), some (g_i x), some (g_i y), some (g_i z)]) (by decide) rfl (Nat.le_of_ble_eq_true rfl) (g_hls (av := [g_r 45, g_i (h : Int), g_i x, g_i y, g_i z]) (k := 0)) (fun _ h9 => List.mem_cons_of_mem _ h9) ?_
  refine ev_aload_n (i := 0) d_Mo_make_0 rfl rfl rfl ?_
  refine ev_iload_n (i := 1) d_Mo_make_1 rfl rfl rfl ?_
  refine ev_if_lt_f (tgt := 13) d_Mo_make_2 (by decide) rfl (by omega) ?_
  refine ev_iload_n (i := 1) d_Mo_make_5 rfl rfl rfl ?_
  refine ev_aload_n (i := 0) d_Mo_make_6 rfl rfl rfl ?_
  refine ev_getI (z := M 45 0) d_Mo_make_7 rfl lk_Mo_116 lx_45 rfl (rfl) ?_
  refine ev_icmp_lt_t (tgt := 17) d_Mo_make_10 (by decide) (hm) ?_
  refine ev_iconst d_Mo_make_17 rfl ⟨by decide, by decide⟩ ?_
  refine ev_putI d_Mo_make_18 rfl lk_Mo_104 fp_Mo_44 (Or.inl rfl) lx_45 rfl ?_
  refine ev_aload_n (i := 0) d_Mo_make_21 rfl rfl rfl ?_
  refine ev_getI (z := 0) d_Mo_make_22 rfl lk_Mo_104 lx_45 rfl (by simp [g_up]) ?_
  refine ev_if_eq_t (tgt := 32) d_Mo_make_25 (by decide) (by decide) ?_
  refine ev_aload_n (i := 0) d_Mo_make_32 rfl rfl rfl ?_
  refine ev_bipush d_Mo_make_33 rfl (by decide +kernel) ⟨by decide, by decide⟩ ?_
  refine ev_iload_n (i := 1) d_Mo_make_35 rfl rfl rfl ?_
  refine ev_iadd (z := 8 + (h : Int)) d_Mo_make_36 rfl (g_w_id (by unfold g_rg; omega)) ?_
  refine ev_aload_n (i := 0) d_Mo_make_37 rfl rfl rfl ?_
  refine ev_getR d_Mo_make_38 rfl lk_Mo_13 lx_45 rfl ?_
  refine ev_iload_n (i := 1) d_Mo_make_41 rfl rfl rfl ?_
  refine ev_iaload (z := (w : Int)) d_Mo_make_42 rfl lx_47 (by omega) (by omega) (by simp [g_up, hw]) ?_
  refine ev_iload_n (i := 2) d_Mo_make_43 rfl rfl rfl ?_
  refine ev_iload_n (i := 3) d_Mo_make_44 rfl rfl rfl ?_
  refine ev_iload (i := 4) d_Mo_make_45 rfl rfl ?_
  refine ev_callV (As := [g_i (8 + (h : Int)), g_i ((w : Int)), g_i x, g_i y, g_i z]) d_Mo_make_47 rfl cl_Mo_137 (c_Mo_build_x1 (d + 0) (g_up M 45 44 0) w (8 + (h : Int)) x y z hw3 hB hf) (g_hR (by decide)) g_h0 lx_45 rfl rfl (Nat.le_of_ble_eq_true rfl) rfl rfl ?_
  exact ev_retI d_Mo_make_50 (by first | rfl | omega | simp_all) rfl (Or.inl rfl)
theorem c_Mo_make_x2 (d : Nat) (M : g_M) (h w : Nat) (x y z : Int) (hh : h < 8) (hm : (h : Int) < M 45 0) (hw : M 47 h = w) (hw3 : w ≤ 3) (hB : j_B (M 45 8) (M 54) (M 55)) (hf : j_fit (M 45 8) (M 54) (M 55) x y z w) (hn : M 45 8 = 100) : Con y_Mo_make w_Mo_make (g_rm (d + 2)) LX M [g_r 45, g_i (h : Int), g_i x, g_i y, g_i z] LX (g_up (g_up M 45 44 0) 45 44 2) (some (g_i 0)) := by
  refine con_of (av := [g_r 45, g_i (h : Int), g_i x, g_i y, g_i z]) (ls0 := [some (g_r 45), some (g_i (h : Int)), some (g_i x), some (g_i y), some (g_i z)]) (by decide) rfl (Nat.le_of_ble_eq_true rfl) (g_hls (av := [g_r 45, g_i (h : Int), g_i x, g_i y, g_i z]) (k := 0)) (fun _ h9 => List.mem_cons_of_mem _ h9) ?_
  refine ev_aload_n (i := 0) d_Mo_make_0 rfl rfl rfl ?_
  refine ev_iload_n (i := 1) d_Mo_make_1 rfl rfl rfl ?_
  refine ev_if_lt_f (tgt := 13) d_Mo_make_2 (by decide) rfl (by omega) ?_
  refine ev_iload_n (i := 1) d_Mo_make_5 rfl rfl rfl ?_
  refine ev_aload_n (i := 0) d_Mo_make_6 rfl rfl rfl ?_
  refine ev_getI (z := M 45 0) d_Mo_make_7 rfl lk_Mo_116 lx_45 rfl (rfl) ?_
  refine ev_icmp_lt_t (tgt := 17) d_Mo_make_10 (by decide) (hm) ?_
  refine ev_iconst d_Mo_make_17 rfl ⟨by decide, by decide⟩ ?_
  refine ev_putI d_Mo_make_18 rfl lk_Mo_104 fp_Mo_44 (Or.inl rfl) lx_45 rfl ?_
  refine ev_aload_n (i := 0) d_Mo_make_21 rfl rfl rfl ?_
  refine ev_getI (z := 0) d_Mo_make_22 rfl lk_Mo_104 lx_45 rfl (by simp [g_up]) ?_
  refine ev_if_eq_t (tgt := 32) d_Mo_make_25 (by decide) (by decide) ?_
  refine ev_aload_n (i := 0) d_Mo_make_32 rfl rfl rfl ?_
  refine ev_bipush d_Mo_make_33 rfl (by decide +kernel) ⟨by decide, by decide⟩ ?_
  refine ev_iload_n (i := 1) d_Mo_make_35 rfl rfl rfl ?_
  refine ev_iadd (z := 8 + (h : Int)) d_Mo_make_36 rfl (g_w_id (by unfold g_rg; omega)) ?_
  refine ev_aload_n (i := 0) d_Mo_make_37 rfl rfl rfl ?_
  refine ev_getR d_Mo_make_38 rfl lk_Mo_13 lx_45 rfl ?_
  refine ev_iload_n (i := 1) d_Mo_make_41 rfl rfl rfl ?_
  refine ev_iaload (z := (w : Int)) d_Mo_make_42 rfl lx_47 (by omega) (by omega) (by simp [g_up, hw]) ?_
  refine ev_iload_n (i := 2) d_Mo_make_43 rfl rfl rfl ?_
  refine ev_iload_n (i := 3) d_Mo_make_44 rfl rfl rfl ?_
  refine ev_iload (i := 4) d_Mo_make_45 rfl rfl ?_
  refine ev_callV (As := [g_i (8 + (h : Int)), g_i ((w : Int)), g_i x, g_i y, g_i z]) d_Mo_make_47 rfl cl_Mo_137 (c_Mo_build_x2 (d + 0) (g_up M 45 44 0) w (8 + (h : Int)) x y z hw3 hB hf hn) (g_hR (by decide)) g_h0 lx_45 rfl rfl (Nat.le_of_ble_eq_true rfl) rfl rfl ?_
  exact ev_retI d_Mo_make_50 (by first | rfl | omega | simp_all) rfl (Or.inl rfl)
theorem c_Sg_width_f_w (d : Nat) (M : g_M) (h w : Nat) (hh : h < 6) (hw : M 7 h = w) : Con y_Sg_width w_Sg_width (g_rm d) LX M [g_r 5, g_i (h : Int)] LX M (some (g_i (w : Int))) := hw ▸ c_Sg_width_f d M h hh
theorem c_Fu_call (d : Nat) (M : g_M) (h w n : Nat) (x y z : Int) (hh : h < 6) (hm : (h : Int) < M 5 4) (hw : M 7 h = w) (hw3 : w ≤ 3) (hB : j_B (M 9 9) (M 14) (M 15)) (hf : j_fit (M 9 9) (M 14) (M 15) x y z w) (hn : M 9 9 = n) (hl : n < 100) (hd : M 18 n = 0) (hv : M 16 n = 0) (h17 : ∀ t, M 17 t = 0 ∨ M 17 t = 1) : Con y_Fu_call w_Fu_call (g_rm (d + 3)) LX M [g_r 0, g_i (h : Int), g_i x, g_i y, g_i z] LX (g_up (g_up (g_up (g_up (j_M (g_up (g_up (g_up M 10 n 2) 11 n (h : Int)) 17 n 1) n 1 x y z w) 12 n w) 14 n (j_h (M 14) x y z w + 1)) 15 n (j_s (M 15) x y z w)) 9 9 ((n : Int) + 1)) (some (g_i (n : Int))) := by
  refine con_of (av := [g_r 0, g_i (h : Int), g_i x, g_i y, g_i z]) (ls0 := [some (g_r 0), some (g_i (h : Int)), some (g_i x), some (g_i y), some (g_i z)]) (by decide) rfl (Nat.le_of_ble_eq_true rfl) (g_hls (av := [g_r 0, g_i (h : Int), g_i x, g_i y, g_i z]) (k := 0)) (fun _ h9 => List.mem_cons_of_mem _ h9) ?_
  refine ev_aload_n (i := 0) d_Fu_call_0 rfl rfl rfl ?_
  refine ev_getR d_Fu_call_1 rfl lk_Fu_18 lx_0 rfl ?_
  refine ev_iload_n (i := 1) d_Fu_call_4 rfl rfl rfl ?_
  refine ev_callV (As := [g_i (h : Int)]) d_Fu_call_5 rfl cl_Fu_108 (c_Sg_has_f (d + 2) M (h : Int)) (g_hR (by decide)) g_h0 lx_5 rfl rfl (Nat.le_of_ble_eq_true rfl) rfl rfl ?_
  refine ev_if_eq_f (tgt := 33) d_Fu_call_8 (by decide) rfl (by rw [if_pos ⟨by omega, hm⟩]; decide) ?_
  refine ev_aload_n (i := 0) d_Fu_call_11 rfl rfl rfl ?_
  refine ev_getR d_Fu_call_12 rfl lk_Fu_24 lx_0 rfl ?_
  refine ev_aload_n (i := 0) d_Fu_call_15 rfl rfl rfl ?_
  refine ev_getR d_Fu_call_16 rfl lk_Fu_18 lx_0 rfl ?_
  refine ev_iload_n (i := 1) d_Fu_call_19 rfl rfl rfl ?_
  refine ev_callV (As := [g_i (h : Int)]) d_Fu_call_20 rfl cl_Fu_112 (c_Sg_width_f_w (d + 2) M h w hh hw) (g_hR (by decide)) g_h0 lx_5 rfl rfl (Nat.le_of_ble_eq_true rfl) rfl rfl ?_
  refine ev_iload_n (i := 2) d_Fu_call_23 rfl rfl rfl ?_
  refine ev_iload_n (i := 3) d_Fu_call_24 rfl rfl rfl ?_
  refine ev_iload (i := 4) d_Fu_call_25 rfl rfl ?_
  refine ev_callV (As := [g_i (w : Int), g_i x, g_i y, g_i z]) d_Fu_call_27 rfl cl_Fu_115 (c_Te_canJoin (d + 1) M w hw3 x y z hB) (g_hR (by decide)) g_h0 lx_9 rfl rfl (Nat.le_of_ble_eq_true rfl) rfl rfl ?_
  refine ev_if_ne_t (tgt := 43) d_Fu_call_30 (by decide) (by rw [if_pos hf]; decide) ?_
  refine ev_aload_n (i := 0) d_Fu_call_43 rfl rfl rfl ?_
  refine ev_getR d_Fu_call_44 rfl lk_Fu_24 lx_0 rfl ?_
  refine ev_callV (As := []) d_Fu_call_47 rfl cl_Fu_101 (c_Te_isFull (d + 2) M) (g_hR (by decide)) g_h0 lx_9 rfl rfl (Nat.le_of_ble_eq_true rfl) rfl rfl ?_
  refine ev_if_eq_t (tgt := 63) d_Fu_call_50 (by decide) (by rw [if_neg (by omega)]) ?_
  refine ev_aload_n (i := 0) d_Fu_call_63 rfl rfl rfl ?_
  refine ev_getR d_Fu_call_64 rfl lk_Fu_24 lx_0 rfl ?_
  refine ev_iload_n (i := 1) d_Fu_call_67 rfl rfl rfl ?_
  refine ev_aload_n (i := 0) d_Fu_call_68 rfl rfl rfl ?_
  refine ev_getR d_Fu_call_69 rfl lk_Fu_18 lx_0 rfl ?_
  refine ev_iload_n (i := 1) d_Fu_call_72 rfl rfl rfl ?_
  refine ev_callV (As := [g_i (h : Int)]) d_Fu_call_73 rfl cl_Fu_112 (c_Sg_width_f_w (d + 2) M h w hh hw) (g_hR (by decide)) g_h0 lx_5 rfl rfl (Nat.le_of_ble_eq_true rfl) rfl rfl ?_
  refine ev_iload_n (i := 2) d_Fu_call_76 rfl rfl rfl ?_
  refine ev_iload_n (i := 3) d_Fu_call_77 rfl rfl rfl ?_
  refine ev_iload (i := 4) d_Fu_call_78 rfl rfl ?_
  refine ev_callV (As := [g_i (h : Int), g_i (w : Int), g_i x, g_i y, g_i z]) d_Fu_call_80 rfl cl_Fu_126 (c_Te_addCalled (d + 0) M n w h x y z hB hf.1 hw3 hn hl hd hv h17) (g_hR (by decide)) g_h0 lx_9 rfl rfl (Nat.le_of_ble_eq_true rfl) rfl rfl ?_
  exact ev_retI d_Fu_call_83 (by first | rfl | omega | simp_all) rfl (Or.inl rfl)
theorem c_Fu_call_x1 (d : Nat) (M : g_M) (h w : Nat) (x y z : Int) (hh : h < 6) (hm : (h : Int) < M 5 4) (hw : M 7 h = w) (hw3 : w ≤ 3) (hB : j_B (M 9 9) (M 14) (M 15)) (hf : ¬ j_fit (M 9 9) (M 14) (M 15) x y z w) : CoX y_Fu_call w_Fu_call (g_ra (d + 6) 1 6) LX M [g_r 0, g_i (h : Int), g_i x, g_i y, g_i z] M x_E1 := by
  refine conX_of (av := [g_r 0, g_i (h : Int), g_i x, g_i y, g_i z]) (ls0 := [some (g_r 0), some (g_i (h : Int)), some (g_i x), some (g_i y), some (g_i z)]) (by decide) rfl (Nat.le_of_ble_eq_true rfl) (g_hls (av := [g_r 0, g_i (h : Int), g_i x, g_i y, g_i z]) (k := 0)) (fun _ h9 => List.mem_cons_of_mem _ h9) rfl ⟨by show 6 ≤ d + 6; omega, by show 90 ≤ 40 * (d + 6); omega⟩ ⟨Nat.le_refl _, Nat.le_refl _⟩ ?_
  refine ev_aload_n (i := 0) d_Fu_call_0 rfl rfl rfl ?_
  refine ev_getR d_Fu_call_1 rfl lk_Fu_18 lx_0 rfl ?_
  refine ev_iload_n (i := 1) d_Fu_call_4 rfl rfl rfl ?_
  refine ev_callV (As := [g_i (h : Int)]) d_Fu_call_5 rfl cl_Fu_108 (c_Sg_has_f (d + 5) M (h : Int)) (g_hR (by decide)) ⟨Nat.zero_le _, Nat.zero_le _⟩ lx_5 rfl rfl (Nat.le_of_ble_eq_true rfl) rfl rfl ?_
  refine ev_if_eq_f (tgt := 33) d_Fu_call_8 (by decide) rfl (by rw [if_pos ⟨by omega, hm⟩]; decide) ?_
  refine ev_aload_n (i := 0) d_Fu_call_11 rfl rfl rfl ?_
  refine ev_getR d_Fu_call_12 rfl lk_Fu_24 lx_0 rfl ?_
  refine ev_aload_n (i := 0) d_Fu_call_15 rfl rfl rfl ?_
  refine ev_getR d_Fu_call_16 rfl lk_Fu_18 lx_0 rfl ?_
  refine ev_iload_n (i := 1) d_Fu_call_19 rfl rfl rfl ?_
  refine ev_callV (As := [g_i (h : Int)]) d_Fu_call_20 rfl cl_Fu_112 (c_Sg_width_f_w (d + 5) M h w hh hw) (g_hR (by decide)) ⟨Nat.zero_le _, Nat.zero_le _⟩ lx_5 rfl rfl (Nat.le_of_ble_eq_true rfl) rfl rfl ?_
  refine ev_iload_n (i := 2) d_Fu_call_23 rfl rfl rfl ?_
  refine ev_iload_n (i := 3) d_Fu_call_24 rfl rfl rfl ?_
  refine ev_iload (i := 4) d_Fu_call_25 rfl rfl ?_
  refine ev_callV (As := [g_i (w : Int), g_i x, g_i y, g_i z]) d_Fu_call_27 rfl cl_Fu_115 (c_Te_canJoin (d + 4) M w hw3 x y z hB) (g_hR (by decide)) ⟨Nat.zero_le _, Nat.zero_le _⟩ lx_9 rfl rfl (Nat.le_of_ble_eq_true rfl) rfl rfl ?_
  refine ev_if_ne_f (tgt := 43) d_Fu_call_30 (by decide) rfl (by rw [if_neg hf]) ?_
  exact ev_done ⟨rfl, rfl, rfl, rfl, rfl, 77, 124, 81, _, x_ex1, List.mem_of_getElem? (i := 6) rfl, d_Fu_call_33, d_Fu_call_36, d_Fu_call_37, d_Fu_call_39, d_Fu_call_42⟩
theorem c_Fu_call_x2 (d : Nat) (M : g_M) (h w : Nat) (x y z : Int) (hh : h < 6) (hm : (h : Int) < M 5 4) (hw : M 7 h = w) (hw3 : w ≤ 3) (hB : j_B (M 9 9) (M 14) (M 15)) (hf : j_fit (M 9 9) (M 14) (M 15) x y z w) (hl : 100 ≤ M 9 9) : CoX y_Fu_call w_Fu_call (g_ra (d + 6) 1 6) LX M [g_r 0, g_i (h : Int), g_i x, g_i y, g_i z] M x_E2 := by
  refine conX_of (av := [g_r 0, g_i (h : Int), g_i x, g_i y, g_i z]) (ls0 := [some (g_r 0), some (g_i (h : Int)), some (g_i x), some (g_i y), some (g_i z)]) (by decide) rfl (Nat.le_of_ble_eq_true rfl) (g_hls (av := [g_r 0, g_i (h : Int), g_i x, g_i y, g_i z]) (k := 0)) (fun _ h9 => List.mem_cons_of_mem _ h9) rfl ⟨by show 6 ≤ d + 6; omega, by show 90 ≤ 40 * (d + 6); omega⟩ ⟨Nat.le_refl _, Nat.le_refl _⟩ ?_
  refine ev_aload_n (i := 0) d_Fu_call_0 rfl rfl rfl ?_
  refine ev_getR d_Fu_call_1 rfl lk_Fu_18 lx_0 rfl ?_
  refine ev_iload_n (i := 1) d_Fu_call_4 rfl rfl rfl ?_
  refine ev_callV (As := [g_i (h : Int)]) d_Fu_call_5 rfl cl_Fu_108 (c_Sg_has_f (d + 5) M (h : Int)) (g_hR (by decide)) ⟨Nat.zero_le _, Nat.zero_le _⟩ lx_5 rfl rfl (Nat.le_of_ble_eq_true rfl) rfl rfl ?_
  refine ev_if_eq_f (tgt := 33) d_Fu_call_8 (by decide) rfl (by rw [if_pos ⟨by omega, hm⟩]; decide) ?_
  refine ev_aload_n (i := 0) d_Fu_call_11 rfl rfl rfl ?_
  refine ev_getR d_Fu_call_12 rfl lk_Fu_24 lx_0 rfl ?_
  refine ev_aload_n (i := 0) d_Fu_call_15 rfl rfl rfl ?_
  refine ev_getR d_Fu_call_16 rfl lk_Fu_18 lx_0 rfl ?_
  refine ev_iload_n (i := 1) d_Fu_call_19 rfl rfl rfl ?_
  refine ev_callV (As := [g_i (h : Int)]) d_Fu_call_20 rfl cl_Fu_112 (c_Sg_width_f_w (d + 5) M h w hh hw) (g_hR (by decide)) ⟨Nat.zero_le _, Nat.zero_le _⟩ lx_5 rfl rfl (Nat.le_of_ble_eq_true rfl) rfl rfl ?_
  refine ev_iload_n (i := 2) d_Fu_call_23 rfl rfl rfl ?_
  refine ev_iload_n (i := 3) d_Fu_call_24 rfl rfl rfl ?_
  refine ev_iload (i := 4) d_Fu_call_25 rfl rfl ?_
  refine ev_callV (As := [g_i (w : Int), g_i x, g_i y, g_i z]) d_Fu_call_27 rfl cl_Fu_115 (c_Te_canJoin (d + 4) M w hw3 x y z hB) (g_hR (by decide)) ⟨Nat.zero_le _, Nat.zero_le _⟩ lx_9 rfl rfl (Nat.le_of_ble_eq_true rfl) rfl rfl ?_
  refine ev_if_ne_t (tgt := 43) d_Fu_call_30 (by decide) (by rw [if_pos hf]; decide) ?_
  refine ev_aload_n (i := 0) d_Fu_call_43 rfl rfl rfl ?_
  refine ev_getR d_Fu_call_44 rfl lk_Fu_24 lx_0 rfl ?_
  refine ev_callV (As := []) d_Fu_call_47 rfl cl_Fu_101 (c_Te_isFull (d + 5) M) (g_hR (by decide)) ⟨Nat.zero_le _, Nat.zero_le _⟩ lx_9 rfl rfl (Nat.le_of_ble_eq_true rfl) rfl rfl ?_
  refine ev_if_eq_f (tgt := 63) d_Fu_call_50 (by decide) rfl (by rw [if_pos hl]; decide) ?_
  exact ev_done ⟨rfl, rfl, rfl, rfl, rfl, 88, 102, 92, _, x_ex2, List.mem_of_getElem? (i := 4) rfl, d_Fu_call_53, d_Fu_call_56, d_Fu_call_57, d_Fu_call_59, d_Fu_call_62⟩
theorem c_Mo_call (d : Nat) (M : g_M) (h w n : Nat) (x y z : Int) (hh : h < 6) (hm : (h : Int) < M 45 4) (hw : M 50 h = w) (hw3 : w ≤ 3) (hB : j_B (M 45 8) (M 54) (M 55)) (hf : j_fit (M 45 8) (M 54) (M 55) x y z w) (hn : M 45 8 = n) (hl : n < 100) : Con y_Mo_call w_Mo_call (g_rm (d + 2)) LX M [g_r 45, g_i (h : Int), g_i x, g_i y, g_i z] LX (g_up (g_up (g_up (g_up (g_up (g_up (g_up (g_up (g_up M 45 44 0) 45 44 0) 52 n (16 + (h : Int))) 53 (3 * n) x) 53 (3 * n + 1) y) 53 (3 * n + 2) z) 54 n (j_h (M 54) x y z w + 1)) 55 n (j_s (M 55) x y z w)) 45 8 ((n : Int) + 1)) (some (g_i (n : Int))) := by
  refine con_of (av := [g_r 45, g_i (h : Int), g_i x, g_i y, g_i z]) (ls0 := [some (g_r 45), some (g_i (h : Int)), some (g_i x), some (g_i y), some (g_i z)]) (by decide) rfl (Nat.le_of_ble_eq_true rfl) (g_hls (av := [g_r 45, g_i (h : Int), g_i x, g_i y, g_i z]) (k := 0)) (fun _ h9 => List.mem_cons_of_mem _ h9) ?_
  refine ev_aload_n (i := 0) d_Mo_call_0 rfl rfl rfl ?_
  refine ev_iload_n (i := 1) d_Mo_call_1 rfl rfl rfl ?_
  refine ev_if_lt_f (tgt := 13) d_Mo_call_2 (by decide) rfl (by omega) ?_
  refine ev_iload_n (i := 1) d_Mo_call_5 rfl rfl rfl ?_
  refine ev_aload_n (i := 0) d_Mo_call_6 rfl rfl rfl ?_
  refine ev_getI (z := M 45 4) d_Mo_call_7 rfl lk_Mo_127 lx_45 rfl (rfl) ?_
  refine ev_icmp_lt_t (tgt := 17) d_Mo_call_10 (by decide) (hm) ?_
  refine ev_iconst d_Mo_call_17 rfl ⟨by decide, by decide⟩ ?_
  refine ev_putI d_Mo_call_18 rfl lk_Mo_104 fp_Mo_44 (Or.inl rfl) lx_45 rfl ?_
  refine ev_aload_n (i := 0) d_Mo_call_21 rfl rfl rfl ?_
  refine ev_getI (z := 0) d_Mo_call_22 rfl lk_Mo_104 lx_45 rfl (by simp [g_up]) ?_
  refine ev_if_eq_t (tgt := 32) d_Mo_call_25 (by decide) (by decide) ?_
  refine ev_aload_n (i := 0) d_Mo_call_32 rfl rfl rfl ?_
  refine ev_bipush d_Mo_call_33 rfl (by decide +kernel) ⟨by decide, by decide⟩ ?_
  refine ev_iload_n (i := 1) d_Mo_call_35 rfl rfl rfl ?_
  refine ev_iadd (z := 16 + (h : Int)) d_Mo_call_36 rfl (g_w_id (by unfold g_rg; omega)) ?_
  refine ev_aload_n (i := 0) d_Mo_call_37 rfl rfl rfl ?_
  refine ev_getR d_Mo_call_38 rfl lk_Mo_22 lx_45 rfl ?_
  refine ev_iload_n (i := 1) d_Mo_call_41 rfl rfl rfl ?_
  refine ev_iaload (z := (w : Int)) d_Mo_call_42 rfl lx_50 (by omega) (by omega) (by simp [g_up, hw]) ?_
  refine ev_iload_n (i := 2) d_Mo_call_43 rfl rfl rfl ?_
  refine ev_iload_n (i := 3) d_Mo_call_44 rfl rfl rfl ?_
  refine ev_iload (i := 4) d_Mo_call_45 rfl rfl ?_
  refine ev_callV (As := [g_i (16 + (h : Int)), g_i ((w : Int)), g_i x, g_i y, g_i z]) d_Mo_call_47 rfl cl_Mo_137 (c_Mo_build (d + 0) (g_up M 45 44 0) w n (16 + (h : Int)) x y z hw3 hB hf hn hl) (g_hR (by decide)) g_h0 lx_45 rfl rfl (Nat.le_of_ble_eq_true rfl) rfl rfl ?_
  exact ev_retI d_Mo_call_50 (by first | rfl | omega | simp_all) rfl (Or.inl rfl)
theorem c_Mo_call_x1 (d : Nat) (M : g_M) (h w : Nat) (x y z : Int) (hh : h < 6) (hm : (h : Int) < M 45 4) (hw : M 50 h = w) (hw3 : w ≤ 3) (hB : j_B (M 45 8) (M 54) (M 55)) (hf : ¬ j_fit (M 45 8) (M 54) (M 55) x y z w) : Con y_Mo_call w_Mo_call (g_rm (d + 2)) LX M [g_r 45, g_i (h : Int), g_i x, g_i y, g_i z] LX (g_up (g_up M 45 44 0) 45 44 1) (some (g_i 0)) := by
  refine con_of (av := [g_r 45, g_i (h : Int), g_i x, g_i y, g_i z]) (ls0 := [some (g_r 45), some (g_i (h : Int)), some (g_i x), some (g_i y), some (g_i z)]) (by decide) rfl (Nat.le_of_ble_eq_true rfl) (g_hls (av := [g_r 45, g_i (h : Int), g_i x, g_i y, g_i z]) (k := 0)) (fun _ h9 => List.mem_cons_of_mem _ h9) ?_
  refine ev_aload_n (i := 0) d_Mo_call_0 rfl rfl rfl ?_
  refine ev_iload_n (i := 1) d_Mo_call_1 rfl rfl rfl ?_
  refine ev_if_lt_f (tgt := 13) d_Mo_call_2 (by decide) rfl (by omega) ?_
  refine ev_iload_n (i := 1) d_Mo_call_5 rfl rfl rfl ?_
  refine ev_aload_n (i := 0) d_Mo_call_6 rfl rfl rfl ?_
  refine ev_getI (z := M 45 4) d_Mo_call_7 rfl lk_Mo_127 lx_45 rfl (rfl) ?_
  refine ev_icmp_lt_t (tgt := 17) d_Mo_call_10 (by decide) (hm) ?_
  refine ev_iconst d_Mo_call_17 rfl ⟨by decide, by decide⟩ ?_
  refine ev_putI d_Mo_call_18 rfl lk_Mo_104 fp_Mo_44 (Or.inl rfl) lx_45 rfl ?_
  refine ev_aload_n (i := 0) d_Mo_call_21 rfl rfl rfl ?_
  refine ev_getI (z := 0) d_Mo_call_22 rfl lk_Mo_104 lx_45 rfl (by simp [g_up]) ?_
  refine ev_if_eq_t (tgt := 32) d_Mo_call_25 (by decide) (by decide) ?_
  refine ev_aload_n (i := 0) d_Mo_call_32 rfl rfl rfl ?_
  refine ev_bipush d_Mo_call_33 rfl (by decide +kernel) ⟨by decide, by decide⟩ ?_
  refine ev_iload_n (i := 1) d_Mo_call_35 rfl rfl rfl ?_
  refine ev_iadd (z := 16 + (h : Int)) d_Mo_call_36 rfl (g_w_id (by unfold g_rg; omega)) ?_
  refine ev_aload_n (i := 0) d_Mo_call_37 rfl rfl rfl ?_
  refine ev_getR d_Mo_call_38 rfl lk_Mo_22 lx_45 rfl ?_
  refine ev_iload_n (i := 1) d_Mo_call_41 rfl rfl rfl ?_
  refine ev_iaload (z := (w : Int)) d_Mo_call_42 rfl lx_50 (by omega) (by omega) (by simp [g_up, hw]) ?_
  refine ev_iload_n (i := 2) d_Mo_call_43 rfl rfl rfl ?_
  refine ev_iload_n (i := 3) d_Mo_call_44 rfl rfl rfl ?_
  refine ev_iload (i := 4) d_Mo_call_45 rfl rfl ?_
  refine ev_callV (As := [g_i (16 + (h : Int)), g_i ((w : Int)), g_i x, g_i y, g_i z]) d_Mo_call_47 rfl cl_Mo_137 (c_Mo_build_x1 (d + 0) (g_up M 45 44 0) w (16 + (h : Int)) x y z hw3 hB hf) (g_hR (by decide)) g_h0 lx_45 rfl rfl (Nat.le_of_ble_eq_true rfl) rfl rfl ?_
  exact ev_retI d_Mo_call_50 (by first | rfl | omega | simp_all) rfl (Or.inl rfl)
theorem c_Mo_call_x2 (d : Nat) (M : g_M) (h w : Nat) (x y z : Int) (hh : h < 6) (hm : (h : Int) < M 45 4) (hw : M 50 h = w) (hw3 : w ≤ 3) (hB : j_B (M 45 8) (M 54) (M 55)) (hf : j_fit (M 45 8) (M 54) (M 55) x y z w) (hn : M 45 8 = 100) : Con y_Mo_call w_Mo_call (g_rm (d + 2)) LX M [g_r 45, g_i (h : Int), g_i x, g_i y, g_i z] LX (g_up (g_up M 45 44 0) 45 44 2) (some (g_i 0)) := by
  refine con_of (av := [g_r 45, g_i (h : Int), g_i x, g_i y, g_i z]) (ls0 := [some (g_r 45), some (g_i (h : Int)), some (g_i x), some (g_i y), some (g_i z)]) (by decide) rfl (Nat.le_of_ble_eq_true rfl) (g_hls (av := [g_r 45, g_i (h : Int), g_i x, g_i y, g_i z]) (k := 0)) (fun _ h9 => List.mem_cons_of_mem _ h9) ?_
  refine ev_aload_n (i := 0) d_Mo_call_0 rfl rfl rfl ?_
  refine ev_iload_n (i := 1) d_Mo_call_1 rfl rfl rfl ?_
  refine ev_if_lt_f (tgt := 13) d_Mo_call_2 (by decide) rfl (by omega) ?_
  refine ev_iload_n (i := 1) d_Mo_call_5 rfl rfl rfl ?_
  refine ev_aload_n (i := 0) d_Mo_call_6 rfl rfl rfl ?_
  refine ev_getI (z := M 45 4) d_Mo_call_7 rfl lk_Mo_127 lx_45 rfl (rfl) ?_
  refine ev_icmp_lt_t (tgt := 17) d_Mo_call_10 (by decide) (hm) ?_
  refine ev_iconst d_Mo_call_17 rfl ⟨by decide, by decide⟩ ?_
  refine ev_putI d_Mo_call_18 rfl lk_Mo_104 fp_Mo_44 (Or.inl rfl) lx_45 rfl ?_
  refine ev_aload_n (i := 0) d_Mo_call_21 rfl rfl rfl ?_
  refine ev_getI (z := 0) d_Mo_call_22 rfl lk_Mo_104 lx_45 rfl (by simp [g_up]) ?_
  refine ev_if_eq_t (tgt := 32) d_Mo_call_25 (by decide) (by decide) ?_
  refine ev_aload_n (i := 0) d_Mo_call_32 rfl rfl rfl ?_
  refine ev_bipush d_Mo_call_33 rfl (by decide +kernel) ⟨by decide, by decide⟩ ?_
  refine ev_iload_n (i := 1) d_Mo_call_35 rfl rfl rfl ?_
  refine ev_iadd (z := 16 + (h : Int)) d_Mo_call_36 rfl (g_w_id (by unfold g_rg; omega)) ?_
  refine ev_aload_n (i := 0) d_Mo_call_37 rfl rfl rfl ?_
  refine ev_getR d_Mo_call_38 rfl lk_Mo_22 lx_45 rfl ?_
  refine ev_iload_n (i := 1) d_Mo_call_41 rfl rfl rfl ?_
  refine ev_iaload (z := (w : Int)) d_Mo_call_42 rfl lx_50 (by omega) (by omega) (by simp [g_up, hw]) ?_
  refine ev_iload_n (i := 2) d_Mo_call_43 rfl rfl rfl ?_
  refine ev_iload_n (i := 3) d_Mo_call_44 rfl rfl rfl ?_
  refine ev_iload (i := 4) d_Mo_call_45 rfl rfl ?_
  refine ev_callV (As := [g_i (16 + (h : Int)), g_i ((w : Int)), g_i x, g_i y, g_i z]) d_Mo_call_47 rfl cl_Mo_137 (c_Mo_build_x2 (d + 0) (g_up M 45 44 0) w (16 + (h : Int)) x y z hw3 hB hf hn) (g_hR (by decide)) g_h0 lx_45 rfl rfl (Nat.le_of_ble_eq_true rfl) rfl rfl ?_
  exact ev_retI d_Mo_call_50 (by first | rfl | omega | simp_all) rfl (Or.inl rfl)
