theorem c_Mo_places_w (d : Nat) (M : g_M) (t w : Nat) (ht : t < 100) (h0 : 0 ≤ M 52 t) (h1 : M 52 t < 22) (hw : q_w M t = w) : Con y_Mo_places w_Mo_places (g_rm d) LX M [g_r 45, g_i (t : Int)] LX M (some (g_i (w : Int))) := by
  rw [← hw]
  exact c_Mo_places d M t ht h0 h1
theorem c_Mo_pushBelow (d : Nat) (M : g_M) (t w : Nat) (S : List Nat) (ht : t < 100) (h0 : 0 ≤ M 52 t) (h1 : M 52 t < 22) (hw : q_w M t = w) (hw3 : w ≤ 3) (hp : ∀ k, k < w → 0 ≤ M 53 (3 * t + k)) (hS : q_st M S) (hl : S.length + w ≤ 200) : ConR y_Mo_pushBelow w_Mo_pushBelow (g_rm (d + 1)) LX M [g_r 45, g_i (t : Int)] LX (fun M2 v2 => v2 = none ∧ q_st M2 (q_ks M t w 0 ++ S) ∧ q_eq M M2) := by
  refine con_ofR (av := [g_r 45, g_i (t : Int)]) (ls0 := [some (g_r 45), some (g_i (t : Int)), none]) (by decide) rfl (Nat.le_of_ble_eq_true rfl) (g_hls (av := [g_r 45, g_i (t : Int)]) (k := 1)) (fun _ h9 => List.mem_cons_of_mem _ h9) ?_
  refine ev_aload_n (i := 0) d_Mo_pushBelow_0 rfl rfl rfl ?_
  refine ev_iload_n (i := 1) d_Mo_pushBelow_1 rfl rfl rfl ?_
  refine ev_callV (As := [g_i (t : Int)]) d_Mo_pushBelow_2 rfl cl_Mo_144 (c_Mo_places_w (d + 0) M t w ht h0 h1 hw) (g_hR (by decide)) g_h0 lx_45 rfl rfl (Nat.le_of_ble_eq_true rfl) rfl rfl ?_
  refine ev_iconst d_Mo_pushBelow_5 rfl ⟨by decide, by decide⟩ ?_
  refine ev_isub (z := (w : Int) - 1) d_Mo_pushBelow_6 rfl (g_w_id (by unfold g_rg; omega)) ?_
  refine ev_istore_n (i := 2) d_Mo_pushBelow_7 rfl rfl (by decide) rfl ?_
  refine ev_wh (fun n ls1 M1 => n ≤ w ∧ ls1 = [some (g_r 45), some (g_i (t : Int)), some (g_i ((n : Int) - 1))] ∧ q_st M1 (q_ks M t w n ++ S) ∧ q_eq M M1) ?_ (n := w) (⟨Nat.le_refl _, rfl, by rw [q_ks_0]; exact hS, q_eq.rf _⟩)
  intro n ls1 M1 hP ih
  obtain ⟨hn, rfl, hs1, hq1⟩ := hP
  refine ev_iload_n (i := 2) d_Mo_pushBelow_8 rfl rfl rfl ?_
  refine ev_if_lt (tgt := 33) d_Mo_pushBelow_9 (by decide) rfl (fun hz => ?_) (fun hz => ?_)
  · exact ev_retVR d_Mo_pushBelow_33 (by have e : n = 0 := (by omega); subst e; exact ⟨rfl, hs1, hq1⟩)
  · obtain ⟨m, hm⟩ : ∃ m, n = m + 1 := ⟨n - 1, by omega⟩
    refine ev_aload_n (i := 0) d_Mo_pushBelow_12 rfl rfl rfl ?_
    refine ev_aload_n (i := 0) d_Mo_pushBelow_13 rfl rfl rfl ?_
    refine ev_getR d_Mo_pushBelow_14 rfl lk_Mo_31 lx_45 rfl ?_
    refine ev_iconst d_Mo_pushBelow_17 rfl ⟨by decide, by decide⟩ ?_
    refine ev_iload_n (i := 1) d_Mo_pushBelow_18 rfl rfl rfl ?_
    refine ev_imul (z := 3 * (t : Int)) d_Mo_pushBelow_19 rfl (g_w_id (by unfold g_rg; omega)) ?_
    refine ev_iload_n (i := 2) d_Mo_pushBelow_20 rfl rfl rfl ?_
    refine ev_iadd (z := 3 * (t : Int) + ((n : Int) - 1)) d_Mo_pushBelow_21 rfl (g_w_id (by unfold g_rg; omega)) ?_
    refine ev_iaload (z := ((M 53 (3 * t + m)).toNat : Int)) d_Mo_pushBelow_22 rfl lx_53 (by omega) (by omega) (by rw [show (3 * (t : Int) + ((n : Int) - 1)).toNat = 3 * t + m by omega, hq1 53 _ (by decide) (by decide) (by omega)]; have := hp m (by omega); omega) ?_
    refine ev_iconst d_Mo_pushBelow_23 rfl ⟨by decide, by decide⟩ ?_
    refine ev_callV (As := [g_i (((M 53 (3 * t + m)).toNat : Int)), g_i 0]) d_Mo_pushBelow_24 rfl cl_Mo_148 (c_Mo_push (d + 0) M1 (q_ks M t w n ++ S) ((M 53 (3 * t + m)).toNat : Int) 0 hs1 (by rw [List.length_append, q_ks_len]; omega)) (g_hR (by decide)) g_h0 lx_45 rfl rfl (Nat.le_of_ble_eq_true rfl) rfl rfl ?_
    refine ev_iinc (z := ((n : Int) - 1) + (-1)) d_Mo_pushBelow_27 rfl rfl (by decide) (g_w_id (by unfold g_rg; omega)) rfl ?_
    refine ev_goto (tgt := 8) d_Mo_pushBelow_30 (by decide) ?_
    exact ih m _ _ (by omega) ⟨by omega, by rw [show (n : Int) - 1 + -1 = (m : Int) - 1 by omega]; rfl, by rw [q_ks_s M t w m (by omega), ← hm]; exact q_push _ _ hs1, hq1.tr (q_up _ _ _ _ _)⟩
