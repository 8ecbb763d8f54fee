/-- what the class's check leaves -/
def h0 (M M2 : g_M) : Prop := ∀ k b : Nat, k ≠ 0 → k < 26 ∨ 33 < k → M2 k b = M k b
theorem h0.rf (M : g_M) : h0 M M := fun _ _ _ _ => rfl
theorem h0.tr {M M1 M2 : g_M} (h : h0 M M1) (h2 : h0 M1 M2) : h0 M M2 := fun k b h3 h4 => (h2 k b h3 h4).trans (h k b h3 h4)
theorem h0.f0 {M M2 : g_M} (h : h0 M M2) : r_f0 M M2 := ⟨fun k hk => funext fun b => h k b (by omega) (by omega), h 45 0 (by decide) (by decide), h 45 4 (by decide) (by decide), h 45 8 (by decide) (by decide), h 45 13 (by decide) (by decide)⟩
theorem h0_up (M : g_M) (i : Nat) (z : Int) : h0 M (g_up M 0 i z) := fun k b h1 _ => by rw [g_up_ne h1]
theorem e26.h0 {M M2 : g_M} (h : e26 M M2) : h0 M M2 := fun k b _ hk => h k b (by omega)
theorem e289.h0 {M M2 : g_M} (h : e289 M M2) : h0 M M2 := fun k b _ hk => h k b (by omega) (by omega)
theorem g3.h0 {M M2 : g_M} (h : g3 M M2) : h0 M M2 := fun k b _ hk => h k b (by omega)
/-- inhabited, as the class sees it -/
theorem h_inh_c {M : g_M} (hP : r_P M) {m m2 : Nat} (hm : M 45 0 = m) (hm2 : M 45 4 = m2) : (h_u (M 2) (M 3) (M 4) m ++ h_u (M 6) (M 7) (M 8) m2).all (h_r (M 2) (M 3) (M 4) m 3) = h_inh M := by
  have k1 := r_S_k hP.1.2.2
  have k2 := r_S_k hP.2.1.2.2
  rw [hm, Int.toNat_natCast] at k1
  rw [hm2, Int.toNat_natCast] at k2
  unfold h_inh
  rw [hm, hm2, Int.toNat_natCast, Int.toNat_natCast, h_u_cg m k1, h_u_cg m2 k2, h_r_cg k1]
theorem w_T_f0 {M M2 : g_M} (hP : r_P M) (h : r_f0 M M2) : w_T M2 ↔ w_T M := w_T_le hP h.ex
theorem w_C_f0 {M M2 : g_M} (hP : r_P M) (h : r_f0 M M2) : w_C M2 ↔ w_C M := w_C_le hP h.ex
theorem o_R_f0 {M M2 : g_M} (hP : r_P M) (h : r_f0 M M2) (x : Nat) : o_R M2 x ↔ o_R M x := o_R_le hP h.ex x
theorem h_inh_f0 {M M2 : g_M} (h : r_f0 M M2) : h_inh M2 = h_inh M := by
  unfold h_inh
  rw [h.2.1, h.2.2.1, h.e46 46 (by decide), h.e46 47 (by decide), h.e46 48 (by decide), h.e46 49 (by decide), h.e46 50 (by decide), h.e46 51 (by decide)]
theorem c_Fu_findWhatIsWrong (d : Nat) (M : g_M) (m m2 mm : Nat) (hP : r_P M) (hm0b : M 45 0 = m) (hm4b : M 45 4 = m2) (hmm13b : M 45 13 = mm) : ConR y_Fu_findWhatIsWrong w_Fu_findWhatIsWrong (g_rm (d + 211)) LX M [g_r 0] LX (fun M2 v2 => ∃ v g : Int, v2 = some (g_i v) ∧ h0 M M2 ∧ M2 0 8 = M 0 8 ∧ M2 0 9 = g ∧ w_X M v g) := by
  refine con_ofR (av := [g_r 0]) (ls0 := [some (g_r 0)]) (by decide) rfl (Nat.le_of_ble_eq_true rfl) (g_hls (av := [g_r 0]) (k := 0)) (fun _ h9 => List.mem_cons_of_mem _ h9) ?_
  have hf1 : r_f0 M (g_up M 0 9 0) := (h0_up M 9 0).f0
  have hP1 := r_P_f0 hP hf1
  have hm0 : (g_up M 0 9 0) 45 0 = m := hm0b
  have hm4 : (g_up M 0 9 0) 45 4 = m2 := hm4b
  have hmm13 : (g_up M 0 9 0) 45 13 = mm := hmm13b
  have hm1 : (g_up M 0 9 0) 1 4 = m := hP1.1.1.trans hm0
  have hm5 : (g_up M 0 9 0) 5 4 = m2 := hP1.2.1.1.trans hm4
  have hmm19 : (g_up M 0 9 0) 19 7 = mm := hP1.2.2.2.1.trans hmm13
  have hS := hP1.1.2.2
  rw [hm0] at hS
  have hS2 := hP1.2.1.2.2
  rw [hm4] at hS2
  have hm26 : m2 ≤ 6 := by have := hS2.2.1; omega
  refine ev_aload_n (i := 0) d_Fu_findWhatIsWrong_0 rfl rfl rfl ?_
  refine ev_iconst d_Fu_findWhatIsWrong_1 rfl ⟨by decide, by decide⟩ ?_
  refine ev_putI d_Fu_findWhatIsWrong_2 rfl lk_Fu_146 fp_Fu_9 (Or.inl rfl) lx_0 rfl ?_
  refine ev_aload_n (i := 0) d_Fu_findWhatIsWrong_5 rfl rfl rfl ?_
  refine ev_getR d_Fu_findWhatIsWrong_6 rfl lk_Fu_42 lx_0 rfl ?_
  refine ev_callV (As := []) d_Fu_findWhatIsWrong_9 rfl cl_Fu_210 ((c_Ty_allInhabited (d + 207) (g_up M 0 9 0) m m2 _ _ _ _ _ _ hS hm1 hS2 hm5).eqr (b := if h_inh M = true then 1 else 0) (by rw [h_inh_c hP1 hm0 hm4, h_inh_f0 hf1])) (g_hR (by decide)) g_h0 lx_25 rfl rfl (Nat.le_of_ble_eq_true rfl) rfl rfl ?_
  refine ev_bne (tgt := 17) d_Fu_findWhatIsWrong_12 (by decide) rfl (fun c1 => ?_) (fun c1 => ?_)
  · refine ev_aload_n (i := 0) d_Fu_findWhatIsWrong_17 rfl rfl rfl ?_
    refine ev_getR d_Fu_findWhatIsWrong_18 rfl lk_Fu_42 lx_0 rfl ?_
    refine ev_callVR (As := []) d_Fu_findWhatIsWrong_21 rfl cl_Fu_213 (c_Ty_allTyped (d + 107) (g_up M 0 9 0) mm hP1 hmm19 hmm13) (g_hR (by decide)) g_h0 lx_25 rfl rfl (Nat.le_of_ble_eq_true rfl) rfl rfl (fun M2 v9 g9 => ?_)
    obtain ⟨r2, rfl, hr2, he2, hi2⟩ := g9
    have hf2 : r_f0 M M2 := ((h0_up M 9 0).tr he2.h0).f0
    have hP2 := r_P_f0 hP hf2
    have hi2 : r2 = 1 ↔ w_T M := by
      rw [hi2, ← w_T_f0 hP hf1]
      exact ⟨fun h c hc => h c (by omega), fun h c hc => h c (by omega)⟩
    refine ev_if_ne (tgt := 29) d_Fu_findWhatIsWrong_24 (by decide) rfl (fun c2 => ?_) (fun c2 => ?_)
    · refine ev_aload_n (i := 0) d_Fu_findWhatIsWrong_29 rfl rfl rfl ?_
      refine ev_getR d_Fu_findWhatIsWrong_30 rfl lk_Fu_49 lx_0 rfl ?_
      refine ev_callVR (As := []) d_Fu_findWhatIsWrong_33 rfl cl_Fu_216 (c_Co_allCovered (d + 181) M2 m2 hP2 (y_i_of hP2 (by rw [h_inh_f0 hf2]; exact c1)) ((he2 5 4 (by decide)).trans hm5) (by rw [hf2.2.2.1]; exact hm4b) (by omega)) (g_hR (by decide)) g_h0 lx_27 rfl rfl (Nat.le_of_ble_eq_true rfl) rfl rfl (fun M3 v9 g9 => ?_)
      obtain ⟨r3, rfl, hr3, he3, hi3⟩ := g9
      have hf3 : r_f0 M M3 := (((h0_up M 9 0).tr he2.h0).tr he3.h0).f0
      have hP3 := r_P_f0 hP hf3
      have hi3 : r3 = 1 ↔ w_C M := by
        rw [hi3, ← w_C_f0 hP hf2]
        unfold w_C
        rw [hf2.2.2.1, hm4b]
        exact ⟨fun h f hf => h f (by omega), fun h f hf => h f (by omega)⟩
      refine ev_if_ne (tgt := 41) d_Fu_findWhatIsWrong_36 (by decide) rfl (fun c3 => ?_) (fun c3 => ?_)
      · refine ev_aload_n (i := 0) d_Fu_findWhatIsWrong_41 rfl rfl rfl ?_
        refine ev_aload_n (i := 0) d_Fu_findWhatIsWrong_42 rfl rfl rfl ?_
        refine ev_getR d_Fu_findWhatIsWrong_43 rfl lk_Fu_58 lx_0 rfl ?_
        refine ev_callVR (As := []) d_Fu_findWhatIsWrong_46 rfl cl_Fu_219 (c_En_makeGraphs (d + 5) M3 mm hP3 (((he3 19 7 (by decide) (by decide)).trans (he2 19 7 (by decide))).trans hmm19) (by rw [hf3.2.2.2.2]; exact hmm13b)) (g_hR (by decide)) g_h0 lx_30 rfl rfl (Nat.le_of_ble_eq_true rfl) rfl rfl (fun M4 v9 g9 => ?_)
        obtain ⟨r4, rfl, hg4, l, hD4, hall4, hl200, hr4⟩ := g9
        have hf4 : r_f0 M M4 := ((((h0_up M 9 0).tr he2.h0).tr he3.h0).tr hg4.h0).f0
        refine ev_putI d_Fu_findWhatIsWrong_49 rfl lk_Fu_146 fp_Fu_9 (Or.inl rfl) lx_0 rfl ?_
        refine ev_aload_n (i := 0) d_Fu_findWhatIsWrong_52 rfl rfl rfl ?_
        refine ev_getR d_Fu_findWhatIsWrong_53 rfl lk_Fu_58 lx_0 rfl ?_
        refine ev_callVR (As := []) d_Fu_findWhatIsWrong_56 rfl cl_Fu_222 (c_En_allEnd (d + 208) M3 (g_up M4 0 9 r4) l (o_D_cg rfl rfl rfl rfl hD4)) (g_hR (by decide)) g_h0 lx_30 rfl rfl (Nat.le_of_ble_eq_true rfl) rfl rfl (fun M9 v9 g9 => ?_)
        obtain ⟨e9, r5, rfl, hr5, hi5⟩ := g9
        rw [e9]
        have hX4 : o_Q M r4 ∧ (r5 = 1 ↔ (r4 ≤ 200 ∧ o_E M)) := by
          have hR : ∀ x, o_R M3 x ↔ o_R M x := o_R_f0 hP hf3
          have h57 : (g_up M4 0 9 r4) 30 7 = M4 30 7 := rfl
          rw [h57] at hi5
          rcases hr4 with ⟨h7, h8⟩ | ⟨h7, h8⟩
          · refine ⟨⟨l, hD4.1.2.1, fun x hx => (hR x).mp (hD4.2.1 x hx), h8.symm, by omega, fun _ x hx => hall4 h7 x ((hR x).mpr hx)⟩, ?_⟩
            rw [hi5]
            constructor
            · intro h
              exact ⟨by omega, fun x hx => h.2 x (hall4 h7 x ((hR x).mpr hx))⟩
            · intro h
              exact ⟨h7, fun x hx => h.2 x ((hR x).mp (hD4.2.1 x hx))⟩
          · have hD7 := hD4.2.2.resolve_left (by omega)
            obtain ⟨-, g2, y, y1, y2⟩ := hD7
            refine ⟨⟨l ++ [y], List.nodup_append.mpr ⟨hD4.1.2.1, by simp, fun a ha b hb hab => y2 (by rw [List.mem_singleton.mp hb] at hab; exact hab ▸ ha)⟩, fun x hx => (List.mem_append.mp hx).elim (fun h9 => (hR x).mp (hD4.2.1 x h9)) (fun h9 => by rw [List.mem_singleton.mp h9]; exact (hR y).mp y1), by rw [List.length_append, g2, h8]; rfl, by rw [List.length_append, g2]; simp, fun h9 => by rw [List.length_append, g2] at h9; simp at h9⟩, ?_⟩
            rw [hi5]
            constructor
            · intro h; omega
            · intro h; omega
        refine ev_if_eq (tgt := 66) d_Fu_findWhatIsWrong_59 (by decide) rfl (fun c5 => ?_) (fun c5 => ?_)
        · refine ev_iconst d_Fu_findWhatIsWrong_66 rfl ⟨by decide, by decide⟩ ?_
          exact ev_retIR d_Fu_findWhatIsWrong_67 (⟨4, r4, rfl, ((((h0_up M 9 0).tr he2.h0).tr he3.h0).tr hg4.h0).tr (h0_up M4 9 r4), ((hg4 0 8 (by decide)).trans ((he3 0 8 (by decide) (by decide)).trans (he2 0 8 (by decide)))), by simp [g_up], Or.inr ⟨c1, Or.inr ⟨hi2.mp (by omega), Or.inr ⟨hi3.mp (by omega), hX4.1, Or.inr ⟨fun h9 => absurd (hX4.2.mpr h9) (by omega), rfl⟩⟩⟩⟩⟩) (Or.inl rfl)
        · refine ev_iconst d_Fu_findWhatIsWrong_62 rfl ⟨by decide, by decide⟩ ?_
          refine ev_goto (tgt := 67) d_Fu_findWhatIsWrong_63 (by decide) ?_
          exact ev_retIR d_Fu_findWhatIsWrong_67 (⟨0, r4, rfl, ((((h0_up M 9 0).tr he2.h0).tr he3.h0).tr hg4.h0).tr (h0_up M4 9 r4), ((hg4 0 8 (by decide)).trans ((he3 0 8 (by decide) (by decide)).trans (he2 0 8 (by decide)))), by simp [g_up], Or.inr ⟨c1, Or.inr ⟨hi2.mp (by omega), Or.inr ⟨hi3.mp (by omega), hX4.1, Or.inl ⟨(hX4.2.mp (by omega)).1, (hX4.2.mp (by omega)).2, rfl⟩⟩⟩⟩⟩) (Or.inl rfl)
      · refine ev_iconst d_Fu_findWhatIsWrong_39 rfl ⟨by decide, by decide⟩ ?_
        exact ev_retIR d_Fu_findWhatIsWrong_40 (⟨3, 0, rfl, ((h0_up M 9 0).tr he2.h0).tr he3.h0, (he3 0 8 (by decide) (by decide)).trans (he2 0 8 (by decide)), by rw [he3 0 9 (by decide) (by decide), he2 0 9 (by decide)]; simp [g_up], Or.inr ⟨c1, Or.inr ⟨hi2.mp (by omega), Or.inl ⟨fun h9 => absurd (hi3.mpr h9) (by omega), rfl, rfl⟩⟩⟩⟩) (Or.inl rfl)
    · refine ev_iconst d_Fu_findWhatIsWrong_27 rfl ⟨by decide, by decide⟩ ?_
      exact ev_retIR d_Fu_findWhatIsWrong_28 (⟨2, 0, rfl, (h0_up M 9 0).tr he2.h0, he2 0 8 (by decide), by rw [he2 0 9 (by decide)]; simp [g_up], Or.inr ⟨c1, Or.inl ⟨fun h9 => absurd (hi2.mpr h9) (by omega), rfl, rfl⟩⟩⟩) (Or.inl rfl)
  · refine ev_iconst d_Fu_findWhatIsWrong_15 rfl ⟨by decide, by decide⟩ ?_
    exact ev_retIR d_Fu_findWhatIsWrong_16 (⟨1, 0, rfl, h0_up M 9 0, rfl, by simp [g_up], Or.inl ⟨Bool.eq_false_iff.mpr c1, rfl, rfl⟩⟩) (Or.inl rfl)
theorem c_Fu_check (d : Nat) (M : g_M) (m m2 mm : Nat) (hP : r_P M) (hm0 : M 45 0 = m) (hm4 : M 45 4 = m2) (hmm : M 45 13 = mm) (hv : M 0 8 = -1) : ConR y_Fu_check w_Fu_check (g_rm (d + 212)) LX M [g_r 0] LX (fun M2 v2 => ∃ v g : Int, v2 = some (g_i v) ∧ h0 M M2 ∧ M2 0 8 = v ∧ M2 0 9 = g ∧ w_X M v g) := by
  refine con_ofR (av := [g_r 0]) (ls0 := [some (g_r 0)]) (by decide) rfl (Nat.le_of_ble_eq_true rfl) (g_hls (av := [g_r 0]) (k := 0)) (fun _ h9 => List.mem_cons_of_mem _ h9) ?_
  refine ev_aload_n (i := 0) d_Fu_check_0 rfl rfl rfl ?_
  refine ev_getI (z := (-1)) d_Fu_check_1 rfl lk_Fu_69 lx_0 rfl (hv) ?_
  refine ev_iconst d_Fu_check_4 rfl ⟨by decide, by decide⟩ ?_
  refine ev_icmp_ne_f (tgt := 16) d_Fu_check_5 (by decide) rfl (by decide) ?_
  refine ev_aload_n (i := 0) d_Fu_check_8 rfl rfl rfl ?_
  refine ev_aload_n (i := 0) d_Fu_check_9 rfl rfl rfl ?_
  refine ev_callVR (As := []) d_Fu_check_10 rfl cl_Fu_142 (c_Fu_findWhatIsWrong (d + 0) M m m2 mm hP hm0 hm4 hmm) (g_hR (by decide)) g_h0 lx_0 rfl rfl (Nat.le_of_ble_eq_true rfl) rfl rfl (fun M2 v9 g9 => ?_)
  obtain ⟨v, g, rfl, hf, h8, h9, hX⟩ := g9
  refine ev_putI d_Fu_check_13 rfl lk_Fu_69 fp_Fu_8 (Or.inl rfl) lx_0 rfl ?_
  refine ev_aload_n (i := 0) d_Fu_check_16 rfl rfl rfl ?_
  refine ev_getI (z := v) d_Fu_check_17 rfl lk_Fu_69 lx_0 rfl (by simp [g_up]) ?_
  exact ev_retIR d_Fu_check_20 (⟨v, g, rfl, hf.tr (h0_up _ _ _), by simp [g_up], h9, hX⟩) (Or.inl rfl)
theorem c_Fu_check_k (d : Nat) (M : g_M) (v : Int) (hv : M 0 8 = v) (hne : v ≠ -1) : Con y_Fu_check w_Fu_check (g_rm (d)) LX M [g_r 0] LX M (some (g_i v)) := by
  refine con_of (av := [g_r 0]) (ls0 := [some (g_r 0)]) (by decide) rfl (Nat.le_of_ble_eq_true rfl) (g_hls (av := [g_r 0]) (k := 0)) (fun _ h9 => List.mem_cons_of_mem _ h9) ?_
  refine ev_aload_n (i := 0) d_Fu_check_0 rfl rfl rfl ?_
  refine ev_getI (z := v) d_Fu_check_1 rfl lk_Fu_69 lx_0 rfl (hv) ?_
  refine ev_iconst d_Fu_check_4 rfl ⟨by decide, by decide⟩ ?_
  refine ev_icmp_ne_t (tgt := 16) d_Fu_check_5 (by decide) (hne) ?_
  refine ev_aload_n (i := 0) d_Fu_check_16 rfl rfl rfl ?_
  refine ev_getI (z := v) d_Fu_check_17 rfl lk_Fu_69 lx_0 rfl (hv) ?_
  exact ev_retI d_Fu_check_20 (by first | rfl | omega | simp_all) rfl (Or.inl rfl)
